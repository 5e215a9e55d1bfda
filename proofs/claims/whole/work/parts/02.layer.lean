/-! the layer over the kit: one form of contract, one row a call -/
def nestL : List Cond := [.methodLinkNest RX4 9 yX2_init RX4, .methodLinkNest RX2 11 yX0_init RX4, .fieldLinkNest RX4 115 "TowardTheLoudest$Bay" "kind" "[I" RX4, .fieldLinkNest RX2 124 "TowardTheLoudest$Bay" "kind" "[I" RX4, .fieldLinkNest RX4 118 "TowardTheLoudest$Bay" "figure" "[I" RX4, .fieldLinkNest RX2 127 "TowardTheLoudest$Bay" "figure" "[I" RX4, .fieldLinkNest RX4 121 "TowardTheLoudest$Bay" "place" "[I" RX4, .fieldLinkNest RX2 97 "TowardTheLoudest$Bay" "place" "[I" RX4, .fieldLinkNest RX4 124 "TowardTheLoudest$Bay" "powder" "[I" RX4, .fieldLinkNest RX4 131 "TowardTheLoudest$Bay" "joy" "[I" RX4, .fieldLinkNest RX2 85 "TowardTheLoudest$Bay" "quiet" "I" RX4, .fieldLinkNest RX4 155 "TowardTheLoudest$Bay" "quiet" "I" RX4, .fieldLinkNest RX2 56 "TowardTheLoudest$Bay" "shores" "I" RX4, .fieldLinkNest RX4 52 "TowardTheLoudest$Bay" "shores" "I" RX4, .fieldLinkNest RX1 46 "TowardTheLoudest$Bay" "shores" "I" RX4, .fieldLinkNest RX2 64 "TowardTheLoudest$Bay" "islePlace" "I" RX4, .fieldLinkNest RX4 140 "TowardTheLoudest$Bay" "islePlace" "I" RX4, .fieldLinkNest RX4 143 "TowardTheLoudest$Bay" "pace" "I" RX4, .fieldLinkNest RX2 130 "TowardTheLoudest$Bay" "pace" "I" RX4, .fieldLinkNest RX2 82 "TowardTheLoudest$Bay" "hour" "I" RX4, .fieldLinkNest RX4 149 "TowardTheLoudest$Bay" "hour" "I" RX4, .fieldLinkNest RX4 152 "TowardTheLoudest$Bay" "day" "I" RX4, .fieldLinkNest RX4 16 "TowardTheLoudest$Mind" "now" "LTowardTheLoudest$Bay;" RX4, .methodLinkNest RX4 23 yX0_init RX4, .methodLinkNest RX4 29 yX3_init RX4, .methodLinkNest RX3 15 yX0_init RX4, .fieldLinkNest RX4 112 "TowardTheLoudest$Past" "count" "I" RX4, .methodLinkNest RX4 36 yX1_init RX4, .fieldLinkNest RX4 90 "TowardTheLoudest$Letters" "size" "I" RX4, .methodLinkNest RX4 72 yX1_isFull RX4, .methodLinkNest RX4 80 yX1_write RX4, .methodLinkNest RX4 83 yX1_fault RX4, .methodLinkNest RX4 93 yX2_asNow RX4, .methodLinkNest RX2 28 yX0_become RX4, .methodLinkNest RX4 97 yX1_refusalOfStatement RX4, .methodLinkNest RX1 36 yX0_refusalOfShore RX4, .methodLinkNest RX1 42 yX0_refusalOfPowder RX4, .methodLinkNest RX0 56 yX4_nobody RX4, .methodLinkNest RX0 60 yX4_outside RX4, .methodLinkNest RX0 64 yX4_firstOf RX4, .methodLinkNest RX1 49 yX4_nobody RX4, .methodLinkNest RX1 52 yX0_refusalOfIsle RX4, .methodLinkNest RX0 67 yX4_unknown RX4, .methodLinkNest RX1 55 yX0_refusalOfHours RX4, .methodLinkNest RX4 101 yX1_carryOut RX4, .methodLinkNest RX1 58 yX0_add RX4, .methodLinkNest RX1 62 yX0_setPowder RX4, .methodLinkNest RX1 66 yX0_turnQuiet RX4, .methodLinkNest RX1 70 yX0_setIsle RX4, .methodLinkNest RX1 73 yX0_passHours RX4, .methodLinkNest RX4 105 yX1_lengthAt RX4, .methodLinkNest RX4 108 yX0_become RX4, .methodLinkNest RX4 127 yX0_isQuiet RX4, .methodLinkNest RX4 134 yX0_costOf RX4, .methodLinkNest RX4 137 yX0_hasIsle RX4, .methodLinkNest RX4 146 yX0_owner RX4, .methodLinkNest RX4 158 yX0_joyTogether RX4, .methodLinkNest RX4 161 yX0_powderTogether RX4, .methodLinkNest RX4 167 yX0_refusalOfShore RX4, .methodLinkNest RX4 170 yX0_add RX4, .methodLinkNest RX4 174 yX0_refusalOfPowder RX4, .methodLinkNest RX4 177 yX3_keep RX4, .methodLinkNest RX3 20 yX0_become RX4, .methodLinkNest RX4 180 yX0_setPowder RX4, .methodLinkNest RX4 184 yX0_turnQuiet RX4, .methodLinkNest RX4 188 yX0_refusalOfIsle RX4, .methodLinkNest RX4 191 yX0_setIsle RX4, .methodLinkNest RX4 194 yX0_refusalOfHours RX4, .methodLinkNest RX4 197 yX0_passHours RX4, .methodLinkNest RX4 200 yX3_takeBack RX4, .methodLinkNest RX4 207 yX0_noiseOf RX4, .methodLinkNest RX4 210 yX0_loudestAt RX4, .methodLinkNest RX4 213 yX0_noiseTogether RX4, .methodLinkNest RX4 216 yX0_nearestShore RX4, .methodLinkNest RX4 219 yX0_distanceTo RX4, .methodLinkNest RX4 227 yX0_joylessBits RX4, .methodLinkNest RX4 230 yX0_loudestHour RX4, .methodLinkNest RX4 233 yX0_calmBits RX4, .methodLinkNest RX4 238 yX0_placesTogether RX4, .methodLinkNest RX4 245 yX0_widestGap RX4, .methodLinkNest RX4 248 yX0_gapFrom RX4, .methodLinkNest RX4 254 yX2_after RX4, .methodLinkNest RX2 36 yX0_passHours RX4, .methodLinkNest RX4 260 yX2_firstHours RX4, .methodLinkNest RX2 44 yX0_hasIsle RX4, .methodLinkNest RX2 40 yX0_passHour RX4, .methodLinkNest RX4 263 yX2_firstOwner RX4, .methodLinkNest RX2 52 yX0_owner RX4, .methodLinkNest RX4 266 yX2_neverBits RX4, .methodLinkNest RX4 269 yX2_stillBehind RX4, .methodLinkNest RX4 272 yX2_oftenestOwner RX4, .methodLinkNest RX4 275 yX2_timesHad RX4, .methodLinkNest RX4 278 yX2_leastPlace RX4, .methodLinkNest RX4 281 yX2_greatestPlace RX4, .methodLinkNest RX4 284 yX2_ringBehind RX4, .methodLinkNest RX4 287 yX2_bestHush RX4, .methodLinkNest RX4 290 yX2_fewestHushed RX4, .methodLinkNest RX4 293 yX2_bestSwap RX4, .methodLinkNest RX4 296 yX2_countStarts RX4, .methodLinkNest RX4 299 yX2_leastStart RX4, .methodLinkNest RX4 302 yX2_bestPowder RX4, .methodLinkNest RX2 108 yX0_costOf RX4, .methodLinkNest RX2 104 yX0_setPowder RX4, .methodLinkNest RX4 305 yX2_timesWithPowder RX4, .methodLinkNest RX4 308 yX2_bestNewPlace RX4, .methodLinkNest RX2 118 yX0_shoreAt RX4, .methodLinkNest RX2 114 yX0_add RX4, .methodLinkNest RX4 311 yX2_timesFrom RX4, .methodLinkNest RX4 314 yX2_weighTreaty RX4, .methodLinkNest RX2 144 yX0_setQuiet RX4, .methodLinkNest RX4 317 yX2_isSettled RX4, .methodLinkNest RX4 320 yX2_firstSettled RX4, .methodLinkNest RX4 326 yX2_thunderWays RX4, .methodLinkNest RX4 330 yX2_drawLots RX4, .methodLinkNest RX2 154 yX0_joyTogether RX4, .methodLinkNest RX4 333 yX2_firstWrong RX4, .methodLinkNest RX2 137 yX0_loudestAt RX4, .methodLinkNest RX4 337 yX2_guessBits RX4]
def nestB : Cond → Bool
  | .fieldLinkNest .. => true
  | .methodLinkNest .. => true
  | _ => false
theorem nestL_ok : nestL.all nestB = true := by decide +kernel
theorem nestL_tab : ∀ w ∈ nestL, w.onTables = true := by
  intro w hw
  have h := List.all_eq_true.mp nestL_ok w hw
  cases w <;> first | rfl | (exact absurd h (by decide)) | (simp [nestB] at h)
theorem nw_moved {s U : State} (hW : s.WarmedH U.vm) (h : ∀ w ∈ nestL, va_Nw w s) : ∀ w ∈ nestL, va_Nw w U := by
  intro w hw
  have h1 := List.all_eq_true.mp nestL_ok w hw
  have h2 := h w hw
  cases w <;> first | exact va_Nw.warmF hW h2 | exact va_Nw.warmM hW h2 | (simp [nestB] at h1)
def jK (D : va_G) (cI cB : ClassId) (U : State) : Prop := va_K D vwCl [(cI, .int), (cB, .object RX0)] U ∧ ∀ w ∈ nestL, va_Nw w U
theorem jK.moved {D : va_G} {cI cB : ClassId} {s U : State} (hW : s.WarmedH U.vm) (h : jK D cI cB s) : jK D cI cB U := ⟨va_K.moved hW.alike h.1, nw_moved hW h.2⟩
theorem jK.calling {D : va_G} {cI cB : ClassId} {U : State} (g : JFrame) (mk : MethodId) (a : Array Value) (h : jK D cI cB U) : jK D cI cB (U.calling g mk a) := ⟨va_K.moved (u := U) (U := U.calling g mk a) (Vm.Alike.refl U.vm) h.1, fun w hw => va_Nw.same (u := U) (nestL_tab w hw) rfl (h.2 w hw)⟩
abbrev jR (d : Nat) : Room := { frames := d, cells := 0, slots := 0, locals := 40 * d }
/-- a start: nothing is said of which cells are apart -/
def jP (D : va_G) (cI cB : ClassId) (WS : va_W) (U : State) : Prop := va_P D vwCl WS U.heap ∧ jK D cI cB U
def jPm (D : va_G) (cI cB : ClassId) (WS : va_W) (sz : Nat) (U : State) : Prop := U.heap.size = sz ∧ va_P D vwCl WS U.heap ∧ jK D cI cB U ∧ va_D (fun _ => True) WS
/-- a method that reads: an int, a long -/
def jSi (D : va_G) (cI cB : ClassId) (l : Launch) (y : MethodName) (ws : List Cond) (d : Nat) (av : List Value) (WS : va_W) (post : Int32 → Prop) : Prop := Met l y ws (jR d) (va_Pc av (jP D cI cB WS)) (vp_Si post) 0 0 (fun _ => False)
def jSl (D : va_G) (cI cB : ClassId) (l : Launch) (y : MethodName) (ws : List Cond) (d : Nat) (av : List Value) (WS : va_W) (post : Int64 → Prop) : Prop := Met l y ws (jR d) (va_Pc av (jP D cI cB WS)) (vp_Sl post) 0 0 (fun _ => False)
/-- a method that writes, and makes nothing -/
def jMi (D : va_G) (cI cB : ClassId) (l : Launch) (y : MethodName) (ws : List Cond) (d : Nat) (av : List Value) (WS : va_W) {S : Type} (post : Int32 → S → Prop) (W1 : S → va_W) : Prop := ∀ sz : Nat, Met l y ws (jR d) (va_Pc av (jPm D cI cB WS sz)) (va_Qi post (fun u t => va_P D vwCl (W1 u) t.heap) (va_A WS sz)) 0 0 (va_A WS sz)
def jMl (D : va_G) (cI cB : ClassId) (l : Launch) (y : MethodName) (ws : List Cond) (d : Nat) (av : List Value) (WS : va_W) {S : Type} (post : Int64 → S → Prop) (W1 : S → va_W) : Prop := ∀ sz : Nat, Met l y ws (jR d) (va_Pc av (jPm D cI cB WS sz)) (va_Ql post (fun u t => va_P D vwCl (W1 u) t.heap) (va_A WS sz)) 0 0 (va_A WS sz)
def jMv (D : va_G) (cI cB : ClassId) (l : Launch) (y : MethodName) (ws : List Cond) (d : Nat) (av : List Value) (WS : va_W) {S : Type} (post : S → Prop) (W1 : S → va_W) : Prop := ∀ sz : Nat, Met l y ws (jR d) (va_Pc av (jPm D cI cB WS sz)) (va_Qv post (fun u t => va_P D vwCl (W1 u) t.heap) (va_A WS sz)) 0 0 (va_A WS sz)
def jMr (D : va_G) (cI cB : ClassId) (l : Launch) (y : MethodName) (ws : List Cond) (d : Nat) (av : List Value) (WS : va_W) {S : Type} (post : S → Prop) (ra : Nat) (W1 : S → va_W) : Prop := ∀ sz : Nat, Met l y ws (jR d) (va_Pc av (jPm D cI cB WS sz)) (va_Qr post (fun u a t => a = ra ∧ va_P D vwCl (W1 u) t.heap) (va_A WS sz)) 0 0 (va_A WS sz)
def jok (y : MethodName) (ws : List Cond) (bytes : ByteArray) (maxL : Nat) (ret : Option FieldType) (n : Nat) : Prop := (∃ ws', ws = Cond.code y bytes maxL ret :: ws') ∧ plainName y.cls = true ∧ (y.cls ≠ "java/lang/invoke/MethodHandle" ∧ y.cls ≠ "java/lang/invoke/VarHandle" ∧ (parseMethodDescriptor y.desc).map (fun d => d.parameters.length) = some n)
section JB
variable {D : va_G} {cI cB : ClassId} {l : Launch} {y : MethodName} {ws : List Cond} {d maxL n : Nat} {av : List Value} {WS : va_W} {cc : ByteArray} {ret : Option FieldType}
theorem jSi.of {post : Int32 → Prop} (ok : jok y ws cc maxL ret n) (hn : (lg_sl av).length ≤ maxL)
    (body : ∀ (p : Program) (e : Env) (s : State) (m : MethodId) (below : List Frame) (meth : Method) (c : Code) (ls : Array Slot), p.tables.exec = Jvm.exec → c.code = cc → meth.sig.returnType = ret → (∀ w ∈ ws, w.before av.toArray s = true) → s.vm.findClass y.cls = some m.cls → meth.locks = false → c.maxLocals = maxL → va_P D vwCl WS s.heap → jK D cI cB s → lv_has ls maxL (lv_args 0 av) →
      W p l e (jR d) s m av.toArray below meth c s.heap [] 0 0 (MQ below (vp_Si post) av.toArray s 0 0 (fun _ => False)) (F0 m 0 ls [])) : jSi D cI cB l y ws d av WS post := by
  obtain ⟨⟨ws', hw⟩, hy, -⟩ := ok
  refine Met.ofW (cc := cc) (maxL := maxL) (ret := ret) hy hw ?_
  intro p e s m args below meth c s₁ B hml hv
  obtain ⟨rfl, hP, hK⟩ := hv
  have hl := lv_entry av (n := maxL) hn
  rw [lg_entry_eq]
  exact body p e s m below meth c _ B.exec B.bytes B.returns (atoms_spec (ws := ws) B.pre) (findClass_of_methodNamed B.named) B.notSynchronized hml hP hK hl
theorem jSl.of {post : Int64 → Prop} (ok : jok y ws cc maxL ret n) (hn : (lg_sl av).length ≤ maxL)
    (body : ∀ (p : Program) (e : Env) (s : State) (m : MethodId) (below : List Frame) (meth : Method) (c : Code) (ls : Array Slot), p.tables.exec = Jvm.exec → c.code = cc → meth.sig.returnType = ret → (∀ w ∈ ws, w.before av.toArray s = true) → s.vm.findClass y.cls = some m.cls → meth.locks = false → c.maxLocals = maxL → va_P D vwCl WS s.heap → jK D cI cB s → lv_has ls maxL (lv_args 0 av) →
      W p l e (jR d) s m av.toArray below meth c s.heap [] 0 0 (MQ below (vp_Sl post) av.toArray s 0 0 (fun _ => False)) (F0 m 0 ls [])) : jSl D cI cB l y ws d av WS post := by
  obtain ⟨⟨ws', hw⟩, hy, -⟩ := ok
  refine Met.ofW (cc := cc) (maxL := maxL) (ret := ret) hy hw ?_
  intro p e s m args below meth c s₁ B hml hv
  obtain ⟨rfl, hP, hK⟩ := hv
  have hl := lv_entry av (n := maxL) hn
  rw [lg_entry_eq]
  exact body p e s m below meth c _ B.exec B.bytes B.returns (atoms_spec (ws := ws) B.pre) (findClass_of_methodNamed B.named) B.notSynchronized hml hP hK hl
theorem jMi.of {S : Type} {post : Int32 → S → Prop} {W1 : S → va_W} (ok : jok y ws cc maxL ret n) (hn : (lg_sl av).length ≤ maxL)
    (body : ∀ (p : Program) (e : Env) (s : State) (m : MethodId) (below : List Frame) (meth : Method) (c : Code) (ls : Array Slot) (A : Nat → Prop), p.tables.exec = Jvm.exec → c.code = cc → meth.sig.returnType = ret → (∀ w ∈ ws, w.before av.toArray s = true) → s.vm.findClass y.cls = some m.cls → meth.locks = false → c.maxLocals = maxL → va_P D vwCl WS s.heap → jK D cI cB s → va_D A WS → (∀ q : Nat, s.heap.size ≤ q → A q) → va_S A s.heap s.heap [] → lv_has ls maxL (lv_args 0 av) →
      W p l e (jR d) s m av.toArray below meth c s.heap [] 0 0 (MQ below (va_Qi post (fun u t => va_P D vwCl (W1 u) t.heap) A) av.toArray s 0 0 A) (F0 m 0 ls [])) : jMi D cI cB l y ws d av WS post W1 := by
  obtain ⟨⟨ws', hw⟩, hy, -⟩ := ok
  intro sz
  refine Met.ofW (cc := cc) (maxL := maxL) (ret := ret) hy hw ?_
  intro p e s m args below meth c s₁ B hml hv
  obtain ⟨rfl, hsz, hP, hK, hD⟩ := hv
  subst hsz
  have hl := lv_entry av (n := maxL) hn
  rw [lg_entry_eq]
  exact body p e s m below meth c _ (va_A WS s.heap.size) B.exec B.bytes B.returns (atoms_spec (ws := ws) B.pre) (findClass_of_methodNamed B.named) B.notSynchronized hml hP hK hD.self (fun q h => Or.inr h) va_S.rf hl
theorem jMl.of {S : Type} {post : Int64 → S → Prop} {W1 : S → va_W} (ok : jok y ws cc maxL ret n) (hn : (lg_sl av).length ≤ maxL)
    (body : ∀ (p : Program) (e : Env) (s : State) (m : MethodId) (below : List Frame) (meth : Method) (c : Code) (ls : Array Slot) (A : Nat → Prop), p.tables.exec = Jvm.exec → c.code = cc → meth.sig.returnType = ret → (∀ w ∈ ws, w.before av.toArray s = true) → s.vm.findClass y.cls = some m.cls → meth.locks = false → c.maxLocals = maxL → va_P D vwCl WS s.heap → jK D cI cB s → va_D A WS → (∀ q : Nat, s.heap.size ≤ q → A q) → va_S A s.heap s.heap [] → lv_has ls maxL (lv_args 0 av) →
      W p l e (jR d) s m av.toArray below meth c s.heap [] 0 0 (MQ below (va_Ql post (fun u t => va_P D vwCl (W1 u) t.heap) A) av.toArray s 0 0 A) (F0 m 0 ls [])) : jMl D cI cB l y ws d av WS post W1 := by
  obtain ⟨⟨ws', hw⟩, hy, -⟩ := ok
  intro sz
  refine Met.ofW (cc := cc) (maxL := maxL) (ret := ret) hy hw ?_
  intro p e s m args below meth c s₁ B hml hv
  obtain ⟨rfl, hsz, hP, hK, hD⟩ := hv
  subst hsz
  have hl := lv_entry av (n := maxL) hn
  rw [lg_entry_eq]
  exact body p e s m below meth c _ (va_A WS s.heap.size) B.exec B.bytes B.returns (atoms_spec (ws := ws) B.pre) (findClass_of_methodNamed B.named) B.notSynchronized hml hP hK hD.self (fun q h => Or.inr h) va_S.rf hl
theorem jMv.of {S : Type} {post : S → Prop} {W1 : S → va_W} (ok : jok y ws cc maxL ret n) (hn : (lg_sl av).length ≤ maxL)
    (body : ∀ (p : Program) (e : Env) (s : State) (m : MethodId) (below : List Frame) (meth : Method) (c : Code) (ls : Array Slot) (A : Nat → Prop), p.tables.exec = Jvm.exec → c.code = cc → meth.sig.returnType = ret → (∀ w ∈ ws, w.before av.toArray s = true) → s.vm.findClass y.cls = some m.cls → meth.locks = false → c.maxLocals = maxL → va_P D vwCl WS s.heap → jK D cI cB s → va_D A WS → (∀ q : Nat, s.heap.size ≤ q → A q) → va_S A s.heap s.heap [] → lv_has ls maxL (lv_args 0 av) →
      W p l e (jR d) s m av.toArray below meth c s.heap [] 0 0 (MQ below (va_Qv post (fun u t => va_P D vwCl (W1 u) t.heap) A) av.toArray s 0 0 A) (F0 m 0 ls [])) : jMv D cI cB l y ws d av WS post W1 := by
  obtain ⟨⟨ws', hw⟩, hy, -⟩ := ok
  intro sz
  refine Met.ofW (cc := cc) (maxL := maxL) (ret := ret) hy hw ?_
  intro p e s m args below meth c s₁ B hml hv
  obtain ⟨rfl, hsz, hP, hK, hD⟩ := hv
  subst hsz
  have hl := lv_entry av (n := maxL) hn
  rw [lg_entry_eq]
  exact body p e s m below meth c _ (va_A WS s.heap.size) B.exec B.bytes B.returns (atoms_spec (ws := ws) B.pre) (findClass_of_methodNamed B.named) B.notSynchronized hml hP hK hD.self (fun q h => Or.inr h) va_S.rf hl
theorem jMr.of {S : Type} {post : S → Prop} {ra : Nat} {W1 : S → va_W} (ok : jok y ws cc maxL ret n) (hn : (lg_sl av).length ≤ maxL)
    (body : ∀ (p : Program) (e : Env) (s : State) (m : MethodId) (below : List Frame) (meth : Method) (c : Code) (ls : Array Slot) (A : Nat → Prop), p.tables.exec = Jvm.exec → c.code = cc → meth.sig.returnType = ret → (∀ w ∈ ws, w.before av.toArray s = true) → s.vm.findClass y.cls = some m.cls → meth.locks = false → c.maxLocals = maxL → va_P D vwCl WS s.heap → jK D cI cB s → va_D A WS → (∀ q : Nat, s.heap.size ≤ q → A q) → va_S A s.heap s.heap [] → lv_has ls maxL (lv_args 0 av) →
      W p l e (jR d) s m av.toArray below meth c s.heap [] 0 0 (MQ below (va_Qr post (fun u a t => a = ra ∧ va_P D vwCl (W1 u) t.heap) A) av.toArray s 0 0 A) (F0 m 0 ls [])) : jMr D cI cB l y ws d av WS post ra W1 := by
  obtain ⟨⟨ws', hw⟩, hy, -⟩ := ok
  intro sz
  refine Met.ofW (cc := cc) (maxL := maxL) (ret := ret) hy hw ?_
  intro p e s m args below meth c s₁ B hml hv
  obtain ⟨rfl, hsz, hP, hK, hD⟩ := hv
  subst hsz
  have hl := lv_entry av (n := maxL) hn
  rw [lg_entry_eq]
  exact body p e s m below meth c _ (va_A WS s.heap.size) B.exec B.bytes B.returns (atoms_spec (ws := ws) B.pre) (findClass_of_methodNamed B.named) B.notSynchronized hml hP hK hD.self (fun q h => Or.inr h) va_S.rf hl
end JB
/-- places of a world written anew, in order -/
def setL0 : List Nat → va_W → va_W → va_W
  | [], _, ws => ws
  | _ :: _, [], ws => ws
  | i :: is, x :: xs, ws => setL0 is xs (ws.set i x)
abbrev setL (ws : va_W) (is : List Nat) (w1 : va_W) : va_W := setL0 is w1 ws
theorem adr_set {ws : va_W} {i : Nat} {x : Nat × va_E} (h : (ws[i]?).map Prod.fst = some x.1) : (ws.set i x).map Prod.fst = ws.map Prod.fst := by
  apply List.ext_getElem?
  intro j
  rw [List.getElem?_map, List.getElem?_map]
  by_cases hj : i = j
  · subst hj
    by_cases hl : i < ws.length
    · rw [List.getElem?_set_self hl]; exact h.symm
    · rw [List.getElem?_eq_none (by rw [List.length_set]; omega), List.getElem?_eq_none (by omega)]
  · rw [List.getElem?_set_ne hj]
theorem setL_adr : ∀ (is : List Nat) (w1 ws : va_W), is.map (fun i => (ws[i]?).map Prod.fst) = w1.map (fun x => some x.1) → (setL0 is w1 ws).map Prod.fst = ws.map Prod.fst
  | [], w1, ws, _ => rfl
  | i :: is, [], ws, h => rfl
  | i :: is, x :: xs, ws, h => by
    simp only [List.map_cons, List.cons.injEq] at h
    have e := adr_set h.1
    have h2 : is.map (fun k => ((ws.set i x)[k]?).map Prod.fst) = xs.map (fun x => some x.1) := by
      rw [← h.2]
      apply List.map_congr_left
      intro j _
      have e2 := congrArg (fun l => l[j]?) e
      simp only [List.getElem?_map] at e2
      exact e2
    exact (setL_adr is xs (ws.set i x) h2).trans e
theorem setL_get : ∀ (is : List Nat) (w1 ws : va_W) (k : Nat) (q : Nat × va_E), (setL0 is w1 ws)[k]? = some q → (k ∉ is ∧ ws[k]? = some q) ∨ (∃ j : Nat, is[j]? = some k ∧ w1[j]? = some q) ∨ (ws[k]? = some q ∧ is.length ≠ w1.length)
  | [], w1, ws, k, q, h => Or.inl ⟨List.not_mem_nil, h⟩
  | i :: is, [], ws, k, q, h => Or.inr (Or.inr ⟨h, by simp⟩)
  | i :: is, x :: xs, ws, k, q, h => by
    have hs : ∀ z : Nat × va_E, (ws.set i x)[k]? = some z → (k ≠ i ∧ ws[k]? = some z) ∨ (k = i ∧ x = z) := by
      intro z hz
      by_cases hk : i = k
      · subst hk
        by_cases hl : i < ws.length
        · rw [List.getElem?_set_self hl] at hz
          exact Or.inr ⟨rfl, Option.some.inj hz⟩
        · rw [List.getElem?_eq_none (by rw [List.length_set]; omega)] at hz
          cases hz
      · rw [List.getElem?_set_ne hk] at hz
        exact Or.inl ⟨fun e => hk e.symm, hz⟩
    rcases setL_get is xs (ws.set i x) k q h with ⟨h1, h2⟩ | ⟨j, h1, h2⟩ | ⟨h1, h2⟩
    · rcases hs q h2 with ⟨g1, g2⟩ | ⟨g1, g2⟩
      · exact Or.inl ⟨fun m => (List.mem_cons.mp m).elim g1 h1, g2⟩
      · exact Or.inr (Or.inl ⟨0, by rw [g1]; rfl, by rw [g2]; rfl⟩)
    · exact Or.inr (Or.inl ⟨j + 1, h1, h2⟩)
    · rcases hs q h1 with ⟨g1, g2⟩ | ⟨g1, g2⟩
      · exact Or.inr (Or.inr ⟨g2, fun e => h2 (by simpa using e)⟩)
      · exact Or.inr (Or.inl ⟨0, by rw [g1]; rfl, by rw [g2]; rfl⟩)
theorem va_D.adr {A : Nat → Prop} {ws w2 : va_W} (h : va_D A ws) (e : w2.map Prod.fst = ws.map Prod.fst) : va_D A w2 := by
  have key : ∀ (k : Nat) (q : Nat × va_E), w2[k]? = some q → ∃ x : Nat × va_E, ws[k]? = some x ∧ x.1 = q.1 := by
    intro k q hk
    have h1 : (w2.map Prod.fst)[k]? = some q.1 := by rw [List.getElem?_map, hk]; rfl
    rw [e, List.getElem?_map] at h1
    cases hx : ws[k]? with
    | none => rw [hx] at h1; cases h1
    | some x => rw [hx] at h1; exact ⟨x, rfl, Option.some.inj h1⟩
  refine ⟨fun i j p q hi hj hpq => ?_, fun k q hk => ?_⟩
  · obtain ⟨x, h1, h2⟩ := key i p hi
    obtain ⟨z, h3, h4⟩ := key j q hj
    exact h.1 i j x z h1 h3 (by rw [h2, h4, hpq])
  · obtain ⟨x, h1, h2⟩ := key k q hk
    rw [← h2]; exact h.2 k x h1
/-- behind a call: the callee's cells anew at their places, the others as they were -/
theorem va_repl {A0 : Nat → Prop} {D : va_G} {cl : List vw_C} {ws wc w1 : va_W} {H H1 : Heap} (hP : va_P D cl ws H) (hD : va_D A0 ws) (isC : List Nat) (hC : isC.map (fun i => ws[i]?) = wc.map some)
    (hk : ∀ q : Nat, q < H.size → ¬ va_A wc H.size q → H1[q]? = H[q]?) (hP1 : va_P D cl w1 H1) (ha : w1.map Prod.fst = wc.map Prod.fst) : va_P D cl (setL ws isC w1) H1 ∧ va_D A0 (setL ws isC w1) := by
  have hlen : isC.length = w1.length := by
    have h1 := congrArg List.length hC
    have h2 := congrArg List.length ha
    simp only [List.length_map] at h1 h2
    omega
  have hadr : isC.map (fun i => (ws[i]?).map Prod.fst) = w1.map (fun x => some x.1) := by
    have h1 := congrArg (List.map (Option.map Prod.fst)) hC
    simp only [List.map_map] at h1
    have h2 := congrArg (List.map some) ha
    simp only [List.map_map] at h2
    exact h1.trans h2.symm
  refine ⟨fun k q hkq => ?_, hD.adr (setL_adr isC w1 ws hadr)⟩
  rcases setL_get isC w1 ws k q hkq with ⟨h1, h2⟩ | ⟨j, h1, h2⟩ | ⟨-, h2⟩
  · have hl := (hP k q h2).lt
    refine (hP k q h2).kept (hk q.1 hl fun h => ?_)
    rcases h with ⟨k2, e, h⟩ | h
    · have h3 : (isC.map (fun i => ws[i]?))[k2]? = some (some (q.1, e)) := by rw [hC, List.getElem?_map, h]; rfl
      rw [List.getElem?_map] at h3
      cases hi : isC[k2]? with
      | none => rw [hi] at h3; cases h3
      | some i =>
        rw [hi] at h3
        have h4 : ws[i]? = some (q.1, e) := Option.some.inj h3
        have : k = i := hD.1 k i q (q.1, e) h2 h4 rfl
        exact h1 (this ▸ List.mem_of_getElem? hi)
    · omega
  · exact hP1 j q h2
  · exact absurd hlen h2
theorem j_fm {ws wc : va_W} {isC : List Nat} (hC : isC.map (fun i => ws[i]?) = wc.map some) : isC.filterMap (fun i => ws[i]?) = wc := by
  have h : (isC.map (fun i => ws[i]?)).filterMap id = (wc.map some).filterMap id := by rw [hC]
  simpa [List.filterMap_map] using h
section JC
variable {p : Program} {l : Launch} {e : Env} {R : Room} {s : State} {m : MethodId} {args : Array Value} {below : List Frame} {meth : Method} {c : Code} {H : Heap} {locs : List Loc} {cells slots : Nat} {Q : State → Prop}
variable {cc : ByteArray} {pc nL idx n maxL d ci b : Nat} {ls : Array Slot} {rest st0 As : List Value} {Ts ws : List Cond} {own host : String} {y : MethodName} {bytes : ByteArray} {ret : Option FieldType}
variable {D : va_G} {cI cB : ClassId} {ws0 WS : va_W} {fs : List Value} {q : vw_C} {A0 : Nat → Prop} {H0 : Heap}
theorem j_blind {av : List Value} : FrameBlind (va_Pc av (jP D cI cB WS)) := fun a U g mk h => ⟨h.1, h.2.1, h.2.2.calling g mk a⟩
theorem j_blindm {av : List Value} {sz : Nat} : FrameBlind (va_Pc av (jPm D cI cB WS sz)) := fun a U g mk h => ⟨h.1, h.2.1, h.2.2.1, h.2.2.2.1.calling g mk a, h.2.2.2.2⟩
theorem j_pre {av : List Value} (hK : jK D cI cB s) (hP : va_P D vwCl ws0 H) (isC : List Nat) (hC : isC.map (fun i => ws0[i]?) = WS.map some) : ∀ U : State, U.heap = H → s.WarmedH U.vm → va_Pc av (jP D cI cB WS) av.toArray U := fun U hU hW => ⟨rfl, by rw [hU]; exact hP.sub isC (j_fm hC), hK.moved hW⟩
theorem j_prem {av : List Value} (hK : jK D cI cB s) (hP : va_P D vwCl ws0 H) (hD : va_D A0 ws0) (isC : List Nat) (hC : isC.map (fun i => ws0[i]?) = WS.map some) (hnd : va_nd isC = true) : ∀ U : State, U.heap = H → s.WarmedH U.vm → va_Pc av (jPm D cI cB WS H.size) av.toArray U := fun U hU hW => ⟨rfl, by rw [hU], by rw [hU]; exact hP.sub isC (j_fm hC), hK.moved hW, (hD.sub isC hnd hC).weaken fun _ _ _ _ => trivial⟩
theorem j_cwV (hts : ∀ w ∈ Ts, w.before args s = true) (hG : GoodIn Ts (wsV own idx y.cls y ws)) (ok : jok y ws bytes maxL ret n) (hR : d + 1 ≤ R.frames ∧ 8 + (maxL + 11) + 40 * d ≤ R.locals) : CallW R s args own y.cls idx y bytes maxL ret ws (jR d) 0 0 n := by
  obtain ⟨⟨ws', hw⟩, -, h1, h2, h3⟩ := ok
  exact cwV n hts hG hw rfl rfl ⟨rfl, h1, h2, h3⟩ hR
theorem j_cwN (hts : ∀ w ∈ Ts, w.before args s = true) (hG : GoodIn Ts ws) (hnw : va_Nw (.methodLinkNest own idx y host) s) (hini : (Cond.initialized y.cls).before args s = true) (ok : jok y ws bytes maxL ret n) (hR : d + 1 ≤ R.frames ∧ 8 + (maxL + 11) + 40 * d ≤ R.locals) : va_CN R s args own idx y host bytes maxL ret ws (jR d) 0 0 n := by
  obtain ⟨⟨ws', hw⟩, -, h1, h2, h3⟩ := ok
  exact va_cnB n hts hG hw rfl rfl hnw hini ⟨h1, h2, h3⟩ hR
theorem j_cwS (hts : ∀ w ∈ Ts, w.before args s = true) (hG : GoodIn Ts (va_wsS own idx y ws)) (ok : jok y ws bytes maxL ret n) (hR : d + 1 ≤ R.frames ∧ 8 + (maxL + 11) + 40 * d ≤ R.locals) : CallB R s args own idx y bytes maxL ret ws (jR d) 0 0 n ∧ (Cond.static y).before args s = true := by
  obtain ⟨⟨ws', hw⟩, -, h1, h2, h3⟩ := ok
  have ok2 : ∀ w ∈ va_wsS own idx y ws, w.before args s = true := fun w h => hts w (hG w h).1
  exact ⟨callB_of n hts (fun w h => hG w (by unfold va_wsS; exact List.mem_append_right _ h)) hw rfl rfl (ok2 _ (by simp [va_wsS])) (ok2 _ (by simp [va_wsS])) ⟨h1, h2, h3⟩ hR, ok2 _ (by simp [va_wsS])⟩
theorem kSiV {post : Int32 → Prop} (hx : p.tables.exec = Jvm.exec) (hb : c.code = cc) (hml : c.maxLocals = nL) (hown : s.vm.findClass own = some m.cls) (hts : ∀ w ∈ Ts, w.before args s = true) (hK : jK D cI cB s) (hP : va_P D vwCl ws0 H) (hG : GoodIn Ts (wsV own idx y.cls y ws)) (ok : jok y ws bytes maxL ret n) (hM : jSi D cI cB l y ws d (.ref b :: As) WS post) (isC : List Nat) (hC : isC.map (fun i => ws0[i]?) = WS.map some) (he : WS[0]? = some (b, .inr (ci, fs))) (hc : vwCl[ci]? = some q) (hq : q.1 = y.cls) (hR : d + 1 ≤ R.frames ∧ 8 + (maxL + 11) + 40 * d ≤ R.locals) (hl : ls.size = nL) (hn : As.length = n) (hst0 : st0 = As.reverse ++ .ref b :: rest) (hW : (rest.map fun v => v.category).sum ≤ 8) (hdg : decode cc pc = .ok (.invokevirtual idx, 3)) (hf : cells ≤ R.cells ∧ slots ≤ R.slots)
    (kk : ∀ r : Int32, post r → W p l e R s m args below meth c H locs cells slots Q (F0 m (pc + 3) ls (.int r :: rest))) : W p l e R s m args below meth c H locs cells slots Q (F0 m pc ls st0) := by
  obtain ⟨cell, g1, g2, g3⟩ := va_recv hK.1 (hP.sub isC (j_fm hC)) hc he
  rw [hq] at g3
  have hr := va_runV (e := e) (below := below) (meth := meth) (As := As) (rest := rest) (g := F0 m pc ls st0) (mc := 0) (ms := 0) (cells := cells) (slots := slots) (locs := locs) (H := H) ⟨hx, hb, hml, hown, hts⟩ hM (j_cwV hts hG ok hR) ⟨j_blind, ⟨cell, g1, g2, g3⟩, j_pre (av := (.ref b :: As)) hK hP isC hC⟩ rfl hn hl hst0 (by show 2 * 0 + _ ≤ 8; omega) hdg ⟨by omega, by omega⟩
  intro X0 hX0 St
  obtain ⟨v, st₀, t, T', L, h0, X', hL, e1, e2, ⟨r, hv, hp, hh⟩, st⟩ := hr X0 hX0 St
  cases hv
  obtain ⟨t2, a1, b1⟩ := kk r hp T' (by rw [e1, hh, h0]) (Stand.forget X' (fun q h => (hL q h).elim))
  exact ⟨t2, st t2 a1, b1⟩
theorem kSlV {post : Int64 → Prop} (hx : p.tables.exec = Jvm.exec) (hb : c.code = cc) (hml : c.maxLocals = nL) (hown : s.vm.findClass own = some m.cls) (hts : ∀ w ∈ Ts, w.before args s = true) (hK : jK D cI cB s) (hP : va_P D vwCl ws0 H) (hG : GoodIn Ts (wsV own idx y.cls y ws)) (ok : jok y ws bytes maxL ret n) (hM : jSl D cI cB l y ws d (.ref b :: As) WS post) (isC : List Nat) (hC : isC.map (fun i => ws0[i]?) = WS.map some) (he : WS[0]? = some (b, .inr (ci, fs))) (hc : vwCl[ci]? = some q) (hq : q.1 = y.cls) (hR : d + 1 ≤ R.frames ∧ 8 + (maxL + 11) + 40 * d ≤ R.locals) (hl : ls.size = nL) (hn : As.length = n) (hst0 : st0 = As.reverse ++ .ref b :: rest) (hW : (rest.map fun v => v.category).sum ≤ 8) (hdg : decode cc pc = .ok (.invokevirtual idx, 3)) (hf : cells ≤ R.cells ∧ slots ≤ R.slots)
    (kk : ∀ r : Int64, post r → W p l e R s m args below meth c H locs cells slots Q (F0 m (pc + 3) ls (.long r :: rest))) : W p l e R s m args below meth c H locs cells slots Q (F0 m pc ls st0) := by
  obtain ⟨cell, g1, g2, g3⟩ := va_recv hK.1 (hP.sub isC (j_fm hC)) hc he
  rw [hq] at g3
  have hr := va_runV (e := e) (below := below) (meth := meth) (As := As) (rest := rest) (g := F0 m pc ls st0) (mc := 0) (ms := 0) (cells := cells) (slots := slots) (locs := locs) (H := H) ⟨hx, hb, hml, hown, hts⟩ hM (j_cwV hts hG ok hR) ⟨j_blind, ⟨cell, g1, g2, g3⟩, j_pre (av := (.ref b :: As)) hK hP isC hC⟩ rfl hn hl hst0 (by show 2 * 0 + _ ≤ 8; omega) hdg ⟨by omega, by omega⟩
  intro X0 hX0 St
  obtain ⟨v, st₀, t, T', L, h0, X', hL, e1, e2, ⟨r, hv, hp, hh⟩, st⟩ := hr X0 hX0 St
  cases hv
  obtain ⟨t2, a1, b1⟩ := kk r hp T' (by rw [e1, hh, h0]) (Stand.forget X' (fun q h => (hL q h).elim))
  exact ⟨t2, st t2 a1, b1⟩
theorem kMiV {S : Type} {post : Int32 → S → Prop}  {W1 : S → va_W} (hx : p.tables.exec = Jvm.exec) (hb : c.code = cc) (hml : c.maxLocals = nL) (hown : s.vm.findClass own = some m.cls) (hts : ∀ w ∈ Ts, w.before args s = true) (hK : jK D cI cB s) (hP : va_P D vwCl ws0 H) (hD : va_D A0 ws0) (hA : ∀ q : Nat, H0.size ≤ q → A0 q) (hS : va_S A0 H0 H locs) (hG : GoodIn Ts (wsV own idx y.cls y ws)) (ok : jok y ws bytes maxL ret n) (hM : jMi D cI cB l y ws d (.ref b :: As) WS post  W1) (isC : List Nat) (hC : isC.map (fun i => ws0[i]?) = WS.map some) (hnd : va_nd isC = true) (hadr : ∀ u : S, (W1 u).map Prod.fst = WS.map Prod.fst) (he : WS[0]? = some (b, .inr (ci, fs))) (hc : vwCl[ci]? = some q) (hq : q.1 = y.cls) (hR : d + 1 ≤ R.frames ∧ 8 + (maxL + 11) + 40 * d ≤ R.locals) (hl : ls.size = nL) (hn : As.length = n) (hst0 : st0 = As.reverse ++ .ref b :: rest) (hW : (rest.map fun v => v.category).sum ≤ 8) (hdg : decode cc pc = .ok (.invokevirtual idx, 3)) (hf : cells ≤ R.cells ∧ slots ≤ R.slots)
    (kk : ∀ (r : Int32) (u : S) (H1 : Heap) (locs1 : List Loc), post r u → va_P D vwCl (setL ws0 isC (W1 u)) H1 → va_D A0 (setL ws0 isC (W1 u)) → va_S A0 H0 H1 locs1 → W p l e R s m args below meth c H1 locs1 cells slots Q (F0 m (pc + 3) ls (.int r :: rest))) : W p l e R s m args below meth c H locs cells slots Q (F0 m pc ls st0) := by
  obtain ⟨cell, g1, g2, g3⟩ := va_recv hK.1 (hP.sub isC (j_fm hC)) hc he
  rw [hq] at g3
  have hFc := va_free (wc := WS) hD hS hA isC hC
  have hr := va_runV (e := e) (below := below) (meth := meth) (As := As) (rest := rest) (g := F0 m pc ls st0) (mc := 0) (ms := 0) (cells := cells) (slots := slots) (locs := locs) (H := H) ⟨hx, hb, hml, hown, hts⟩ (hM H.size) (j_cwV hts hG ok hR) ⟨j_blindm, ⟨cell, g1, g2, g3⟩, j_prem (av := (.ref b :: As)) hK hP hD isC hC hnd⟩ rfl hn hl hst0 (by show 2 * 0 + _ ≤ 8; omega) hdg ⟨by omega, by omega⟩
  refine va_calli hr hS (fun q _ h => hFc q h) hFc (fun r u t H1 locs1 ht hvm hw hB hz hk hS1 => ?_)
  skip
  rw [ht] at hB
  obtain ⟨hP2, hD2⟩ := va_repl hP hD isC hC hk hB (hadr u)
  exact kk r u H1 locs1 hw hP2 hD2 hS1
theorem kMvV {S : Type} {post : S → Prop}  {W1 : S → va_W} (hx : p.tables.exec = Jvm.exec) (hb : c.code = cc) (hml : c.maxLocals = nL) (hown : s.vm.findClass own = some m.cls) (hts : ∀ w ∈ Ts, w.before args s = true) (hK : jK D cI cB s) (hP : va_P D vwCl ws0 H) (hD : va_D A0 ws0) (hA : ∀ q : Nat, H0.size ≤ q → A0 q) (hS : va_S A0 H0 H locs) (hG : GoodIn Ts (wsV own idx y.cls y ws)) (ok : jok y ws bytes maxL ret n) (hM : jMv D cI cB l y ws d (.ref b :: As) WS post  W1) (isC : List Nat) (hC : isC.map (fun i => ws0[i]?) = WS.map some) (hnd : va_nd isC = true) (hadr : ∀ u : S, (W1 u).map Prod.fst = WS.map Prod.fst) (he : WS[0]? = some (b, .inr (ci, fs))) (hc : vwCl[ci]? = some q) (hq : q.1 = y.cls) (hR : d + 1 ≤ R.frames ∧ 8 + (maxL + 11) + 40 * d ≤ R.locals) (hl : ls.size = nL) (hn : As.length = n) (hst0 : st0 = As.reverse ++ .ref b :: rest) (hW : (rest.map fun v => v.category).sum ≤ 8) (hdg : decode cc pc = .ok (.invokevirtual idx, 3)) (hf : cells ≤ R.cells ∧ slots ≤ R.slots)
    (kk : ∀ (u : S) (H1 : Heap) (locs1 : List Loc), post u → va_P D vwCl (setL ws0 isC (W1 u)) H1 → va_D A0 (setL ws0 isC (W1 u)) → va_S A0 H0 H1 locs1 → W p l e R s m args below meth c H1 locs1 cells slots Q (F0 m (pc + 3) ls rest)) : W p l e R s m args below meth c H locs cells slots Q (F0 m pc ls st0) := by
  obtain ⟨cell, g1, g2, g3⟩ := va_recv hK.1 (hP.sub isC (j_fm hC)) hc he
  rw [hq] at g3
  have hFc := va_free (wc := WS) hD hS hA isC hC
  have hr := va_runV (e := e) (below := below) (meth := meth) (As := As) (rest := rest) (g := F0 m pc ls st0) (mc := 0) (ms := 0) (cells := cells) (slots := slots) (locs := locs) (H := H) ⟨hx, hb, hml, hown, hts⟩ (hM H.size) (j_cwV hts hG ok hR) ⟨j_blindm, ⟨cell, g1, g2, g3⟩, j_prem (av := (.ref b :: As)) hK hP hD isC hC hnd⟩ rfl hn hl hst0 (by show 2 * 0 + _ ≤ 8; omega) hdg ⟨by omega, by omega⟩
  refine va_callv hr hS (fun q _ h => hFc q h) hFc (fun u t H1 locs1 ht hvm hw hB hz hk hS1 => ?_)
  skip
  rw [ht] at hB
  obtain ⟨hP2, hD2⟩ := va_repl hP hD isC hC hk hB (hadr u)
  exact kk u H1 locs1 hw hP2 hD2 hS1
theorem kMlV {S : Type} {post : Int64 → S → Prop}  {W1 : S → va_W} (hx : p.tables.exec = Jvm.exec) (hb : c.code = cc) (hml : c.maxLocals = nL) (hown : s.vm.findClass own = some m.cls) (hts : ∀ w ∈ Ts, w.before args s = true) (hK : jK D cI cB s) (hP : va_P D vwCl ws0 H) (hD : va_D A0 ws0) (hA : ∀ q : Nat, H0.size ≤ q → A0 q) (hS : va_S A0 H0 H locs) (hG : GoodIn Ts (wsV own idx y.cls y ws)) (ok : jok y ws bytes maxL ret n) (hM : jMl D cI cB l y ws d (.ref b :: As) WS post  W1) (isC : List Nat) (hC : isC.map (fun i => ws0[i]?) = WS.map some) (hnd : va_nd isC = true) (hadr : ∀ u : S, (W1 u).map Prod.fst = WS.map Prod.fst) (he : WS[0]? = some (b, .inr (ci, fs))) (hc : vwCl[ci]? = some q) (hq : q.1 = y.cls) (hR : d + 1 ≤ R.frames ∧ 8 + (maxL + 11) + 40 * d ≤ R.locals) (hl : ls.size = nL) (hn : As.length = n) (hst0 : st0 = As.reverse ++ .ref b :: rest) (hW : (rest.map fun v => v.category).sum ≤ 8) (hdg : decode cc pc = .ok (.invokevirtual idx, 3)) (hf : cells ≤ R.cells ∧ slots ≤ R.slots)
    (kk : ∀ (r : Int64) (u : S) (H1 : Heap) (locs1 : List Loc), post r u → va_P D vwCl (setL ws0 isC (W1 u)) H1 → va_D A0 (setL ws0 isC (W1 u)) → va_S A0 H0 H1 locs1 → W p l e R s m args below meth c H1 locs1 cells slots Q (F0 m (pc + 3) ls (.long r :: rest))) : W p l e R s m args below meth c H locs cells slots Q (F0 m pc ls st0) := by
  obtain ⟨cell, g1, g2, g3⟩ := va_recv hK.1 (hP.sub isC (j_fm hC)) hc he
  rw [hq] at g3
  have hFc := va_free (wc := WS) hD hS hA isC hC
  have hr := va_runV (e := e) (below := below) (meth := meth) (As := As) (rest := rest) (g := F0 m pc ls st0) (mc := 0) (ms := 0) (cells := cells) (slots := slots) (locs := locs) (H := H) ⟨hx, hb, hml, hown, hts⟩ (hM H.size) (j_cwV hts hG ok hR) ⟨j_blindm, ⟨cell, g1, g2, g3⟩, j_prem (av := (.ref b :: As)) hK hP hD isC hC hnd⟩ rfl hn hl hst0 (by show 2 * 0 + _ ≤ 8; omega) hdg ⟨by omega, by omega⟩
  refine va_calll hr hS (fun q _ h => hFc q h) hFc (fun r u t H1 locs1 ht hvm hw hB hz hk hS1 => ?_)
  skip
  rw [ht] at hB
  obtain ⟨hP2, hD2⟩ := va_repl hP hD isC hC hk hB (hadr u)
  exact kk r u H1 locs1 hw hP2 hD2 hS1
theorem kMrV {S : Type} {post : S → Prop} {ra : Nat} {W1 : S → va_W} (hx : p.tables.exec = Jvm.exec) (hb : c.code = cc) (hml : c.maxLocals = nL) (hown : s.vm.findClass own = some m.cls) (hts : ∀ w ∈ Ts, w.before args s = true) (hK : jK D cI cB s) (hP : va_P D vwCl ws0 H) (hD : va_D A0 ws0) (hA : ∀ q : Nat, H0.size ≤ q → A0 q) (hS : va_S A0 H0 H locs) (hG : GoodIn Ts (wsV own idx y.cls y ws)) (ok : jok y ws bytes maxL ret n) (hM : jMr D cI cB l y ws d (.ref b :: As) WS post ra W1) (isC : List Nat) (hC : isC.map (fun i => ws0[i]?) = WS.map some) (hnd : va_nd isC = true) (hadr : ∀ u : S, (W1 u).map Prod.fst = WS.map Prod.fst) (he : WS[0]? = some (b, .inr (ci, fs))) (hc : vwCl[ci]? = some q) (hq : q.1 = y.cls) (hR : d + 1 ≤ R.frames ∧ 8 + (maxL + 11) + 40 * d ≤ R.locals) (hl : ls.size = nL) (hn : As.length = n) (hst0 : st0 = As.reverse ++ .ref b :: rest) (hW : (rest.map fun v => v.category).sum ≤ 8) (hdg : decode cc pc = .ok (.invokevirtual idx, 3)) (hf : cells ≤ R.cells ∧ slots ≤ R.slots)
    (kk : ∀ (u : S) (H1 : Heap) (locs1 : List Loc), post u → va_P D vwCl (setL ws0 isC (W1 u)) H1 → va_D A0 (setL ws0 isC (W1 u)) → va_S A0 H0 H1 locs1 → W p l e R s m args below meth c H1 locs1 cells slots Q (F0 m (pc + 3) ls (.ref ra :: rest))) : W p l e R s m args below meth c H locs cells slots Q (F0 m pc ls st0) := by
  obtain ⟨cell, g1, g2, g3⟩ := va_recv hK.1 (hP.sub isC (j_fm hC)) hc he
  rw [hq] at g3
  have hFc := va_free (wc := WS) hD hS hA isC hC
  have hr := va_runV (e := e) (below := below) (meth := meth) (As := As) (rest := rest) (g := F0 m pc ls st0) (mc := 0) (ms := 0) (cells := cells) (slots := slots) (locs := locs) (H := H) ⟨hx, hb, hml, hown, hts⟩ (hM H.size) (j_cwV hts hG ok hR) ⟨j_blindm, ⟨cell, g1, g2, g3⟩, j_prem (av := (.ref b :: As)) hK hP hD isC hC hnd⟩ rfl hn hl hst0 (by show 2 * 0 + _ ≤ 8; omega) hdg ⟨by omega, by omega⟩
  refine va_callr hr hS (fun q _ h => hFc q h) hFc (fun u rb t H1 locs1 ht hvm hw hB hz hk hS1 => ?_)
  obtain ⟨rfl, hB⟩ := hB
  rw [ht] at hB
  obtain ⟨hP2, hD2⟩ := va_repl hP hD isC hC hk hB (hadr u)
  exact kk u H1 locs1 hw hP2 hD2 hS1
theorem kSiN {post : Int32 → Prop} (hx : p.tables.exec = Jvm.exec) (hb : c.code = cc) (hml : c.maxLocals = nL) (hown : s.vm.findClass own = some m.cls) (hts : ∀ w ∈ Ts, w.before args s = true) (hK : jK D cI cB s) (hP : va_P D vwCl ws0 H) (hG : GoodIn Ts ws) (hnw : va_Nw (.methodLinkNest own idx y host) s) (hini : (Cond.initialized y.cls).before args s = true) (hinst : (Cond.instanceMethod y).before args s = true) (hsel : (Cond.selects y.cls y y).before args s = true) (ok : jok y ws bytes maxL ret n) (hM : jSi D cI cB l y ws d (.ref b :: As) WS post) (isC : List Nat) (hC : isC.map (fun i => ws0[i]?) = WS.map some) (he : WS[0]? = some (b, .inr (ci, fs))) (hc : vwCl[ci]? = some q) (hq : q.1 = y.cls) (hR : d + 1 ≤ R.frames ∧ 8 + (maxL + 11) + 40 * d ≤ R.locals) (hl : ls.size = nL) (hn : As.length = n) (hst0 : st0 = As.reverse ++ .ref b :: rest) (hW : (rest.map fun v => v.category).sum ≤ 8) (hdg : decode cc pc = .ok (.invokevirtual idx, 3)) (hf : cells ≤ R.cells ∧ slots ≤ R.slots)
    (kk : ∀ r : Int32, post r → W p l e R s m args below meth c H locs cells slots Q (F0 m (pc + 3) ls (.int r :: rest))) : W p l e R s m args below meth c H locs cells slots Q (F0 m pc ls st0) := by
  obtain ⟨cell, g1, g2, g3⟩ := va_recv hK.1 (hP.sub isC (j_fm hC)) hc he
  rw [hq] at g3
  have hr := va_runVN (e := e) (below := below) (meth := meth) (As := As) (rest := rest) (g := F0 m pc ls st0) (mc := 0) (ms := 0) (cells := cells) (slots := slots) (locs := locs) (H := H) ⟨hx, hb, hml, hown, hts⟩ hM ⟨j_cwN hts hG hnw hini ok hR, hinst, hsel⟩ ⟨j_blind, ⟨cell, g1, g2, g3⟩, j_pre (av := (.ref b :: As)) hK hP isC hC⟩ rfl hn hl hst0 (by show 2 * 0 + _ ≤ 8; omega) hdg ⟨by omega, by omega⟩
  intro X0 hX0 St
  obtain ⟨v, st₀, t, T', L, h0, X', hL, e1, e2, ⟨r, hv, hp, hh⟩, st⟩ := hr X0 hX0 St
  cases hv
  obtain ⟨t2, a1, b1⟩ := kk r hp T' (by rw [e1, hh, h0]) (Stand.forget X' (fun q h => (hL q h).elim))
  exact ⟨t2, st t2 a1, b1⟩
theorem kSlN {post : Int64 → Prop} (hx : p.tables.exec = Jvm.exec) (hb : c.code = cc) (hml : c.maxLocals = nL) (hown : s.vm.findClass own = some m.cls) (hts : ∀ w ∈ Ts, w.before args s = true) (hK : jK D cI cB s) (hP : va_P D vwCl ws0 H) (hG : GoodIn Ts ws) (hnw : va_Nw (.methodLinkNest own idx y host) s) (hini : (Cond.initialized y.cls).before args s = true) (hinst : (Cond.instanceMethod y).before args s = true) (hsel : (Cond.selects y.cls y y).before args s = true) (ok : jok y ws bytes maxL ret n) (hM : jSl D cI cB l y ws d (.ref b :: As) WS post) (isC : List Nat) (hC : isC.map (fun i => ws0[i]?) = WS.map some) (he : WS[0]? = some (b, .inr (ci, fs))) (hc : vwCl[ci]? = some q) (hq : q.1 = y.cls) (hR : d + 1 ≤ R.frames ∧ 8 + (maxL + 11) + 40 * d ≤ R.locals) (hl : ls.size = nL) (hn : As.length = n) (hst0 : st0 = As.reverse ++ .ref b :: rest) (hW : (rest.map fun v => v.category).sum ≤ 8) (hdg : decode cc pc = .ok (.invokevirtual idx, 3)) (hf : cells ≤ R.cells ∧ slots ≤ R.slots)
    (kk : ∀ r : Int64, post r → W p l e R s m args below meth c H locs cells slots Q (F0 m (pc + 3) ls (.long r :: rest))) : W p l e R s m args below meth c H locs cells slots Q (F0 m pc ls st0) := by
  obtain ⟨cell, g1, g2, g3⟩ := va_recv hK.1 (hP.sub isC (j_fm hC)) hc he
  rw [hq] at g3
  have hr := va_runVN (e := e) (below := below) (meth := meth) (As := As) (rest := rest) (g := F0 m pc ls st0) (mc := 0) (ms := 0) (cells := cells) (slots := slots) (locs := locs) (H := H) ⟨hx, hb, hml, hown, hts⟩ hM ⟨j_cwN hts hG hnw hini ok hR, hinst, hsel⟩ ⟨j_blind, ⟨cell, g1, g2, g3⟩, j_pre (av := (.ref b :: As)) hK hP isC hC⟩ rfl hn hl hst0 (by show 2 * 0 + _ ≤ 8; omega) hdg ⟨by omega, by omega⟩
  intro X0 hX0 St
  obtain ⟨v, st₀, t, T', L, h0, X', hL, e1, e2, ⟨r, hv, hp, hh⟩, st⟩ := hr X0 hX0 St
  cases hv
  obtain ⟨t2, a1, b1⟩ := kk r hp T' (by rw [e1, hh, h0]) (Stand.forget X' (fun q h => (hL q h).elim))
  exact ⟨t2, st t2 a1, b1⟩
theorem kMiN {S : Type} {post : Int32 → S → Prop}  {W1 : S → va_W} (hx : p.tables.exec = Jvm.exec) (hb : c.code = cc) (hml : c.maxLocals = nL) (hown : s.vm.findClass own = some m.cls) (hts : ∀ w ∈ Ts, w.before args s = true) (hK : jK D cI cB s) (hP : va_P D vwCl ws0 H) (hD : va_D A0 ws0) (hA : ∀ q : Nat, H0.size ≤ q → A0 q) (hS : va_S A0 H0 H locs) (hG : GoodIn Ts ws) (hnw : va_Nw (.methodLinkNest own idx y host) s) (hini : (Cond.initialized y.cls).before args s = true) (hinst : (Cond.instanceMethod y).before args s = true) (hsel : (Cond.selects y.cls y y).before args s = true) (ok : jok y ws bytes maxL ret n) (hM : jMi D cI cB l y ws d (.ref b :: As) WS post  W1) (isC : List Nat) (hC : isC.map (fun i => ws0[i]?) = WS.map some) (hnd : va_nd isC = true) (hadr : ∀ u : S, (W1 u).map Prod.fst = WS.map Prod.fst) (he : WS[0]? = some (b, .inr (ci, fs))) (hc : vwCl[ci]? = some q) (hq : q.1 = y.cls) (hR : d + 1 ≤ R.frames ∧ 8 + (maxL + 11) + 40 * d ≤ R.locals) (hl : ls.size = nL) (hn : As.length = n) (hst0 : st0 = As.reverse ++ .ref b :: rest) (hW : (rest.map fun v => v.category).sum ≤ 8) (hdg : decode cc pc = .ok (.invokevirtual idx, 3)) (hf : cells ≤ R.cells ∧ slots ≤ R.slots)
    (kk : ∀ (r : Int32) (u : S) (H1 : Heap) (locs1 : List Loc), post r u → va_P D vwCl (setL ws0 isC (W1 u)) H1 → va_D A0 (setL ws0 isC (W1 u)) → va_S A0 H0 H1 locs1 → W p l e R s m args below meth c H1 locs1 cells slots Q (F0 m (pc + 3) ls (.int r :: rest))) : W p l e R s m args below meth c H locs cells slots Q (F0 m pc ls st0) := by
  obtain ⟨cell, g1, g2, g3⟩ := va_recv hK.1 (hP.sub isC (j_fm hC)) hc he
  rw [hq] at g3
  have hFc := va_free (wc := WS) hD hS hA isC hC
  have hr := va_runVN (e := e) (below := below) (meth := meth) (As := As) (rest := rest) (g := F0 m pc ls st0) (mc := 0) (ms := 0) (cells := cells) (slots := slots) (locs := locs) (H := H) ⟨hx, hb, hml, hown, hts⟩ (hM H.size) ⟨j_cwN hts hG hnw hini ok hR, hinst, hsel⟩ ⟨j_blindm, ⟨cell, g1, g2, g3⟩, j_prem (av := (.ref b :: As)) hK hP hD isC hC hnd⟩ rfl hn hl hst0 (by show 2 * 0 + _ ≤ 8; omega) hdg ⟨by omega, by omega⟩
  refine va_calli hr hS (fun q _ h => hFc q h) hFc (fun r u t H1 locs1 ht hvm hw hB hz hk hS1 => ?_)
  skip
  rw [ht] at hB
  obtain ⟨hP2, hD2⟩ := va_repl hP hD isC hC hk hB (hadr u)
  exact kk r u H1 locs1 hw hP2 hD2 hS1
theorem kMvN {S : Type} {post : S → Prop}  {W1 : S → va_W} (hx : p.tables.exec = Jvm.exec) (hb : c.code = cc) (hml : c.maxLocals = nL) (hown : s.vm.findClass own = some m.cls) (hts : ∀ w ∈ Ts, w.before args s = true) (hK : jK D cI cB s) (hP : va_P D vwCl ws0 H) (hD : va_D A0 ws0) (hA : ∀ q : Nat, H0.size ≤ q → A0 q) (hS : va_S A0 H0 H locs) (hG : GoodIn Ts ws) (hnw : va_Nw (.methodLinkNest own idx y host) s) (hini : (Cond.initialized y.cls).before args s = true) (hinst : (Cond.instanceMethod y).before args s = true) (hsel : (Cond.selects y.cls y y).before args s = true) (ok : jok y ws bytes maxL ret n) (hM : jMv D cI cB l y ws d (.ref b :: As) WS post  W1) (isC : List Nat) (hC : isC.map (fun i => ws0[i]?) = WS.map some) (hnd : va_nd isC = true) (hadr : ∀ u : S, (W1 u).map Prod.fst = WS.map Prod.fst) (he : WS[0]? = some (b, .inr (ci, fs))) (hc : vwCl[ci]? = some q) (hq : q.1 = y.cls) (hR : d + 1 ≤ R.frames ∧ 8 + (maxL + 11) + 40 * d ≤ R.locals) (hl : ls.size = nL) (hn : As.length = n) (hst0 : st0 = As.reverse ++ .ref b :: rest) (hW : (rest.map fun v => v.category).sum ≤ 8) (hdg : decode cc pc = .ok (.invokevirtual idx, 3)) (hf : cells ≤ R.cells ∧ slots ≤ R.slots)
    (kk : ∀ (u : S) (H1 : Heap) (locs1 : List Loc), post u → va_P D vwCl (setL ws0 isC (W1 u)) H1 → va_D A0 (setL ws0 isC (W1 u)) → va_S A0 H0 H1 locs1 → W p l e R s m args below meth c H1 locs1 cells slots Q (F0 m (pc + 3) ls rest)) : W p l e R s m args below meth c H locs cells slots Q (F0 m pc ls st0) := by
  obtain ⟨cell, g1, g2, g3⟩ := va_recv hK.1 (hP.sub isC (j_fm hC)) hc he
  rw [hq] at g3
  have hFc := va_free (wc := WS) hD hS hA isC hC
  have hr := va_runVN (e := e) (below := below) (meth := meth) (As := As) (rest := rest) (g := F0 m pc ls st0) (mc := 0) (ms := 0) (cells := cells) (slots := slots) (locs := locs) (H := H) ⟨hx, hb, hml, hown, hts⟩ (hM H.size) ⟨j_cwN hts hG hnw hini ok hR, hinst, hsel⟩ ⟨j_blindm, ⟨cell, g1, g2, g3⟩, j_prem (av := (.ref b :: As)) hK hP hD isC hC hnd⟩ rfl hn hl hst0 (by show 2 * 0 + _ ≤ 8; omega) hdg ⟨by omega, by omega⟩
  refine va_callv hr hS (fun q _ h => hFc q h) hFc (fun u t H1 locs1 ht hvm hw hB hz hk hS1 => ?_)
  skip
  rw [ht] at hB
  obtain ⟨hP2, hD2⟩ := va_repl hP hD isC hC hk hB (hadr u)
  exact kk u H1 locs1 hw hP2 hD2 hS1
theorem kMlN {S : Type} {post : Int64 → S → Prop}  {W1 : S → va_W} (hx : p.tables.exec = Jvm.exec) (hb : c.code = cc) (hml : c.maxLocals = nL) (hown : s.vm.findClass own = some m.cls) (hts : ∀ w ∈ Ts, w.before args s = true) (hK : jK D cI cB s) (hP : va_P D vwCl ws0 H) (hD : va_D A0 ws0) (hA : ∀ q : Nat, H0.size ≤ q → A0 q) (hS : va_S A0 H0 H locs) (hG : GoodIn Ts ws) (hnw : va_Nw (.methodLinkNest own idx y host) s) (hini : (Cond.initialized y.cls).before args s = true) (hinst : (Cond.instanceMethod y).before args s = true) (hsel : (Cond.selects y.cls y y).before args s = true) (ok : jok y ws bytes maxL ret n) (hM : jMl D cI cB l y ws d (.ref b :: As) WS post  W1) (isC : List Nat) (hC : isC.map (fun i => ws0[i]?) = WS.map some) (hnd : va_nd isC = true) (hadr : ∀ u : S, (W1 u).map Prod.fst = WS.map Prod.fst) (he : WS[0]? = some (b, .inr (ci, fs))) (hc : vwCl[ci]? = some q) (hq : q.1 = y.cls) (hR : d + 1 ≤ R.frames ∧ 8 + (maxL + 11) + 40 * d ≤ R.locals) (hl : ls.size = nL) (hn : As.length = n) (hst0 : st0 = As.reverse ++ .ref b :: rest) (hW : (rest.map fun v => v.category).sum ≤ 8) (hdg : decode cc pc = .ok (.invokevirtual idx, 3)) (hf : cells ≤ R.cells ∧ slots ≤ R.slots)
    (kk : ∀ (r : Int64) (u : S) (H1 : Heap) (locs1 : List Loc), post r u → va_P D vwCl (setL ws0 isC (W1 u)) H1 → va_D A0 (setL ws0 isC (W1 u)) → va_S A0 H0 H1 locs1 → W p l e R s m args below meth c H1 locs1 cells slots Q (F0 m (pc + 3) ls (.long r :: rest))) : W p l e R s m args below meth c H locs cells slots Q (F0 m pc ls st0) := by
  obtain ⟨cell, g1, g2, g3⟩ := va_recv hK.1 (hP.sub isC (j_fm hC)) hc he
  rw [hq] at g3
  have hFc := va_free (wc := WS) hD hS hA isC hC
  have hr := va_runVN (e := e) (below := below) (meth := meth) (As := As) (rest := rest) (g := F0 m pc ls st0) (mc := 0) (ms := 0) (cells := cells) (slots := slots) (locs := locs) (H := H) ⟨hx, hb, hml, hown, hts⟩ (hM H.size) ⟨j_cwN hts hG hnw hini ok hR, hinst, hsel⟩ ⟨j_blindm, ⟨cell, g1, g2, g3⟩, j_prem (av := (.ref b :: As)) hK hP hD isC hC hnd⟩ rfl hn hl hst0 (by show 2 * 0 + _ ≤ 8; omega) hdg ⟨by omega, by omega⟩
  refine va_calll hr hS (fun q _ h => hFc q h) hFc (fun r u t H1 locs1 ht hvm hw hB hz hk hS1 => ?_)
  skip
  rw [ht] at hB
  obtain ⟨hP2, hD2⟩ := va_repl hP hD isC hC hk hB (hadr u)
  exact kk r u H1 locs1 hw hP2 hD2 hS1
theorem kMrN {S : Type} {post : S → Prop} {ra : Nat} {W1 : S → va_W} (hx : p.tables.exec = Jvm.exec) (hb : c.code = cc) (hml : c.maxLocals = nL) (hown : s.vm.findClass own = some m.cls) (hts : ∀ w ∈ Ts, w.before args s = true) (hK : jK D cI cB s) (hP : va_P D vwCl ws0 H) (hD : va_D A0 ws0) (hA : ∀ q : Nat, H0.size ≤ q → A0 q) (hS : va_S A0 H0 H locs) (hG : GoodIn Ts ws) (hnw : va_Nw (.methodLinkNest own idx y host) s) (hini : (Cond.initialized y.cls).before args s = true) (hinst : (Cond.instanceMethod y).before args s = true) (hsel : (Cond.selects y.cls y y).before args s = true) (ok : jok y ws bytes maxL ret n) (hM : jMr D cI cB l y ws d (.ref b :: As) WS post ra W1) (isC : List Nat) (hC : isC.map (fun i => ws0[i]?) = WS.map some) (hnd : va_nd isC = true) (hadr : ∀ u : S, (W1 u).map Prod.fst = WS.map Prod.fst) (he : WS[0]? = some (b, .inr (ci, fs))) (hc : vwCl[ci]? = some q) (hq : q.1 = y.cls) (hR : d + 1 ≤ R.frames ∧ 8 + (maxL + 11) + 40 * d ≤ R.locals) (hl : ls.size = nL) (hn : As.length = n) (hst0 : st0 = As.reverse ++ .ref b :: rest) (hW : (rest.map fun v => v.category).sum ≤ 8) (hdg : decode cc pc = .ok (.invokevirtual idx, 3)) (hf : cells ≤ R.cells ∧ slots ≤ R.slots)
    (kk : ∀ (u : S) (H1 : Heap) (locs1 : List Loc), post u → va_P D vwCl (setL ws0 isC (W1 u)) H1 → va_D A0 (setL ws0 isC (W1 u)) → va_S A0 H0 H1 locs1 → W p l e R s m args below meth c H1 locs1 cells slots Q (F0 m (pc + 3) ls (.ref ra :: rest))) : W p l e R s m args below meth c H locs cells slots Q (F0 m pc ls st0) := by
  obtain ⟨cell, g1, g2, g3⟩ := va_recv hK.1 (hP.sub isC (j_fm hC)) hc he
  rw [hq] at g3
  have hFc := va_free (wc := WS) hD hS hA isC hC
  have hr := va_runVN (e := e) (below := below) (meth := meth) (As := As) (rest := rest) (g := F0 m pc ls st0) (mc := 0) (ms := 0) (cells := cells) (slots := slots) (locs := locs) (H := H) ⟨hx, hb, hml, hown, hts⟩ (hM H.size) ⟨j_cwN hts hG hnw hini ok hR, hinst, hsel⟩ ⟨j_blindm, ⟨cell, g1, g2, g3⟩, j_prem (av := (.ref b :: As)) hK hP hD isC hC hnd⟩ rfl hn hl hst0 (by show 2 * 0 + _ ≤ 8; omega) hdg ⟨by omega, by omega⟩
  refine va_callr hr hS (fun q _ h => hFc q h) hFc (fun u rb t H1 locs1 ht hvm hw hB hz hk hS1 => ?_)
  obtain ⟨rfl, hB⟩ := hB
  rw [ht] at hB
  obtain ⟨hP2, hD2⟩ := va_repl hP hD isC hC hk hB (hadr u)
  exact kk u H1 locs1 hw hP2 hD2 hS1
theorem kSiS {post : Int32 → Prop} (hx : p.tables.exec = Jvm.exec) (hb : c.code = cc) (hml : c.maxLocals = nL) (hown : s.vm.findClass own = some m.cls) (hts : ∀ w ∈ Ts, w.before args s = true) (hK : jK D cI cB s) (hP : va_P D vwCl ws0 H) (hG : GoodIn Ts (va_wsS own idx y ws)) (ok : jok y ws bytes maxL ret n) (hM : jSi D cI cB l y ws d As WS post) (isC : List Nat) (hC : isC.map (fun i => ws0[i]?) = WS.map some)  (hR : d + 1 ≤ R.frames ∧ 8 + (maxL + 11) + 40 * d ≤ R.locals) (hl : ls.size = nL) (hn : As.length = n) (hst0 : st0 = As.reverse ++ rest) (hW : (rest.map fun v => v.category).sum ≤ 8) (hdg : decode cc pc = .ok (.invokestatic idx, 3)) (hf : cells ≤ R.cells ∧ slots ≤ R.slots)
    (kk : ∀ r : Int32, post r → W p l e R s m args below meth c H locs cells slots Q (F0 m (pc + 3) ls (.int r :: rest))) : W p l e R s m args below meth c H locs cells slots Q (F0 m pc ls st0) := by
  have hr := va_runS (e := e) (below := below) (meth := meth) (As := As) (rest := rest) (g := F0 m pc ls st0) (mc := 0) (ms := 0) (cells := cells) (slots := slots) (locs := locs) (H := H) ⟨hx, hb, hml, hown, hts⟩ hM (j_cwS hts hG ok hR) ⟨j_blind, j_pre (av := As) hK hP isC hC⟩ rfl hn hl hst0 (by show 2 * 0 + _ ≤ 8; omega) hdg ⟨by omega, by omega⟩
  intro X0 hX0 St
  obtain ⟨v, st₀, t, T', L, h0, X', hL, e1, e2, ⟨r, hv, hp, hh⟩, st⟩ := hr X0 hX0 St
  cases hv
  obtain ⟨t2, a1, b1⟩ := kk r hp T' (by rw [e1, hh, h0]) (Stand.forget X' (fun q h => (hL q h).elim))
  exact ⟨t2, st t2 a1, b1⟩
theorem kSlS {post : Int64 → Prop} (hx : p.tables.exec = Jvm.exec) (hb : c.code = cc) (hml : c.maxLocals = nL) (hown : s.vm.findClass own = some m.cls) (hts : ∀ w ∈ Ts, w.before args s = true) (hK : jK D cI cB s) (hP : va_P D vwCl ws0 H) (hG : GoodIn Ts (va_wsS own idx y ws)) (ok : jok y ws bytes maxL ret n) (hM : jSl D cI cB l y ws d As WS post) (isC : List Nat) (hC : isC.map (fun i => ws0[i]?) = WS.map some)  (hR : d + 1 ≤ R.frames ∧ 8 + (maxL + 11) + 40 * d ≤ R.locals) (hl : ls.size = nL) (hn : As.length = n) (hst0 : st0 = As.reverse ++ rest) (hW : (rest.map fun v => v.category).sum ≤ 8) (hdg : decode cc pc = .ok (.invokestatic idx, 3)) (hf : cells ≤ R.cells ∧ slots ≤ R.slots)
    (kk : ∀ r : Int64, post r → W p l e R s m args below meth c H locs cells slots Q (F0 m (pc + 3) ls (.long r :: rest))) : W p l e R s m args below meth c H locs cells slots Q (F0 m pc ls st0) := by
  have hr := va_runS (e := e) (below := below) (meth := meth) (As := As) (rest := rest) (g := F0 m pc ls st0) (mc := 0) (ms := 0) (cells := cells) (slots := slots) (locs := locs) (H := H) ⟨hx, hb, hml, hown, hts⟩ hM (j_cwS hts hG ok hR) ⟨j_blind, j_pre (av := As) hK hP isC hC⟩ rfl hn hl hst0 (by show 2 * 0 + _ ≤ 8; omega) hdg ⟨by omega, by omega⟩
  intro X0 hX0 St
  obtain ⟨v, st₀, t, T', L, h0, X', hL, e1, e2, ⟨r, hv, hp, hh⟩, st⟩ := hr X0 hX0 St
  cases hv
  obtain ⟨t2, a1, b1⟩ := kk r hp T' (by rw [e1, hh, h0]) (Stand.forget X' (fun q h => (hL q h).elim))
  exact ⟨t2, st t2 a1, b1⟩
theorem kSiT {post : Int32 → Prop} (hx : p.tables.exec = Jvm.exec) (hb : c.code = cc) (hml : c.maxLocals = nL) (hown : s.vm.findClass own = some m.cls) (hts : ∀ w ∈ Ts, w.before args s = true) (hK : jK D cI cB s) (hP : va_P D vwCl ws0 H) (hG : GoodIn Ts ws) (hnw : va_Nw (.methodLinkNest own idx y host) s) (hini : (Cond.initialized y.cls).before args s = true) (hst : (Cond.static y).before args s = true) (ok : jok y ws bytes maxL ret n) (hM : jSi D cI cB l y ws d As WS post) (isC : List Nat) (hC : isC.map (fun i => ws0[i]?) = WS.map some)  (hR : d + 1 ≤ R.frames ∧ 8 + (maxL + 11) + 40 * d ≤ R.locals) (hl : ls.size = nL) (hn : As.length = n) (hst0 : st0 = As.reverse ++ rest) (hW : (rest.map fun v => v.category).sum ≤ 8) (hdg : decode cc pc = .ok (.invokestatic idx, 3)) (hf : cells ≤ R.cells ∧ slots ≤ R.slots)
    (kk : ∀ r : Int32, post r → W p l e R s m args below meth c H locs cells slots Q (F0 m (pc + 3) ls (.int r :: rest))) : W p l e R s m args below meth c H locs cells slots Q (F0 m pc ls st0) := by
  have hr := va_runSN (e := e) (below := below) (meth := meth) (As := As) (rest := rest) (g := F0 m pc ls st0) (mc := 0) (ms := 0) (cells := cells) (slots := slots) (locs := locs) (H := H) ⟨hx, hb, hml, hown, hts⟩ hM ⟨j_cwN hts hG hnw hini ok hR, hst, trivial⟩ ⟨j_blind, j_pre (av := As) hK hP isC hC⟩ rfl hn hl hst0 (by show 2 * 0 + _ ≤ 8; omega) hdg ⟨by omega, by omega⟩
  intro X0 hX0 St
  obtain ⟨v, st₀, t, T', L, h0, X', hL, e1, e2, ⟨r, hv, hp, hh⟩, st⟩ := hr X0 hX0 St
  cases hv
  obtain ⟨t2, a1, b1⟩ := kk r hp T' (by rw [e1, hh, h0]) (Stand.forget X' (fun q h => (hL q h).elim))
  exact ⟨t2, st t2 a1, b1⟩
theorem kSlT {post : Int64 → Prop} (hx : p.tables.exec = Jvm.exec) (hb : c.code = cc) (hml : c.maxLocals = nL) (hown : s.vm.findClass own = some m.cls) (hts : ∀ w ∈ Ts, w.before args s = true) (hK : jK D cI cB s) (hP : va_P D vwCl ws0 H) (hG : GoodIn Ts ws) (hnw : va_Nw (.methodLinkNest own idx y host) s) (hini : (Cond.initialized y.cls).before args s = true) (hst : (Cond.static y).before args s = true) (ok : jok y ws bytes maxL ret n) (hM : jSl D cI cB l y ws d As WS post) (isC : List Nat) (hC : isC.map (fun i => ws0[i]?) = WS.map some)  (hR : d + 1 ≤ R.frames ∧ 8 + (maxL + 11) + 40 * d ≤ R.locals) (hl : ls.size = nL) (hn : As.length = n) (hst0 : st0 = As.reverse ++ rest) (hW : (rest.map fun v => v.category).sum ≤ 8) (hdg : decode cc pc = .ok (.invokestatic idx, 3)) (hf : cells ≤ R.cells ∧ slots ≤ R.slots)
    (kk : ∀ r : Int64, post r → W p l e R s m args below meth c H locs cells slots Q (F0 m (pc + 3) ls (.long r :: rest))) : W p l e R s m args below meth c H locs cells slots Q (F0 m pc ls st0) := by
  have hr := va_runSN (e := e) (below := below) (meth := meth) (As := As) (rest := rest) (g := F0 m pc ls st0) (mc := 0) (ms := 0) (cells := cells) (slots := slots) (locs := locs) (H := H) ⟨hx, hb, hml, hown, hts⟩ hM ⟨j_cwN hts hG hnw hini ok hR, hst, trivial⟩ ⟨j_blind, j_pre (av := As) hK hP isC hC⟩ rfl hn hl hst0 (by show 2 * 0 + _ ≤ 8; omega) hdg ⟨by omega, by omega⟩
  intro X0 hX0 St
  obtain ⟨v, st₀, t, T', L, h0, X', hL, e1, e2, ⟨r, hv, hp, hh⟩, st⟩ := hr X0 hX0 St
  cases hv
  obtain ⟨t2, a1, b1⟩ := kk r hp T' (by rw [e1, hh, h0]) (Stand.forget X' (fun q h => (hL q h).elim))
  exact ⟨t2, st t2 a1, b1⟩
theorem rSi {post : Int32 → Prop} {v : Int32} (hx : p.tables.exec = Jvm.exec) (hb : c.code = cc) (hr : meth.sig.returnType = some .int) (hlk : meth.locks = false) (hp : post v) (hdg : decode cc pc = .ok (.ireturn, 1)) : W p l e R s m args below meth c s.heap [] cells slots (MQ below (vp_Si post) args s cells slots (fun _ => False)) (F0 m pc ls [.int v]) :=
  W.iret (v := v) hx hb hr (fun t ht hW => ⟨v, rfl, hp, ht⟩) (fun _ h => by cases h) hdg hlk
theorem rSz {post : Int32 → Prop} {v : Int32} (hx : p.tables.exec = Jvm.exec) (hb : c.code = cc) (hr : meth.sig.returnType = some .boolean) (hlk : meth.locks = false) (hz : v = 0 ∨ v = 1) (hp : post v) (hdg : decode cc pc = .ok (.ireturn, 1)) : W p l e R s m args below meth c s.heap [] cells slots (MQ below (vp_Si post) args s cells slots (fun _ => False)) (F0 m pc ls [.int v]) :=
  W.zret (v := v) hx hb hr (by rcases hz with rfl | rfl <;> rfl) (fun t ht hW => ⟨v, rfl, hp, ht⟩) (fun _ h => by cases h) hdg hlk
theorem rSl {post : Int64 → Prop} {v : Int64} (hx : p.tables.exec = Jvm.exec) (hb : c.code = cc) (hr : meth.sig.returnType = some .long) (hlk : meth.locks = false) (hp : post v) (hdg : decode cc pc = .ok (.lreturn, 1)) : W p l e R s m args below meth c s.heap [] cells slots (MQ below (vp_Sl post) args s cells slots (fun _ => False)) (F0 m pc ls [.long v]) :=
  W.lret (v := v) hx hb hr (fun t ht hW => ⟨v, rfl, hp, ht⟩) (fun _ h => by cases h) hdg hlk
theorem rMi {S : Type} {post : Int32 → S → Prop} {W1 : S → va_W} {v : Int32} (hx : p.tables.exec = Jvm.exec) (hb : c.code = cc) (hr : meth.sig.returnType = some .int) (hlk : meth.locks = false) (hS : va_S A0 s.heap H locs) (u : S) (hP : va_P D vwCl (W1 u) H) (hp : post v u) (hdg : decode cc pc = .ok (.ireturn, 1)) : W p l e R s m args below meth c H locs cells slots (MQ below (va_Qi post (fun u t => va_P D vwCl (W1 u) t.heap) A0) args s cells slots A0) (F0 m pc ls [.int v]) :=
  W.iret (v := v) hx hb hr (fun t ht hW => ⟨⟨v, u, rfl, hp, by subst ht; exact hP⟩, hS.F ht⟩) hS.2.2 hdg hlk
theorem rMz {S : Type} {post : Int32 → S → Prop} {W1 : S → va_W} {v : Int32} (hx : p.tables.exec = Jvm.exec) (hb : c.code = cc) (hr : meth.sig.returnType = some .boolean) (hlk : meth.locks = false) (hS : va_S A0 s.heap H locs) (u : S) (hP : va_P D vwCl (W1 u) H) (hz : v = 0 ∨ v = 1) (hp : post v u) (hdg : decode cc pc = .ok (.ireturn, 1)) : W p l e R s m args below meth c H locs cells slots (MQ below (va_Qi post (fun u t => va_P D vwCl (W1 u) t.heap) A0) args s cells slots A0) (F0 m pc ls [.int v]) :=
  W.zret (v := v) hx hb hr (by rcases hz with rfl | rfl <;> rfl) (fun t ht hW => ⟨⟨v, u, rfl, hp, by subst ht; exact hP⟩, hS.F ht⟩) hS.2.2 hdg hlk
theorem rMl {S : Type} {post : Int64 → S → Prop} {W1 : S → va_W} {v : Int64} (hx : p.tables.exec = Jvm.exec) (hb : c.code = cc) (hr : meth.sig.returnType = some .long) (hlk : meth.locks = false) (hS : va_S A0 s.heap H locs) (u : S) (hP : va_P D vwCl (W1 u) H) (hp : post v u) (hdg : decode cc pc = .ok (.lreturn, 1)) : W p l e R s m args below meth c H locs cells slots (MQ below (va_Ql post (fun u t => va_P D vwCl (W1 u) t.heap) A0) args s cells slots A0) (F0 m pc ls [.long v]) :=
  W.lret (v := v) hx hb hr (fun t ht hW => ⟨⟨v, u, rfl, hp, by subst ht; exact hP⟩, hS.F ht⟩) hS.2.2 hdg hlk
theorem rMv {S : Type} {post : S → Prop} {W1 : S → va_W} (hx : p.tables.exec = Jvm.exec) (hb : c.code = cc) (hr : meth.sig.returnType = none) (hlk : meth.locks = false) (hS : va_S A0 s.heap H locs) (u : S) (hP : va_P D vwCl (W1 u) H) (hp : post u) (hdg : decode cc pc = .ok (.return_, 1)) : W p l e R s m args below meth c H locs cells slots (MQ below (va_Qv post (fun u t => va_P D vwCl (W1 u) t.heap) A0) args s cells slots A0) (F0 m pc ls []) :=
  W.vret hx hb hr (fun t ht hW => ⟨⟨u, rfl, hp, by subst ht; exact hP⟩, hS.F ht⟩) hS.2.2 hdg hlk
theorem rMr {S : Type} {post : S → Prop} {W1 : S → va_W} {ra : Nat} {C : String} (hx : p.tables.exec = Jvm.exec) (hb : c.code = cc) (hr : meth.sig.returnType = some (.object C)) (hlk : meth.locks = false) (hS : va_S A0 s.heap H locs) (u : S) (hP : va_P D vwCl (W1 u) H) (hp : post u) (hdg : decode cc pc = .ok (.areturn, 1)) : W p l e R s m args below meth c H locs cells slots (MQ below (va_Qr post (fun u a t => a = ra ∧ va_P D vwCl (W1 u) t.heap) A0) args s cells slots A0) (F0 m pc ls [.ref ra]) :=
  W.aret (v := .ref ra) hx hb hr (Or.inl ⟨C, rfl⟩) (Or.inr ⟨ra, rfl⟩) (fun t ht hW => ⟨⟨u, ra, rfl, hp, rfl, by subst ht; exact hP⟩, hS.F ht⟩) hS.2.2 hdg hlk
/-- an int array, read and written at a place k -/
theorem jald {tys : List (ClassId × FieldType)} (hx : p.tables.exec = Jvm.exec) (hb : c.code = cc) (hK : va_K D vwCl tys s) (hP : va_P D vwCl ws0 H) (q0 t0 k : Nat) {a N : Nat} {cA : ClassId} {f : Nat → Int32} {i : Int32} (ha : ws0[q0]? = some (a, .inl (cA, N, .inl f))) (ht : tys[t0]? = some (cA, .int)) (hi : i = nI k) (hk : k < N) (hN : N < 2147483648) (hdg : decode cc pc = .ok (.iaload, 1))
    (kk : W p l e R s m args below meth c H locs cells slots Q (F0 m (pc + 1) ls (.int (f k) :: rest))) : W p l e R s m args below meth c H locs cells slots Q (F0 m pc ls (.int i :: .ref a :: rest)) := by
  subst hi
  refine va_iald hx hb hK hP q0 t0 ha ht (vp_in_nI hk hN) hdg ?_
  rw [nI_clamp (Nat.lt_trans hk hN)]
  exact kk
theorem jast {tys : List (ClassId × FieldType)} (hx : p.tables.exec = Jvm.exec) (hb : c.code = cc) (hK : va_K D vwCl tys s) (hP : va_P D vwCl ws0 H) (hD : va_D A0 ws0) (hS : va_S A0 H0 H locs) (q0 t0 k : Nat) {a N : Nat} {cA : ClassId} {f : Nat → Int32} {i x : Int32} (ha : ws0[q0]? = some (a, .inl (cA, N, .inl f))) (ht : tys[t0]? = some (cA, .int)) (hi : i = nI k) (hk : k < N) (hN : N < 2147483648) (hdg : decode cc pc = .ok (.iastore, 1))
    (kk : ∀ f1 : Nat → Int32, f1 = upd f k x → ∀ (H1 : Heap) (locs1 : List Loc), va_P D vwCl (ws0.set q0 (a, .inl (cA, N, .inl f1))) H1 → va_D A0 (ws0.set q0 (a, .inl (cA, N, .inl f1))) → va_S A0 H0 H1 locs1 → W p l e R s m args below meth c H1 locs1 cells slots Q (F0 m (pc + 1) ls rest)) : W p l e R s m args below meth c H locs cells slots Q (F0 m pc ls (.int x :: .int i :: .ref a :: rest)) := by
  subst hi
  refine va_iast hx hb hK hP hD hS q0 t0 ha ht (vp_in_nI hk hN) hdg ?_
  rw [nI_clamp (Nat.lt_trans hk hN)]
  exact kk _ rfl
end JC
/-- what a row holds beyond its length is nobody's -/
theorem cell_cong (cA : ClassId) (n : Nat) {f g : Nat → Int32} (h : ∀ j, j < n → f j = g j) : vp_cell cA (n, .inl f) = vp_cell cA (n, .inl g) := by
  rw [vp_cell_i, vp_cell_i]
  unfold arrV
  congr 2
  funext j
  exact congrArg Value.int (h j.val j.isLt)
theorem va_P.cong {D : va_G} {cl : List vw_C} {ws : va_W} {H : Heap} (h : va_P D cl ws H) (q0 : Nat) {a n : Nat} {cA : ClassId} {f g : Nat → Int32} (ha : ws[q0]? = some (a, .inl (cA, n, .inl f))) (hfg : ∀ j, j < n → f j = g j) : va_P D cl (ws.set q0 (a, .inl (cA, n, .inl g))) H := by
  intro k q hk
  by_cases hj : q0 = k
  · subst hj
    rw [List.getElem?_set_self (List.getElem?_eq_some_iff.mp ha).1] at hk
    cases hk
    have h1 := h q0 _ ha
    show H[a]? = some (vp_cell _ _)
    rw [← cell_cong cA n hfg]
    exact h1
  · rw [List.getElem?_set_ne hj] at hk
    exact h k q hk
/-- a truth as an int -/
def b1 (P : Prop) [Decidable P] : Int32 := if P then 1 else 0
theorem b1_t {P : Prop} [Decidable P] (h : P) : b1 P = 1 := if_pos h
theorem b1_f {P : Prop} [Decidable P] (h : ¬ P) : b1 P = 0 := if_neg h
theorem b1_z {P : Prop} [Decidable P] (h : b1 P = 0) : ¬ P := fun q => by rw [b1_t q] at h; exact absurd h (by decide)
theorem b1_n {P : Prop} [Decidable P] (h : ¬ b1 P = 0) : P := Decidable.byContradiction fun q => h (b1_f q)
theorem b1_01 (P : Prop) [Decidable P] : b1 P = 0 ∨ b1 P = 1 := by by_cases h : P; exact Or.inr (b1_t h); exact Or.inl (b1_f h)
theorem jle {a b : Nat} (ha : a < 2147483648) (hb : b < 2147483648) : nI a ≤ nI b ↔ a ≤ b := nI_leI ha hb
theorem jlt {a b : Nat} (ha : a < 2147483648) (hb : b < 2147483648) : nI a < nI b ↔ a < b := nI_ltI ha hb
theorem jeq {a b : Nat} (ha : a < 2147483648) (hb : b < 2147483648) : nI a = nI b ↔ a = b := nI_eq ha hb
