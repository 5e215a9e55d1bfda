/-! the past's ring, and the letters: what both sides say -/
theorem jaldq {p : Program} {l : Launch} {e : Env} {R : Room} {s : State} {m : MethodId} {args : Array Value} {below : List Frame} {meth : Method} {c : Code} {H : Heap} {locs : List Loc} {cells slots : Nat} {Q : State → Prop} {pc : Nat} {ls : Array Slot} {rest : List Value} {cc : ByteArray} {D : va_G} {ws0 : va_W} {tys : List (ClassId × FieldType)} (hx : p.tables.exec = Jvm.exec) (hb : c.code = cc) (hK : va_K D vwCl tys s) (hP : va_P D vwCl ws0 H) (q0 t0 k : Nat) {a N : Nat} {cA : ClassId} {C : String} {h : Nat → Nat} {i : Int32} (ha : ws0[q0]? = some (a, .inl (cA, N, .inr (.inr (.inr (.inr (fun j => some (h j)))))))) (ht : tys[t0]? = some (cA, .object C)) (hi : i = nI k) (hk : k < N) (hN : N < 2147483648) (hdg : decode cc pc = .ok (.aaload, 1))
    (kk : W p l e R s m args below meth c H locs cells slots Q (F0 m (pc + 1) ls (.ref (h k) :: rest))) : W p l e R s m args below meth c H locs cells slots Q (F0 m pc ls (.int i :: .ref a :: rest)) := by
  subst hi
  refine va_aldq hx hb hK hP q0 t0 ha ht (vp_in_nI hk hN) hdg ?_
  rw [nI_clamp (Nat.lt_trans hk hN)]
  exact kk
abbrev pW (cB : ClassId) (g : Nat → Nat) (la ct : Nat) : va_W := [(g 26, .inr (3, [.ref (g 27), .int (nI la), .int (nI ct)])), (g 27, .inl (cB, 8, .inr (.inr (.inr (.inr (fun k => some (g (28 + 6 * k))))))))]
abbrev lW (cI : ClassId) (g : Nat → Nat) (L : Nat → Int32) (ln : Nat) : va_W := [(g 18, .inr (1, [.ref (g 19), .int (nI ln)])), (g 19, .inl (cI, 96, .inl L))]
def mc8 (n : Nat) : Nat := if n < 8 then n + 1 else 8
theorem mc8_8 (n : Nat) : mc8 n ≤ 8 ∧ 0 < mc8 n := by unfold mc8; split <;> omega
theorem pk8 {la : Nat} (h : la < 8) : nI la + 1 - (nI la + 1) / 8 * 8 = nI ((la + 1) % 8) := by
  have : la = 0 ∨ la = 1 ∨ la = 2 ∨ la = 3 ∨ la = 4 ∨ la = 5 ∨ la = 6 ∨ la = 7 := by omega
  rcases this with e | e | e | e | e | e | e | e <;> subst e <;> decide
theorem pk7 {la : Nat} (h : la < 8) : nI la + 8 - 1 - (nI la + 8 - 1) / 8 * 8 = nI ((la + 7) % 8) := by
  have : la = 0 ∨ la = 1 ∨ la = 2 ∨ la = 3 ∨ la = 4 ∨ la = 5 ∨ la = 6 ∨ la = 7 := by omega
  rcases this with e | e | e | e | e | e | e | e <;> subst e <;> decide
theorem pm8 {n : Nat} (h : n ≤ 8) : (if nI n + 1 < 8 then nI n + 1 else 8) = nI (mc8 n) := by
  have : n = 0 ∨ n = 1 ∨ n = 2 ∨ n = 3 ∨ n = 4 ∨ n = 5 ∨ n = 6 ∨ n = 7 ∨ n = 8 := by omega
  rcases this with e | e | e | e | e | e | e | e | e <;> subst e <;> decide
theorem pd1 {n : Nat} (h0 : 0 < n) : nI n - 1 = nI (n - 1) := by
  obtain ⟨k, rfl⟩ : ∃ k, n = k + 1 := ⟨n - 1, by omega⟩
  exact nI_pred k
theorem nI_2 (k : Nat) : nI k + 2 = nI (k + 2) := nI_add k 2
theorem nI_3 (k : Nat) : nI k + 3 = nI (k + 3) := nI_add k 3
/-- the letter at a place; none: -1 -/
def la_ (L : Nat → Int32) (n i : Nat) : Int32 := if i < n then L i else -1
/-- how many digits stand behind a first letter -/
def db_ (c : Int32) : Nat := if c = 115 then 4 else if c = 112 then 3 else if c = 113 then 1 else if c = 105 then 2 else if c = 118 then 1 else if c = 104 then 2 else 0
theorem db_4 (c : Int32) : db_ c ≤ 4 := by
  unfold db_
  split
  · exact Nat.le_refl 4
  · split
    · decide
    · split
      · decide
      · split
        · decide
        · split
          · decide
          · split <;> decide
theorem db_o {c : Int32} (h1 : ¬ c = 104) (h2 : ¬ c = 105) (h3 : ¬ c = 112) (h4 : ¬ c = 113) (h5 : ¬ c = 115) (h6 : ¬ c = 118) : db_ c = 0 := by
  unfold db_; rw [if_neg h5, if_neg h3, if_neg h4, if_neg h2, if_neg h6, if_neg h1]
/-- the first of m places that is no digit -/
def dg_ (L : Nat → Int32) (n : Nat) : Nat → Nat → Option Nat
  | 0, _ => none
  | m + 1, i => if 48 ≤ la_ L n i ∧ la_ L n i ≤ 57 then dg_ L n m (i + 1) else some i
theorem dg_s {L : Nat → Int32} {n d j b : Nat} (h : j < d) : dg_ L n (d - j) (b + j) = if 48 ≤ la_ L n (b + j) ∧ la_ L n (b + j) ≤ 57 then dg_ L n (d - (j + 1)) (b + (j + 1)) else some (b + j) := by
  rw [show d - j = (d - (j + 1)) + 1 by omega]; rfl
theorem dg_z {L : Nat → Int32} {n d j b : Nat} {o : Option Nat} (h : dg_ L n (d - j) (b + j) = o) (hj : d ≤ j) : o = none := by
  rw [← h, show d - j = 0 by omega]; rfl
/-- FAULT of kind 1: its place -/
def fa_ (L : Nat → Int32) (n : Nat) : Nat → Nat → Option Nat
  | 0, _ => none
  | m + 1, i => if db_ (la_ L n i) = 0 then some i else match dg_ L n (db_ (la_ L n i)) (i + 1) with
    | some q => some q
    | none => if la_ L n (i + (db_ (la_ L n i) + 1)) = 59 then (if i + (db_ (la_ L n i) + 1) + 1 < n then fa_ L n m (i + (db_ (la_ L n i) + 1) + 1) else none) else some (i + (db_ (la_ L n i) + 1))
theorem fa_a {L : Nat → Int32} {n m i : Nat} (h : 0 < m) (c : db_ (la_ L n i) = 0) : fa_ L n m i = some i := by
  obtain ⟨m, rfl⟩ : ∃ k, m = k + 1 := ⟨m - 1, by omega⟩
  rw [fa_, if_pos c]
theorem fa_b {L : Nat → Int32} {n m i q : Nat} (h : 0 < m) (c : ¬ db_ (la_ L n i) = 0) (hd : dg_ L n (db_ (la_ L n i)) (i + 1) = some q) : fa_ L n m i = some q := by
  obtain ⟨m, rfl⟩ : ∃ k, m = k + 1 := ⟨m - 1, by omega⟩
  rw [fa_, if_neg c]; simp only [hd]
theorem fa_c {L : Nat → Int32} {n m i : Nat} (h : 0 < m) (c : ¬ db_ (la_ L n i) = 0) (hd : dg_ L n (db_ (la_ L n i)) (i + 1) = none) (h59 : ¬ la_ L n (i + (db_ (la_ L n i) + 1)) = 59) : fa_ L n m i = some (i + (db_ (la_ L n i) + 1)) := by
  obtain ⟨m, rfl⟩ : ∃ k, m = k + 1 := ⟨m - 1, by omega⟩
  rw [fa_, if_neg c]; simp only [hd]; rw [if_neg h59]
theorem fa_d {L : Nat → Int32} {n m i : Nat} (h : 0 < m) (c : ¬ db_ (la_ L n i) = 0) (hd : dg_ L n (db_ (la_ L n i)) (i + 1) = none) (h59 : la_ L n (i + (db_ (la_ L n i) + 1)) = 59) (hn : i + (db_ (la_ L n i) + 1) + 1 < n) : fa_ L n m i = fa_ L n (m - 1) (i + (db_ (la_ L n i) + 1) + 1) := by
  obtain ⟨m, rfl⟩ : ∃ k, m = k + 1 := ⟨m - 1, by omega⟩
  rw [fa_, if_neg c]; simp only [hd]; rw [if_pos h59, if_pos hn]; rfl
theorem fa_e {L : Nat → Int32} {n m i : Nat} (h : 0 < m) (c : ¬ db_ (la_ L n i) = 0) (hd : dg_ L n (db_ (la_ L n i)) (i + 1) = none) (h59 : la_ L n (i + (db_ (la_ L n i) + 1)) = 59) (hn : ¬ i + (db_ (la_ L n i) + 1) + 1 < n) : fa_ L n m i = none := by
  obtain ⟨m, rfl⟩ : ∃ k, m = k + 1 := ⟨m - 1, by omega⟩
  rw [fa_, if_neg c]; simp only [hd]; rw [if_pos h59, if_neg hn]
def fv_ : Option Nat → Int32
  | none => 0
  | some q => -1000 - nI q
def dt_ (L : Nat → Int32) (n i : Nat) : Int32 := la_ L n i - 48
def nm_ (L : Nat → Int32) (n i : Nat) : Int32 := 10 * dt_ L n i + dt_ L n (i + 1)
/-- why a STATEMENT is not as it must be -/
def rst_ (L : Nat → Int32) (n i : Nat) (T : BayT) : Int32 := if la_ L n i = 115 then rs_ T (dt_ L n (i + 1)) (dt_ L n (i + 2)) (nm_ L n (i + 3)) else if la_ L n i = 112 then f2_ (nb_ (dt_ L n (i + 1)) (nI (sn_ T))) (ob_ (nm_ L n (i + 2)) 0 99) else if la_ L n i = 113 then nb_ (dt_ L n (i + 1)) (nI (sn_ T)) else if la_ L n i = 105 then f2_ (uk_ 0 1) (if (0 : Int32) = 0 then ob_ (nm_ L n (i + 1)) 0 30 else ob_ (nm_ L n (i + 1)) 1 5) else if la_ L n i = 118 then f2_ (uk_ 1 1) (if (1 : Int32) = 0 then ob_ (dt_ L n (i + 1)) 0 30 else ob_ (dt_ L n (i + 1)) 1 5) else rh_ T (nm_ L n (i + 1))
theorem rst_s {L : Nat → Int32} {n i : Nat} {T : BayT} (h : la_ L n i = 115) : rst_ L n i T = rs_ T (dt_ L n (i + 1)) (dt_ L n (i + 2)) (nm_ L n (i + 3)) := by unfold rst_; rw [if_pos h]
theorem rst_p {L : Nat → Int32} {n i : Nat} {T : BayT} (h : la_ L n i = 112) : rst_ L n i T = f2_ (nb_ (dt_ L n (i + 1)) (nI (sn_ T))) (ob_ (nm_ L n (i + 2)) 0 99) := by unfold rst_; rw [if_neg (by rw [h]; decide), if_pos h]
theorem rst_q {L : Nat → Int32} {n i : Nat} {T : BayT} (h : la_ L n i = 113) : rst_ L n i T = nb_ (dt_ L n (i + 1)) (nI (sn_ T)) := by unfold rst_; rw [if_neg (by rw [h]; decide), if_neg (by rw [h]; decide), if_pos h]
theorem rst_i {L : Nat → Int32} {n i : Nat} {T : BayT} (h : la_ L n i = 105) : rst_ L n i T = f2_ (uk_ 0 1) (if (0 : Int32) = 0 then ob_ (nm_ L n (i + 1)) 0 30 else ob_ (nm_ L n (i + 1)) 1 5) := by unfold rst_; rw [if_neg (by rw [h]; decide), if_neg (by rw [h]; decide), if_neg (by rw [h]; decide), if_pos h]
theorem rst_v {L : Nat → Int32} {n i : Nat} {T : BayT} (h : la_ L n i = 118) : rst_ L n i T = f2_ (uk_ 1 1) (if (1 : Int32) = 0 then ob_ (dt_ L n (i + 1)) 0 30 else ob_ (dt_ L n (i + 1)) 1 5) := by unfold rst_; rw [if_neg (by rw [h]; decide), if_neg (by rw [h]; decide), if_neg (by rw [h]; decide), if_neg (by rw [h]; decide), if_pos h]
theorem rst_h {L : Nat → Int32} {n i : Nat} {T : BayT} (h1 : ¬ la_ L n i = 115) (h2 : ¬ la_ L n i = 112) (h3 : ¬ la_ L n i = 113) (h4 : ¬ la_ L n i = 105) (h5 : ¬ la_ L n i = 118) : rst_ L n i T = rh_ T (nm_ L n (i + 1)) := by unfold rst_; rw [if_neg h1, if_neg h2, if_neg h3, if_neg h4, if_neg h5]
/-- a STATEMENT comes -/
def cst_ (L : Nat → Int32) (n i : Nat) (T : BayT) : BayT := if la_ L n i = 115 then ad_ T (dt_ L n (i + 1)) (dt_ L n (i + 2)) (nm_ L n (i + 3)) else if la_ L n i = 112 then uw_ T (tn_ (dt_ L n (i + 1))) (nm_ L n (i + 2)) else if la_ L n i = 113 then uq_ T (qt_ T ^^^ ((1 : Int32) <<< (nI (tn_ (dt_ L n (i + 1))) &&& 31))) else if la_ L n i = 105 then uv_ T 0 (nm_ L n (i + 1)) else if la_ L n i = 118 then uv_ T 1 (dt_ L n (i + 1)) else hs_ (tn_ (nm_ L n (i + 1))) T
theorem cst_s {L : Nat → Int32} {n i : Nat} {T : BayT} (h : la_ L n i = 115) : cst_ L n i T = ad_ T (dt_ L n (i + 1)) (dt_ L n (i + 2)) (nm_ L n (i + 3)) := by unfold cst_; rw [if_pos h]
theorem cst_p {L : Nat → Int32} {n i k : Nat} {T : BayT} (h : la_ L n i = 112) (hd : dt_ L n (i + 1) = nI k) (hk : k < 2147483648) : cst_ L n i T = uw_ T k (nm_ L n (i + 2)) := by unfold cst_; rw [if_neg (by rw [h]; decide), if_pos h, hd, tn_n hk]
theorem cst_q {L : Nat → Int32} {n i k : Nat} {T : BayT} (h : la_ L n i = 113) (hd : dt_ L n (i + 1) = nI k) (hk : k < 2147483648) : cst_ L n i T = uq_ T (qt_ T ^^^ ((1 : Int32) <<< (nI k &&& 31))) := by unfold cst_; rw [if_neg (by rw [h]; decide), if_neg (by rw [h]; decide), if_pos h, hd, tn_n hk]
theorem cst_i {L : Nat → Int32} {n i : Nat} {T : BayT} (h : la_ L n i = 105) : cst_ L n i T = uv_ T 0 (nm_ L n (i + 1)) := by unfold cst_; rw [if_neg (by rw [h]; decide), if_neg (by rw [h]; decide), if_neg (by rw [h]; decide), if_pos h]
theorem cst_v {L : Nat → Int32} {n i : Nat} {T : BayT} (h : la_ L n i = 118) : cst_ L n i T = uv_ T 1 (dt_ L n (i + 1)) := by unfold cst_; rw [if_neg (by rw [h]; decide), if_neg (by rw [h]; decide), if_neg (by rw [h]; decide), if_neg (by rw [h]; decide), if_pos h]
theorem cst_h {L : Nat → Int32} {n i k : Nat} {T : BayT} (h1 : ¬ la_ L n i = 115) (h2 : ¬ la_ L n i = 112) (h3 : ¬ la_ L n i = 113) (h4 : ¬ la_ L n i = 105) (h5 : ¬ la_ L n i = 118) (hd : nm_ L n (i + 1) = nI k) (hk : k < 2147483648) : cst_ L n i T = hs_ k T := by unfold cst_; rw [if_neg h1, if_neg h2, if_neg h3, if_neg h4, if_neg h5, hd, tn_n hk]
theorem nb_k {v : Int32} {n : Nat} (hn : n < 2147483648) (h : nb_ v (nI n) = 0) : ∃ k, k < n ∧ v = nI k := pl_lt hn (nb_0.mp h)
theorem rh_k {T : BayT} {v : Int32} (h : rh_ T v = 0) : ∃ k, k ≤ 99 ∧ v = nI k := by
  unfold rh_ at h
  by_cases c : v < 1
  · rw [if_pos c] at h; exact absurd h (by decide)
  · rw [if_neg c] at h
    by_cases c2 : 99 < v
    · rw [if_pos c2] at h; exact absurd h (by decide)
    · exact pl_le (n := 99) (by decide) ⟨Int32.le_trans (by decide) (Int32.not_lt.mp c), Int32.not_lt.mp c2⟩
theorem rs_k {B : BayT} {w f v : Int32} (h : rs_ B w f v = 0) : (0 ≤ w ∧ w ≤ 5) ∧ (0 ≤ f ∧ f ≤ 9) ∧ sn_ B < 7 ∧ (0 ≤ v ∧ v ≤ 30) ∧ sa_ B v = none := by
  unfold rs_ at h
  by_cases c1 : w < 0 ∨ 5 < w
  · rw [if_pos c1] at h; exact absurd h (by decide)
  · rw [if_neg c1] at h
    by_cases c2 : f < 0
    · rw [if_pos c2] at h; exact absurd h (by decide)
    · rw [if_neg c2] at h
      by_cases c3 : 9 < f ∨ 7 ≤ sn_ B
      · rw [if_pos c3] at h; exact absurd h (by decide)
      · rw [if_neg c3] at h
        by_cases c4 : v < 0 ∨ 30 < v
        · rw [if_pos c4] at h; exact absurd h (by decide)
        · rw [if_neg c4] at h
          by_cases c5 : sa_ B v = none
          · exact ⟨⟨Int32.not_lt.mp fun q => c1 (Or.inl q), Int32.not_lt.mp fun q => c1 (Or.inr q)⟩, ⟨Int32.not_lt.mp c2, Int32.not_lt.mp fun q => c3 (Or.inl q)⟩, Nat.not_le.mp fun q => c3 (Or.inr q), ⟨Int32.not_lt.mp fun q => c4 (Or.inl q), Int32.not_lt.mp fun q => c4 (Or.inr q)⟩, c5⟩
          · rw [if_neg c5] at h; exact absurd h (by decide)
theorem sn_ad {B : BayT} {w f v : Int32} (h : sn_ B < 7) : sn_ (ad_ B w f v) = sn_ B + 1 := by unfold ad_; rw [if_pos h]; rfl
theorem sn_ad7 {B : BayT} (w f v : Int32) (h : sn_ B ≤ 7) : sn_ (ad_ B w f v) ≤ 7 := by
  unfold ad_
  split
  · rename_i c; show sn_ B + 1 ≤ 7; omega
  · exact h
theorem sn_cst {L : Nat → Int32} {n i : Nat} {T : BayT} (h : sn_ T ≤ 7) : sn_ (cst_ L n i T) ≤ 7 := by
  unfold cst_
  split
  · exact sn_ad7 _ _ _ h
  · split
    · exact h
    · split
      · exact h
      · split
        · exact h
        · split
          · exact h
          · rw [sn_hs]; exact h
/-- the letters are gone through: refused at a place, or so many STATEMENTS and the bay behind them -/
def tl_ (L : Nat → Int32) (n : Nat) : Nat → Nat → Nat → BayT → Nat ⊕ (Nat × BayT)
  | 0, k, _, T => .inr (k, T)
  | m + 1, k, i, T => if i < n ∧ k < n then (if rst_ L n i T = 0 then tl_ L n m (k + 1) (i + (db_ (la_ L n i) + 2)) (cst_ L n i T) else .inl i) else .inr (k, T)
theorem tl_a {L : Nat → Int32} {n m k i : Nat} {T : BayT} (h : 0 < m) (h1 : i < n) (h2 : k < n) (c : rst_ L n i T = 0) : tl_ L n m k i T = tl_ L n (m - 1) (k + 1) (i + (db_ (la_ L n i) + 2)) (cst_ L n i T) := by
  obtain ⟨m, rfl⟩ : ∃ k, m = k + 1 := ⟨m - 1, by omega⟩
  rw [tl_, if_pos ⟨h1, h2⟩, if_pos c]; rfl
theorem tl_b {L : Nat → Int32} {n m k i : Nat} {T : BayT} (h : 0 < m) (h1 : i < n) (h2 : k < n) (c : ¬ rst_ L n i T = 0) : tl_ L n m k i T = .inl i := by
  obtain ⟨m, rfl⟩ : ∃ k, m = k + 1 := ⟨m - 1, by omega⟩
  rw [tl_, if_pos ⟨h1, h2⟩, if_neg c]
theorem tl_c {L : Nat → Int32} {n m k i : Nat} {T : BayT} (h1 : ¬ (i < n ∧ k < n)) : tl_ L n m k i T = .inr (k, T) := by
  cases m with
  | zero => rfl
  | succ m => rw [tl_, if_neg h1]
def tv_ : Nat ⊕ (Nat × BayT) → Int32
  | .inl i => -2000 - nI i
  | .inr q => nI q.1
def tb_ (B : BayT) : Nat ⊕ (Nat × BayT) → BayT
  | .inl _ => B
  | .inr q => q.2
def tc8_ (ct : Nat) : Nat ⊕ (Nat × BayT) → Nat
  | .inl _ => ct
  | .inr _ => 0
theorem and1_01 (x : Int32) : x &&& 1 = 0 ∨ x &&& 1 = 1 := by
  have h : (x &&& 1).toBitVec.toNat = x.toBitVec.toNat % 2 := by
    show (x.toBitVec &&& (1 : Int32).toBitVec).toNat = _
    rw [BitVec.toNat_and]
    exact Nat.and_one_is_mod _
  rcases Nat.mod_two_eq_zero_or_one x.toBitVec.toNat with e | e
  · exact Or.inl (Int32.toBitVec_inj.mp (BitVec.eq_of_toNat_eq (by rw [h, e]; rfl)))
  · exact Or.inr (Int32.toBitVec_inj.mp (BitVec.eq_of_toNat_eq (by rw [h, e]; rfl)))
theorem qb_01 {q : Int32} {k : Nat} (h : ¬ qb_ q k = 1) : qb_ q k = 0 := (and1_01 _).elim id (fun e => absurd e h)
def gbX_ (B : BayT) (k : Nat) (q : Int32) (f : Nat → Int32) (n : Nat) : Int32 := if q = 0 then gb_ B k 0 f n (g0_ 0) (5 + 1 - g0_ 0) else if q = 1 then gb_ B k 1 f n (g0_ 1) (9 + 1 - g0_ 1) else gb_ B k q f n (g0_ q) (5 + 1 - g0_ q)
def cnX_ (B : BayT) (ln tc ct : Nat) (rf : Nat → Int32) (q : Int32) : Int32 := if q = 0 then nI (sn_ B) else if q = 1 then ho_ B else if q = 2 then dy_ B else if q = 3 then qt_ B else if q = 4 then su_ (jy_ B) (sn_ B) else if q = 5 then su_ (pw_ B) (sn_ B) else if q = 6 then nI ln else if q = 7 then nI tc else if q = 8 then nI ct else if 11 ≤ q ∧ q ≤ 16 then rf (tn_ q - 10) else -9
theorem cn_i {q : Int32} (h1 : 11 ≤ q) (h2 : q ≤ 16) : q - 10 = nI (tn_ q - 10) ∧ tn_ q - 10 < 7 := by
  obtain ⟨k, hk, rfl⟩ := pl_le (v := q) (n := 16) (by decide) ⟨Int32.le_trans (by decide) h1, h2⟩
  have h3 : 11 ≤ k := (jle (a := 11) (by decide) (by omega)).mp h1
  rw [tn_n (by omega)]
  have : k = 11 ∨ k = 12 ∨ k = 13 ∨ k = 14 ∨ k = 15 ∨ k = 16 := by omega
  rcases this with e | e | e | e | e | e <;> subst e <;> decide
def bv_ (o : Option Nat) (t : Nat ⊕ (Nat × BayT)) : Int32 := match o with
  | some q => -1000 - nI q
  | none => tv_ t
def bB_ (o : Option Nat) (B : BayT) (t : Nat ⊕ (Nat × BayT)) : BayT := match o with
  | some _ => B
  | none => tb_ B t
def bC_ (o : Option Nat) (ct : Nat) (t : Nat ⊕ (Nat × BayT)) : Nat := match o with
  | some _ => ct
  | none => tc8_ ct t
theorem dg_le {L : Nat → Int32} {n : Nat} : ∀ m i q, dg_ L n m i = some q → q < i + m
  | 0, i, q, h => by cases h
  | m + 1, i, q, h => by
    unfold dg_ at h
    by_cases c : 48 ≤ la_ L n i ∧ la_ L n i ≤ 57
    · rw [if_pos c] at h; have := dg_le m (i + 1) q h; omega
    · rw [if_neg c] at h; cases h; omega
theorem fa_le {L : Nat → Int32} {n : Nat} : ∀ m i q, (i = 0 ∨ i < n) → fa_ L n m i = some q → q ≤ n + 5
  | 0, i, q, _, h => by cases h
  | m + 1, i, q, hi, h => by
    have h4 := db_4 (la_ L n i)
    unfold fa_ at h
    by_cases c : db_ (la_ L n i) = 0
    · rw [if_pos c] at h; cases h; omega
    · rw [if_neg c] at h
      cases hd : dg_ L n (db_ (la_ L n i)) (i + 1) with
      | some t =>
        rw [hd] at h
        have := dg_le _ _ _ hd
        cases h; omega
      | none =>
        rw [hd] at h
        by_cases c2 : la_ L n (i + (db_ (la_ L n i) + 1)) = 59
        · simp only [if_pos c2] at h
          by_cases c3 : i + (db_ (la_ L n i) + 1) + 1 < n
          · rw [if_pos c3] at h; exact fa_le m _ q (Or.inr c3) h
          · rw [if_neg c3] at h; cases h
        · simp only [if_neg c2] at h; cases h; omega
theorem fv_z {L : Nat → Int32} {n : Nat} (hn : n ≤ 96) : fv_ (fa_ L n 97 0) = 0 ↔ fa_ L n 97 0 = none := by
  cases h : fa_ L n 97 0 with
  | none => exact ⟨fun _ => rfl, fun _ => rfl⟩
  | some q =>
    have h1 := fa_le 97 0 q (Or.inl rfl) h
    refine ⟨fun e => ?_, fun e => by cases e⟩
    have key : ∀ j : Fin 102, ¬ (-1000 : Int32) - nI j.val = 0 := by decide +kernel
    exact absurd e (key ⟨q, by omega⟩)
