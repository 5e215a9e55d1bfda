set_option maxHeartbeats 4000000 in
set_option maxRecDepth 100000 in
/-- what the tables say of the classes -/
theorem law_K {s : State} {b : Nat} (hts : ∀ w ∈ lw_tbl, w.before #[Value.ref b] s = true) : ∃ (D : va_G) (cI cB : ClassId), jK D cI cB s ∧ va_AO RX0 s := by
  obtain ⟨c0, iS0, hKn0⟩ := u_known (C := RX0) (T := TX0) (N := 11) (n := 11) hts inX0 (hts _ (ir_1 _ (List.mem_of_getElem? (i := 18) rfl)))
  obtain ⟨c1, iS1, hKn1⟩ := u_known (C := RX1) (T := TX1) (N := 2) (n := 2) hts inX1 (hts _ (ir_2 _ (List.mem_of_getElem? (i := 2) rfl)))
  obtain ⟨c2, iS2, hKn2⟩ := u_known (C := RX2) (T := TX2) (N := 4) (n := 4) hts inX2 (hts _ (ir_1 _ (List.mem_of_getElem? (i := 13) rfl)))
  obtain ⟨c3, iS3, hKn3⟩ := u_known (C := RX3) (T := TX3) (N := 3) (n := 3) hts inX3 (hts _ (ir_1 _ (List.mem_of_getElem? (i := 22) rfl)))
  obtain ⟨c4, iS4, hKn4⟩ := u_known (C := RX4) (T := TX4) (N := 9) (n := 9) hts inX4 (hts _ (ir_1 _ (List.mem_of_getElem? (i := 1) rfl)))
  obtain ⟨c5, iS5, hKn5⟩ := u_known (C := RX5) (T := TX5) (N := 33) (n := 33) hts inX5 (hts _ (ir_1 _ (List.mem_of_getElem? (i := 4) rfl)))
  obtain ⟨D, hKc⟩ : ∃ D : va_G, ∀ (k : Nat) (q : vw_C), vwCl[k]? = some q → u_Kn s q.1 q.2.1 q.2.2 (D.1 k) (D.2 k) := by
    refine ⟨(fun k => if k = 0 then c0 else if k = 1 then c1 else if k = 2 then c2 else if k = 3 then c3 else if k = 4 then c4 else c5, fun k => if k = 0 then iS0 else if k = 1 then iS1 else if k = 2 then iS2 else if k = 3 then iS3 else if k = 4 then iS4 else iS5), ?_⟩
    intro k q hq
    match k, hq with
    | 0, hq => cases hq; exact hKn0
    | 1, hq => cases hq; exact hKn1
    | 2, hq => cases hq; exact hKn2
    | 3, hq => cases hq; exact hKn3
    | 4, hq => cases hq; exact hKn4
    | 5, hq => cases hq; exact hKn5
    | k + 6, hq => rw [List.getElem?_eq_none (show vwCl.length ≤ k + 6 from Nat.le_add_left 6 k)] at hq; cases hq
  obtain ⟨cI, kI, compI, f1, f2, f3⟩ := Cond.arrayClass_spec ((hts _ (ir_2 _ (List.mem_of_getElem? (i := 5) rfl))) : (Cond.arrayClass .int).before #[Value.ref b] s = true)
  have hAO : va_AO RX0 s := va_AO.of (hts (.arrayOver (.object RX0)) (mem_n [.arrayOver (.object RX0)] (by decide +kernel) _ List.mem_cons_self))
  obtain ⟨compB, cB, kB, g1, g2, g3, g4, g5⟩ := Cond.arrayOver_spec hAO
  have hK : jK D cI cB s := by
    refine ⟨⟨hKc, fun k q h => ?_⟩, fun w hw => va_Nw.of (nestL_tab w hw) (hts w (nestL_in w hw))⟩
    match k, h with
    | 0, h => cases h; exact ⟨fun n z => ⟨fun k h => (by cases h), kI, f2, compI, f3⟩, f1⟩
    | 1, h => cases h; exact ⟨fun n z => ⟨fun k h => (by cases h), kB, g3, compB, g4⟩, kB, compB, g3, g4, g1, g5⟩
    | k + 2, h => rw [List.getElem?_eq_none (Nat.le_add_left 2 k)] at h; cases h
  exact ⟨D, cI, cB, hK, hAO⟩
set_option maxHeartbeats 4000000 in
set_option maxRecDepth 100000 in
/-- the law's two objects are made -/
theorem law_open {p : Program} {e : Env} {s : State} {m : MethodId} {below : List Frame} {meth : Method} {c : Code} {l : Launch} {b L : Nat} {xs : Nat → Int32} {D : va_G} {cI cB : ClassId} (C0 : lw_At p s m meth c b L xs) (hK : jK D cI cB s) (hAO : va_AO RX0 s)
    (kk : ∀ (g r : Nat → Nat) (H : Heap) (locs : List Loc) (ls : Array Slot), va_P D vwCl (lV_ cI cB g r B0_ B0_ B0_ B0_ (fun _ => B0_) 0 0 z0_ z0_ z0_ 0 0 0 z0_ z0_ M0_) H → va_D (lwA s) (lV_ cI cB g r B0_ B0_ B0_ B0_ (fun _ => B0_) 0 0 z0_ z0_ z0_ 0 0 0 z0_ z0_ M0_) → va_S (lwA s) s.heap H locs → lv_has ls 4 [(3, .int (nI 0)), (2, .ref (r 0)), (1, .ref (g 0)), (0, .ref b)] → W p l e room_1 s m #[Value.ref b] below meth c H locs 92 1551 (lw_Z below #[Value.ref b] s) (F0 m 18 ls [])) : W p l e room_1 s m #[Value.ref b] below meth c s.heap [] 0 0 (lw_Z below #[Value.ref b] s) (entryFrame m ([Value.ref b] : List Value).toArray 4) := by
  obtain ⟨hx, hb, hr, hml, hown, hts, hX, hbl, hlocks, hgv⟩ := id C0
  replace hb : c.code = cL_law := hb
  replace hown : s.vm.findClass RL = some m.cls := hown
  have hA : ∀ q : Nat, s.heap.size ≤ q → lwA s q := fun _ h => h
  have htl : ∀ w ∈ wsL_law, w.before #[Value.ref b] s = true := fun w h => hts w (wsL_law_in w h)
  have hS : va_S (lwA s) s.heap s.heap [] := va_S.rf
  have hP : va_P D vwCl ([] : va_W) s.heap := fun k q h => by simp at h
  have hD : va_D (lwA s) ([] : va_W) := ⟨fun i j p q h => by simp at h, fun k q h => by simp at h⟩
  have hl := lv_entry ([.ref b]) (n := 4) (Nat.le_of_ble_eq_true rfl)
  rw [lg_entry_eq]
  generalize (lg_sl ([.ref b]) ++ List.replicate (4 - (lg_sl ([.ref b])).length) Slot.unset).toArray = ls at hl ⊢
  replace hl : lv_has ls 4 [(0, .ref b)] := hl
  refine va_new (ci := 4) (fs := [.null, .null, .null, .int 0, .null, .null, .null, .int 0, .null]) (C := RX4) (T := TX4) (N := 9) hx hb hts inX4 tyX4 tyX4_ok hown (hts _ (ir_1 _ (List.mem_of_getElem? (i := 0) rfl))) (hts _ (ir_1 _ (List.mem_of_getElem? (i := 1) rfl))) (hts _ (ir_1 _ (List.mem_of_getElem? (i := 2) rfl))) hK.1 hP hD hS hA rfl (fun j hj => by rcases (show j = 0 ∨ j = 1 ∨ j = 2 ∨ j = 3 ∨ j = 4 ∨ j = 5 ∨ j = 6 ∨ j = 7 ∨ j = 8 by omega) with rfl | rfl | rfl | rfl | rfl | rfl | rfl | rfl | rfl <;> rfl) (Nat.le_of_ble_eq_true rfl) (Nat.le_of_ble_eq_true rfl) dL_law_0 (fun q1 H hP hD hS => ?_)
  refine lv_dup hx hb dL_law_3 rfl ?_
  refine kIP (wr := []) hx hb hml hown htl hK hAO hP hD hA hS gL_law_X4_init (hts _ (ir_1 _ (List.mem_of_getElem? (i := 6) rfl))) (hts _ (ir_1 _ (List.mem_of_getElem? (i := 2) rfl))) (hts _ (ir_1 _ (List.mem_of_getElem? (i := 7) rfl))) okX4_init rfl (qX4_init l D cI cB q1) ⟨Nat.le_of_ble_eq_true rfl, Nat.le_of_ble_eq_true rfl⟩ ⟨Nat.le_of_ble_eq_true rfl, Nat.le_of_ble_eq_true rfl⟩ hl.1 (Nat.le_of_ble_eq_true rfl) dL_law_4 (fun g H locs hg hP9 hD9 hS => ?_)
  clear hP hD
  subst hg
  have hP : va_P D vwCl (xO g 0 0 ++ miO g ++ bW cI g 4 B0_ ++ bW cI g 10 B0_ ++ rW cI g z0_ ++ [(g 2, .inl (cI, 4, .inl z0_)), (g 3, .inl (cI, 4, .inl z0_))] ++ [(g 16, .inl (cI, 12, .inl z0_))] ++ lW cI g z0_ 0 ++ pW cB g 0 0 ++ bW cI g 20 B0_ ++ rgW cI g (fun _ => B0_)) H := hP9
  have hD : va_D (lwA s) (xO g 0 0 ++ miO g ++ bW cI g 4 B0_ ++ bW cI g 10 B0_ ++ rW cI g z0_ ++ [(g 2, .inl (cI, 4, .inl z0_)), (g 3, .inl (cI, 4, .inl z0_))] ++ [(g 16, .inl (cI, 12, .inl z0_))] ++ lW cI g z0_ 0 ++ pW cB g 0 0 ++ bW cI g 20 B0_ ++ rgW cI g (fun _ => B0_)) := hD9
  clear hP9 hD9
  refine lv_astore_n (lv' := [(1, .ref (g 0)), (0, .ref b)]) hx hb dL_law_7 rfl hl (by decide) rfl (fun ls hl => ?_)
  refine va_new (ci := 5) (fs := [.null, .null, .null, .null, .null, .null, .int 0, .int 0, .int 0, .int 0, .int 0, .int 0, .null, .null, .null, .null, .int 0, .int 0, .int 0, .null, .int 0, .int 0, .int 0, .int 0, .null, .null, .int 0, .int 0, .int 0, .null, .int 0, .null, .int 0]) (C := RX5) (T := TX5) (N := 33) hx hb hts inX5 tyX5 tyX5_ok hown (hts _ (ir_1 _ (List.mem_of_getElem? (i := 3) rfl))) (hts _ (ir_1 _ (List.mem_of_getElem? (i := 4) rfl))) (hts _ (ir_1 _ (List.mem_of_getElem? (i := 5) rfl))) hK.1 hP hD hS hA rfl (fun j hj => by rcases (show j = 0 ∨ j = 1 ∨ j = 2 ∨ j = 3 ∨ j = 4 ∨ j = 5 ∨ j = 6 ∨ j = 7 ∨ j = 8 ∨ j = 9 ∨ j = 10 ∨ j = 11 ∨ j = 12 ∨ j = 13 ∨ j = 14 ∨ j = 15 ∨ j = 16 ∨ j = 17 ∨ j = 18 ∨ j = 19 ∨ j = 20 ∨ j = 21 ∨ j = 22 ∨ j = 23 ∨ j = 24 ∨ j = 25 ∨ j = 26 ∨ j = 27 ∨ j = 28 ∨ j = 29 ∨ j = 30 ∨ j = 31 ∨ j = 32 by omega) with rfl | rfl | rfl | rfl | rfl | rfl | rfl | rfl | rfl | rfl | rfl | rfl | rfl | rfl | rfl | rfl | rfl | rfl | rfl | rfl | rfl | rfl | rfl | rfl | rfl | rfl | rfl | rfl | rfl | rfl | rfl | rfl | rfl <;> rfl) (Nat.le_of_ble_eq_true rfl) (Nat.le_of_ble_eq_true rfl) dL_law_8 (fun q2 H hP hD hS => ?_)
  refine lv_dup hx hb dL_law_11 rfl ?_
  refine kIP (wr := xO g 0 0 ++ miO g ++ bW cI g 4 B0_ ++ bW cI g 10 B0_ ++ rW cI g z0_ ++ [(g 2, .inl (cI, 4, .inl z0_)), (g 3, .inl (cI, 4, .inl z0_))] ++ [(g 16, .inl (cI, 12, .inl z0_))] ++ lW cI g z0_ 0 ++ pW cB g 0 0 ++ bW cI g 20 B0_ ++ rgW cI g (fun _ => B0_)) hx hb hml hown htl hK hAO hP hD hA hS gL_law_X5_init (hts _ (ir_3 _ (List.mem_of_getElem? (i := 12) rfl))) (hts _ (ir_1 _ (List.mem_of_getElem? (i := 5) rfl))) (hts _ (ir_3 _ (List.mem_of_getElem? (i := 13) rfl))) okX5_init rfl (qX5_init l D cI cB q2) ⟨Nat.le_of_ble_eq_true rfl, Nat.le_of_ble_eq_true rfl⟩ ⟨Nat.le_of_ble_eq_true rfl, Nat.le_of_ble_eq_true rfl⟩ hl.1 (Nat.le_of_ble_eq_true rfl) dL_law_12 (fun r H locs hr0 hP9 hD9 hS => ?_)
  clear hP hD
  subst hr0
  have hP := hP9
  have hD := hD9
  clear hP9 hD9
  refine lv_astore_n (lv' := [(2, .ref (r 0)), (1, .ref (g 0)), (0, .ref b)]) hx hb dL_law_15 rfl hl (by decide) rfl (fun ls hl => ?_)
  refine lv_iconst (v := nI 0) hx hb dL_law_16 rfl ?_
  refine lv_istore_n (lv' := [(3, .int (nI 0)), (2, .ref (r 0)), (1, .ref (g 0)), (0, .ref b)]) hx hb dL_law_17 rfl hl (by decide) rfl (fun ls hl => ?_)
  refine W.widen (k := 92) (n := 1551) (Nat.le_of_ble_eq_true rfl) (Nat.le_of_ble_eq_true rfl) ?_
  replace hP : va_P D vwCl (lV_ cI cB g r B0_ B0_ B0_ B0_ (fun _ => B0_) 0 0 z0_ z0_ z0_ 0 0 0 z0_ z0_ M0_) H := hP.sub [0, 1, 2, 3, 4, 5, 6, 7, 8, 9, 10, 11, 12, 13, 14, 76, 77, 78, 79, 80, 81, 82, 83, 84, 85, 86, 87, 88, 89, 90, 91, 15, 16, 17, 18, 19, 20, 21, 22, 23, 24, 25, 26, 27, 28, 29, 30, 31, 32, 33, 34, 35, 36, 37, 38, 39, 40, 41, 42, 43, 44, 45, 46, 47, 48, 49, 50, 51, 52, 53, 54, 55, 56, 57, 58, 59, 60, 61, 62, 63, 64, 65, 66, 67, 68, 69, 70, 71, 72, 73, 74, 75] rfl
  replace hD : va_D (lwA s) (lV_ cI cB g r B0_ B0_ B0_ B0_ (fun _ => B0_) 0 0 z0_ z0_ z0_ 0 0 0 z0_ z0_ M0_) := hD.sub [0, 1, 2, 3, 4, 5, 6, 7, 8, 9, 10, 11, 12, 13, 14, 76, 77, 78, 79, 80, 81, 82, 83, 84, 85, 86, 87, 88, 89, 90, 91, 15, 16, 17, 18, 19, 20, 21, 22, 23, 24, 25, 26, 27, 28, 29, 30, 31, 32, 33, 34, 35, 36, 37, 38, 39, 40, 41, 42, 43, 44, 45, 46, 47, 48, 49, 50, 51, 52, 53, 54, 55, 56, 57, 58, 59, 60, 61, 62, 63, 64, 65, 66, 67, 68, 69, 70, 71, 72, 73, 74, 75] (by decide +kernel) rfl
  exact kk g r H locs ls hP hD hS hl
