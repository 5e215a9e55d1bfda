theorem okX4_shore : jok yX4_shore wsX4_shore cX4_shore 5 (some .int) 3 := ⟨⟨_, rfl⟩, by decide +kernel, by decide +kernel⟩
set_option maxHeartbeats 1000000 in
set_option maxRecDepth 100000 in
theorem qX4_shore (l : Launch) (D : va_G) (cI cB : ClassId) (g : Nat → Nat) (hi : Int32) (tc : Nat) (B : BayT) (la : Nat) (ct : Nat) (rf : Nat → Int32) (w : Int32) (f : Int32) (v : Int32) (hn7 : sn_ B ≤ 7) : jMi D cI cB l yX4_shore wsX4_shore 2 [.ref (g 0), .int w, .int f, .int v] (xO g hi tc ++ bW cI g 4 B ++ pW cB g la ct ++ rW cI g rf) (S := BayT × (Nat → Int32) × Nat) (fun r u => (rs_ B w f v = 0 ∧ r = nI (sn_ B) ∧ u = (ad_ B w f v, rf, 0)) ∨ (¬ rs_ B w f v = 0 ∧ r = rs_ B w f v ∧ u = (B, rfx_ rf (rs_ B w f v), ct))) (fun u => xO g hi tc ++ bW cI g 4 u.1 ++ pW cB g la u.2.2 ++ rW cI g u.2.1) := by
  refine jMi.of (cc := cX4_shore) (maxL := 5) (ret := (some .int)) okX4_shore (Nat.le_of_ble_eq_true rfl) ?_
  intro p e s m below meth c ls A hx hb hr hts hown hlk hml hP hK hD hA hS hl
  replace hown : s.vm.findClass RX4 = some m.cls := hown
  replace hl : lv_has ls 5 [(0, .ref (g 0)), (1, .int w), (2, .int f), (3, .int v)] := hl
  have hinX0 : ∀ w ∈ wsX00, w ∈ wsX4_shore := by decide +kernel
  have hinX3 : ∀ w ∈ wsX30, w ∈ wsX4_shore := by decide +kernel
  have hinX4 : ∀ w ∈ wsX40, w ∈ wsX4_shore := by decide +kernel
  refine lv_aload_n hx hb dX4_shore_0 rfl (lv_at hl 0 rfl) ?_
  refine va_get (ci := 4) (C := RX4) (T := TX4) (N := 9) hx hb hts hinX4 hown hK.1 hP 0 rfl rfl 1 (by decide) (hts _ (List.mem_of_getElem? (i := 1) rfl)) (fun _ h9 => h9) rfl dX4_shore_1 ?_
  refine lv_iload_n hx hb dX4_shore_4 rfl (lv_at hl 1 rfl) ?_
  refine lv_iload_n hx hb dX4_shore_5 rfl (lv_at hl 2 rfl) ?_
  refine lv_iload_n hx hb dX4_shore_6 rfl (lv_at hl 3 rfl) ?_
  refine kSiN hx hb hml hown hts hK hP gX4_shore_X0_refusalOfShore_n167 (hK.2 _ (List.mem_of_getElem? (i := 58) rfl)) (hts _ (List.mem_of_getElem? (i := 4) rfl)) (hts _ (List.mem_of_getElem? (i := 3) rfl)) (hts _ (List.mem_of_getElem? (i := 5) rfl)) okX0_refusalOfShore (qX0_refusalOfShore l D cI cB g 4 B w f v (by show sn_ B ≤ 7; omega)) [1, 2, 3, 4, 5, 6] rfl rfl rfl rfl (by decide) hl.1 rfl rfl (Nat.le_of_ble_eq_true rfl) dX4_shore_7 (by decide) (fun r_1 hr_2 => ?_)
  replace hr_2 : r_1 = rs_ B w f v := hr_2
  subst r_1
  refine lv_istore (lv' := [(4, .int (rs_ B w f v)), (0, .ref (g 0)), (1, .int w), (2, .int f), (3, .int v)]) hx hb dX4_shore_10 hl (by decide) rfl (fun ls hl => ?_)
  refine lv_iload hx hb dX4_shore_12 (lv_at hl 0 rfl) ?_
  refine lv_if_eq (tgt := 24) hx hb dX4_shore_14 (by decide) (fun c_14 => ?_) (fun c_14 => ?_)
  · skip
    refine lv_aload_n hx hb dX4_shore_24 rfl (lv_at hl 1 rfl) ?_
    refine va_get (ci := 4) (C := RX4) (T := TX4) (N := 9) hx hb hts hinX4 hown hK.1 hP 0 rfl rfl 1 (by decide) (hts _ (List.mem_of_getElem? (i := 1) rfl)) (fun _ h9 => h9) rfl dX4_shore_25 ?_
    refine lv_iload_n hx hb dX4_shore_28 rfl (lv_at hl 2 rfl) ?_
    refine lv_iload_n hx hb dX4_shore_29 rfl (lv_at hl 3 rfl) ?_
    refine lv_iload_n hx hb dX4_shore_30 rfl (lv_at hl 4 rfl) ?_
    refine kMvN hx hb hml hown hts hK hP hD hA hS gX4_shore_X0_add_n170 (hK.2 _ (List.mem_of_getElem? (i := 59) rfl)) (hts _ (List.mem_of_getElem? (i := 4) rfl)) (hts _ (List.mem_of_getElem? (i := 19) rfl)) (hts _ (List.mem_of_getElem? (i := 20) rfl)) okX0_add (qX0_add l D cI cB g 4 B w f v (by show sn_ B ≤ 7; omega)) [1, 2, 3, 4, 5, 6] rfl (by decide) (fun _ => rfl) rfl rfl rfl (by decide) hl.1 rfl rfl (Nat.le_of_ble_eq_true rfl) dX4_shore_31 (by decide) (fun u_4 H locs hw_5 hP hD hS => ?_)
    replace hw_5 : u_4 = ad_ B w f v := hw_5
    subst u_4
    replace hP : va_P D vwCl (xO g hi tc ++ bW cI g 4 (ad_ B w f v) ++ pW cB g la ct ++ rW cI g rf) H := (va_P.m [false, true, true, true, true, true, true] [] hP)
    replace hD : va_D A (xO g hi tc ++ bW cI g 4 (ad_ B w f v) ++ pW cB g la ct ++ rW cI g rf) := (va_D.m [false, true, true, true, true, true, true] [] hD)
    refine lv_aload_n hx hb dX4_shore_34 rfl (lv_at hl 1 rfl) ?_
    refine va_get (ci := 4) (C := RX4) (T := TX4) (N := 9) hx hb hts hinX4 hown hK.1 hP 0 rfl rfl 4 (by decide) (hts _ (List.mem_of_getElem? (i := 2) rfl)) (fun _ h9 => h9) rfl dX4_shore_35 ?_
    refine lv_iconst (v := 0) hx hb dX4_shore_38 (by decide) ?_
    refine va_putN (ci := 3) (ty := .int) (C := RX3) (T := TX3) (N := 3) hx hb hts hinX3 tyX3 tyX3_ok nmX3 hown hK.1 hP hD hS 7 rfl rfl 2 (by decide) (va_Nw.use rfl (hK.2 _ (List.mem_of_getElem? (i := 26) rfl))) (fun _ h9 => h9) rfl (by decide +kernel) (rfl) (rfl) (Nat.le_of_ble_eq_true rfl) dX4_shore_39 (fun H locs hP hD hS => ?_)
    replace hP : va_P D vwCl (xO g hi tc ++ bW cI g 4 (ad_ B w f v) ++ pW cB g la 0 ++ rW cI g rf) H := hP
    replace hD : va_D A (xO g hi tc ++ bW cI g 4 (ad_ B w f v) ++ pW cB g la 0 ++ rW cI g rf) := hD
    refine lv_aload_n hx hb dX4_shore_42 rfl (lv_at hl 1 rfl) ?_
    refine va_get (ci := 4) (C := RX4) (T := TX4) (N := 9) hx hb hts hinX4 hown hK.1 hP 0 rfl rfl 1 (by decide) (hts _ (List.mem_of_getElem? (i := 1) rfl)) (fun _ h9 => h9) rfl dX4_shore_43 ?_
    refine va_getN (ci := 0) (C := RX0) (T := TX0) (N := 11) hx hb hts hinX0 hown hK.1 hP 1 rfl rfl 6 (by decide) (va_Nw.use rfl (hK.2 _ (List.mem_of_getElem? (i := 13) rfl))) (fun _ h9 => h9) rfl dX4_shore_46 ?_
    refine lv_iconst (v := 1) hx hb dX4_shore_49 (by decide) ?_
    refine lv_isub hx hb dX4_shore_50 ?_
    refine rMi hx hb hr hlk hS ((ad_ B w f v), rf, 0) hP ?_ dX4_shore_51
    first | exact Or.inr ⟨c_14, rfl, rfl⟩ | exact Or.inl ⟨c_14, by rw [sn_ad (rs_k c_14).2.2.1]; exact nI_pred _, rfl⟩
  · skip
    refine lv_aload_n hx hb dX4_shore_17 rfl (lv_at hl 1 rfl) ?_
    refine lv_iload hx hb dX4_shore_18 (lv_at hl 0 rfl) ?_
    refine kMiV hx hb hml hown hts hK hP hD hA hS gX4_shore_X4_refuse okX4_refuse (qX4_refuse l D cI cB g hi tc rf (rs_ B w f v) (rc0_n (by first | exact rc0_rs _ _ _ _ | exact rc0_rh _ _ | exact rc0_nb _ _ | exact rc0_f2 (rc0_nb _ _) (rc0_ob _ _ _) | exact rc0_f2 (rc0_uk _ _) (rc0_if (rc0_ob _ _ _) (rc0_ob _ _ _)) | exact rc0_f2 (rc0_ob _ _ _) (rc0_if (Or.inr (Or.inr (Or.inr (Or.inr (Or.inr rfl))))) (Or.inl rfl))) c_14)) [0, 9] rfl (by decide) (fun _ => rfl) rfl rfl rfl (by decide) hl.1 rfl rfl (Nat.le_of_ble_eq_true rfl) dX4_shore_20 (by decide) (fun r_6 u_7 H locs hw_8 hP hD hS => ?_)
    replace hw_8 : r_6 = rs_ B w f v ∧ u_7 = rfx_ rf (rs_ B w f v) := hw_8
    obtain ⟨hw_8a, hw_8b⟩ := hw_8
    subst r_6
    subst u_7
    replace hP : va_P D vwCl (xO g hi tc ++ bW cI g 4 B ++ pW cB g la ct ++ rW cI g (rfx_ rf (rs_ B w f v))) H := (va_P.m [true, false, false, false, false, false, false, false, false, true] [] hP)
    replace hD : va_D A (xO g hi tc ++ bW cI g 4 B ++ pW cB g la ct ++ rW cI g (rfx_ rf (rs_ B w f v))) := (va_D.m [true, false, false, false, false, false, false, false, false, true] [] hD)
    refine rMi hx hb hr hlk hS (B, (rfx_ rf (rs_ B w f v)), ct) hP ?_ dX4_shore_23
    first | exact Or.inr ⟨c_14, rfl, rfl⟩ | exact Or.inl ⟨c_14, by rw [sn_ad (rs_k c_14).2.2.1]; exact nI_pred _, rfl⟩

theorem okX4_powders : jok yX4_powders wsX4_powders cX4_powders 5 (some .int) 2 := ⟨⟨_, rfl⟩, by decide +kernel, by decide +kernel⟩
set_option maxHeartbeats 1000000 in
set_option maxRecDepth 100000 in
theorem qX4_powders (l : Launch) (D : va_G) (cI cB : ClassId) (g : Nat → Nat) (hi : Int32) (tc : Nat) (B : BayT) (la : Nat) (ct : Nat) (j : Nat) (P : BayT) (rf : Nat → Int32) (a : Int32) (v : Int32) (hn7 : sn_ B ≤ 7) (hla : la < 8) (hct : ct ≤ 8) (hj : j = (la + 1) % 8) : jMi D cI cB l yX4_powders wsX4_powders 3 [.ref (g 0), .int a, .int v] (xO g hi tc ++ bW cI g 4 B ++ pW cB g la ct ++ bW cI g (28 + 6 * j) P ++ rW cI g rf) (S := BayT × (Nat → Int32) × Nat × Nat × BayT) (fun r u => (f2_ (nb_ a (nI (sn_ B))) (ob_ v 0 99) = 0 ∧ r = pw_ B (tn_ a) ∧ u = (uw_ B (tn_ a) v, rf, j, mc8 ct, B)) ∨ (¬ f2_ (nb_ a (nI (sn_ B))) (ob_ v 0 99) = 0 ∧ r = f2_ (nb_ a (nI (sn_ B))) (ob_ v 0 99) ∧ u = (B, rfx_ rf (f2_ (nb_ a (nI (sn_ B))) (ob_ v 0 99)), la, ct, P))) (fun u => xO g hi tc ++ bW cI g 4 u.1 ++ pW cB g u.2.2.1 u.2.2.2.1 ++ bW cI g (28 + 6 * j) u.2.2.2.2 ++ rW cI g u.2.1) := by
  refine jMi.of (cc := cX4_powders) (maxL := 5) (ret := (some .int)) okX4_powders (Nat.le_of_ble_eq_true rfl) ?_
  intro p e s m below meth c ls A hx hb hr hts hown hlk hml hP hK hD hA hS hl
  replace hown : s.vm.findClass RX4 = some m.cls := hown
  replace hl : lv_has ls 5 [(0, .ref (g 0)), (1, .int a), (2, .int v)] := hl
  have hinX0 : ∀ w ∈ wsX00, w ∈ wsX4_powders := by decide +kernel
  have hinX4 : ∀ w ∈ wsX40, w ∈ wsX4_powders := by decide +kernel
  refine lv_aload_n hx hb dX4_powders_0 rfl (lv_at hl 0 rfl) ?_
  refine va_get (ci := 4) (C := RX4) (T := TX4) (N := 9) hx hb hts hinX4 hown hK.1 hP 0 rfl rfl 1 (by decide) (hts _ (List.mem_of_getElem? (i := 1) rfl)) (fun _ h9 => h9) rfl dX4_powders_1 ?_
  refine lv_iload_n hx hb dX4_powders_4 rfl (lv_at hl 1 rfl) ?_
  refine lv_iload_n hx hb dX4_powders_5 rfl (lv_at hl 2 rfl) ?_
  refine kSiN hx hb hml hown hts hK hP gX4_powders_X0_refusalOfPowder_n174 (hK.2 _ (List.mem_of_getElem? (i := 60) rfl)) (hts _ (List.mem_of_getElem? (i := 4) rfl)) (hts _ (List.mem_of_getElem? (i := 3) rfl)) (hts _ (List.mem_of_getElem? (i := 5) rfl)) okX0_refusalOfPowder (qX0_refusalOfPowder l D cI cB g 4 B a v (by show sn_ B ≤ 7; omega)) [1, 2, 3, 4, 5, 6] rfl rfl rfl rfl (by decide) hl.1 rfl rfl (Nat.le_of_ble_eq_true rfl) dX4_powders_6 (by decide) (fun r_1 hr_2 => ?_)
  replace hr_2 : r_1 = f2_ (nb_ a (nI (sn_ B))) (ob_ v 0 99) := hr_2
  subst r_1
  refine lv_istore_n (lv' := [(3, .int (f2_ (nb_ a (nI (sn_ B))) (ob_ v 0 99))), (0, .ref (g 0)), (1, .int a), (2, .int v)]) hx hb dX4_powders_9 rfl hl (by decide) rfl (fun ls hl => ?_)
  refine lv_iload_n hx hb dX4_powders_10 rfl (lv_at hl 0 rfl) ?_
  refine lv_if_eq (tgt := 20) hx hb dX4_powders_11 (by decide) (fun c_11 => ?_) (fun c_11 => ?_)
  · skip
    have w0 := c_11
    (try simp only [wS_, wSN_, wSNW_, wNW_, wTh_, f2_0, nb_0, ob_0, uk_0, lo_0, hi_0] at w0)
    obtain ⟨a_, ha_, rfl⟩ := pl_lt (n := sn_ B) (by omega) w0.1
    replace hl : lv_has ls 5 [(3, .int (f2_ (nb_ (nI a_) (nI (sn_ B))) (ob_ v 0 99))), (0, .ref (g 0)), (1, .int (nI a_)), (2, .int v)] := hl
    refine lv_aload_n hx hb dX4_powders_20 rfl (lv_at hl 1 rfl) ?_
    refine va_get (ci := 4) (C := RX4) (T := TX4) (N := 9) hx hb hts hinX4 hown hK.1 hP 0 rfl rfl 4 (by decide) (hts _ (List.mem_of_getElem? (i := 2) rfl)) (fun _ h9 => h9) rfl dX4_powders_21 ?_
    refine lv_aload_n hx hb dX4_powders_24 rfl (lv_at hl 1 rfl) ?_
    refine va_get (ci := 4) (C := RX4) (T := TX4) (N := 9) hx hb hts hinX4 hown hK.1 hP 0 rfl rfl 1 (by decide) (hts _ (List.mem_of_getElem? (i := 1) rfl)) (fun _ h9 => h9) rfl dX4_powders_25 ?_
    refine kMvN hx hb hml hown hts hK hP hD hA hS gX4_powders_X3_keep_n177 (hK.2 _ (List.mem_of_getElem? (i := 61) rfl)) (hts _ (List.mem_of_getElem? (i := 24) rfl)) (hts _ (List.mem_of_getElem? (i := 23) rfl)) (hts _ (List.mem_of_getElem? (i := 25) rfl)) okX3_keep (qX3_keep l D cI cB g la ct j B P (by omega) (by omega) (by omega)) [7, 8, 1, 2, 3, 4, 5, 6, 9, 10, 11, 12, 13, 14] rfl (by decide) (fun _ => rfl) rfl rfl rfl (by decide) hl.1 rfl rfl (Nat.le_of_ble_eq_true rfl) dX4_powders_28 (by decide) (fun u_4 H locs hw_5 hP hD hS => ?_)
    replace hP : va_P D vwCl (xO g hi tc ++ bW cI g 4 B ++ pW cB g j (mc8 ct) ++ bW cI g (28 + 6 * j) B ++ rW cI g rf) H := (va_P.m [false, true, true, true, true, true, true, false, false, true, true, true, true, true, true] [] (va_P.m [false, false, false, false, false, false, false, true, true] [1, 2, 3, 4, 5, 6, 9, 10, 11, 12, 13, 14] hP))
    replace hD : va_D A (xO g hi tc ++ bW cI g 4 B ++ pW cB g j (mc8 ct) ++ bW cI g (28 + 6 * j) B ++ rW cI g rf) := (va_D.m [false, true, true, true, true, true, true, false, false, true, true, true, true, true, true] [] (va_D.m [false, false, false, false, false, false, false, true, true] [1, 2, 3, 4, 5, 6, 9, 10, 11, 12, 13, 14] hD))
    refine lv_aload_n hx hb dX4_powders_31 rfl (lv_at hl 1 rfl) ?_
    refine va_get (ci := 4) (C := RX4) (T := TX4) (N := 9) hx hb hts hinX4 hown hK.1 hP 0 rfl rfl 1 (by decide) (hts _ (List.mem_of_getElem? (i := 1) rfl)) (fun _ h9 => h9) rfl dX4_powders_32 ?_
    refine va_getN (ci := 0) (C := RX0) (T := TX0) (N := 11) hx hb hts hinX0 hown hK.1 hP 1 rfl rfl 3 (by decide) (va_Nw.use rfl (hK.2 _ (List.mem_of_getElem? (i := 8) rfl))) (fun _ h9 => h9) rfl dX4_powders_35 ?_
    refine lv_iload_n hx hb dX4_powders_38 rfl (lv_at hl 2 rfl) ?_
    refine jald hx hb hK.1 hP 5 0 a_ rfl rfl rfl (by omega) (Nat.le_of_ble_eq_true rfl) dX4_powders_39 ?_
    refine lv_istore (lv' := [(4, .int ((pw_ B) a_)), (3, .int (f2_ (nb_ (nI a_) (nI (sn_ B))) (ob_ v 0 99))), (0, .ref (g 0)), (1, .int (nI a_)), (2, .int v)]) hx hb dX4_powders_40 hl (by decide) rfl (fun ls hl => ?_)
    refine lv_aload_n hx hb dX4_powders_42 rfl (lv_at hl 2 rfl) ?_
    refine va_get (ci := 4) (C := RX4) (T := TX4) (N := 9) hx hb hts hinX4 hown hK.1 hP 0 rfl rfl 1 (by decide) (hts _ (List.mem_of_getElem? (i := 1) rfl)) (fun _ h9 => h9) rfl dX4_powders_43 ?_
    refine lv_iload_n hx hb dX4_powders_46 rfl (lv_at hl 3 rfl) ?_
    refine lv_iload_n hx hb dX4_powders_47 rfl (lv_at hl 4 rfl) ?_
    refine kMvN hx hb hml hown hts hK hP hD hA hS gX4_powders_X0_setPowder_n180 (hK.2 _ (List.mem_of_getElem? (i := 63) rfl)) (hts _ (List.mem_of_getElem? (i := 4) rfl)) (hts _ (List.mem_of_getElem? (i := 51) rfl)) (hts _ (List.mem_of_getElem? (i := 52) rfl)) okX0_setPowder (qX0_setPowder l D cI cB g 4 B a_ v (by show sn_ B ≤ 7; omega) (by omega)) [1, 2, 3, 4, 5, 6] rfl (by decide) (fun _ => rfl) rfl rfl rfl (by decide) hl.1 rfl rfl (Nat.le_of_ble_eq_true rfl) dX4_powders_48 (by decide) (fun u_7 H locs hw_8 hP hD hS => ?_)
    replace hw_8 : u_7 = uw_ B a_ v := hw_8
    subst u_7
    replace hP : va_P D vwCl (xO g hi tc ++ bW cI g 4 (uw_ B a_ v) ++ pW cB g j (mc8 ct) ++ bW cI g (28 + 6 * j) B ++ rW cI g rf) H := (va_P.m [false, true, true, true, true, true, true] [] hP)
    replace hD : va_D A (xO g hi tc ++ bW cI g 4 (uw_ B a_ v) ++ pW cB g j (mc8 ct) ++ bW cI g (28 + 6 * j) B ++ rW cI g rf) := (va_D.m [false, true, true, true, true, true, true] [] hD)
    refine lv_iload hx hb dX4_powders_51 (lv_at hl 0 rfl) ?_
    refine rMi hx hb hr hlk hS ((uw_ B a_ v), rf, j, (mc8 ct), B) hP ?_ dX4_powders_53
    first | exact Or.inr ⟨c_11, rfl, rfl⟩ | (refine Or.inl ⟨c_11, ?_⟩; rw [tn_n (show a_ < 2147483648 by omega)]; exact ⟨rfl, rfl⟩)
  · skip
    refine lv_aload_n hx hb dX4_powders_14 rfl (lv_at hl 1 rfl) ?_
    refine lv_iload_n hx hb dX4_powders_15 rfl (lv_at hl 0 rfl) ?_
    refine kMiV hx hb hml hown hts hK hP hD hA hS gX4_powders_X4_refuse okX4_refuse (qX4_refuse l D cI cB g hi tc rf (f2_ (nb_ a (nI (sn_ B))) (ob_ v 0 99)) (rc0_n (by first | exact rc0_rs _ _ _ _ | exact rc0_rh _ _ | exact rc0_nb _ _ | exact rc0_f2 (rc0_nb _ _) (rc0_ob _ _ _) | exact rc0_f2 (rc0_uk _ _) (rc0_if (rc0_ob _ _ _) (rc0_ob _ _ _)) | exact rc0_f2 (rc0_ob _ _ _) (rc0_if (Or.inr (Or.inr (Or.inr (Or.inr (Or.inr rfl))))) (Or.inl rfl))) c_11)) [0, 15] rfl (by decide) (fun _ => rfl) rfl rfl rfl (by decide) hl.1 rfl rfl (Nat.le_of_ble_eq_true rfl) dX4_powders_16 (by decide) (fun r_9 u_10 H locs hw_11 hP hD hS => ?_)
    replace hw_11 : r_9 = f2_ (nb_ a (nI (sn_ B))) (ob_ v 0 99) ∧ u_10 = rfx_ rf (f2_ (nb_ a (nI (sn_ B))) (ob_ v 0 99)) := hw_11
    obtain ⟨hw_11a, hw_11b⟩ := hw_11
    subst r_9
    subst u_10
    replace hP : va_P D vwCl (xO g hi tc ++ bW cI g 4 B ++ pW cB g la ct ++ bW cI g (28 + 6 * j) P ++ rW cI g (rfx_ rf (f2_ (nb_ a (nI (sn_ B))) (ob_ v 0 99)))) H := (va_P.m [true, false, false, false, false, false, false, false, false, false, false, false, false, false, false, true] [] hP)
    replace hD : va_D A (xO g hi tc ++ bW cI g 4 B ++ pW cB g la ct ++ bW cI g (28 + 6 * j) P ++ rW cI g (rfx_ rf (f2_ (nb_ a (nI (sn_ B))) (ob_ v 0 99)))) := (va_D.m [true, false, false, false, false, false, false, false, false, false, false, false, false, false, false, true] [] hD)
    refine rMi hx hb hr hlk hS (B, (rfx_ rf (f2_ (nb_ a (nI (sn_ B))) (ob_ v 0 99))), la, ct, P) hP ?_ dX4_powders_19
    first | exact Or.inr ⟨c_11, rfl, rfl⟩ | (refine Or.inl ⟨c_11, ?_⟩; rw [tn_n (show a_ < 2147483648 by omega)]; exact ⟨rfl, rfl⟩)

theorem okX4_hushes : jok yX4_hushes wsX4_hushes cX4_hushes 3 (some .int) 1 := ⟨⟨_, rfl⟩, by decide +kernel, by decide +kernel⟩
set_option maxHeartbeats 1000000 in
set_option maxRecDepth 100000 in
theorem qX4_hushes (l : Launch) (D : va_G) (cI cB : ClassId) (g : Nat → Nat) (hi : Int32) (tc : Nat) (B : BayT) (la : Nat) (ct : Nat) (j : Nat) (P : BayT) (rf : Nat → Int32) (a : Int32) (hn7 : sn_ B ≤ 7) (hla : la < 8) (hct : ct ≤ 8) (hj : j = (la + 1) % 8) : jMi D cI cB l yX4_hushes wsX4_hushes 3 [.ref (g 0), .int a] (xO g hi tc ++ bW cI g 4 B ++ pW cB g la ct ++ bW cI g (28 + 6 * j) P ++ rW cI g rf) (S := BayT × (Nat → Int32) × Nat × Nat × BayT) (fun r u => (nb_ a (nI (sn_ B)) = 0 ∧ r = qb_ (qt_ B ^^^ ((1 : Int32) <<< (nI (tn_ a) &&& 31))) (tn_ a) ∧ u = (uq_ B (qt_ B ^^^ ((1 : Int32) <<< (nI (tn_ a) &&& 31))), rf, j, mc8 ct, B)) ∨ (¬ nb_ a (nI (sn_ B)) = 0 ∧ r = nb_ a (nI (sn_ B)) ∧ u = (B, rfx_ rf (nb_ a (nI (sn_ B))), la, ct, P))) (fun u => xO g hi tc ++ bW cI g 4 u.1 ++ pW cB g u.2.2.1 u.2.2.2.1 ++ bW cI g (28 + 6 * j) u.2.2.2.2 ++ rW cI g u.2.1) := by
  refine jMi.of (cc := cX4_hushes) (maxL := 3) (ret := (some .int)) okX4_hushes (Nat.le_of_ble_eq_true rfl) ?_
  intro p e s m below meth c ls A hx hb hr hts hown hlk hml hP hK hD hA hS hl
  replace hown : s.vm.findClass RX4 = some m.cls := hown
  replace hl : lv_has ls 3 [(0, .ref (g 0)), (1, .int a)] := hl
  have hinX0 : ∀ w ∈ wsX00, w ∈ wsX4_hushes := by decide +kernel
  have hinX4 : ∀ w ∈ wsX40, w ∈ wsX4_hushes := by decide +kernel
  refine lv_iload_n hx hb dX4_hushes_0 rfl (lv_at hl 1 rfl) ?_
  refine lv_aload_n hx hb dX4_hushes_1 rfl (lv_at hl 0 rfl) ?_
  refine va_get (ci := 4) (C := RX4) (T := TX4) (N := 9) hx hb hts hinX4 hown hK.1 hP 0 rfl rfl 1 (by decide) (hts _ (List.mem_of_getElem? (i := 1) rfl)) (fun _ h9 => h9) rfl dX4_hushes_2 ?_
  refine va_getN (ci := 0) (C := RX0) (T := TX0) (N := 11) hx hb hts hinX0 hown hK.1 hP 1 rfl rfl 6 (by decide) (va_Nw.use rfl (hK.2 _ (List.mem_of_getElem? (i := 13) rfl))) (fun _ h9 => h9) rfl dX4_hushes_5 ?_
  refine kSiS hx hb hml hown hts hK hP gX4_hushes_X4_nobody okX4_nobody (qX4_nobody l D cI cB a (nI (sn_ B)) ) [] rfl (by decide) hl.1 rfl rfl (Nat.le_of_ble_eq_true rfl) dX4_hushes_8 (by decide) (fun r_1 hr_2 => ?_)
  replace hr_2 : r_1 = nb_ a (nI (sn_ B)) := hr_2
  subst r_1
  refine lv_istore_n (lv' := [(2, .int (nb_ a (nI (sn_ B)))), (0, .ref (g 0)), (1, .int a)]) hx hb dX4_hushes_11 rfl hl (by decide) rfl (fun ls hl => ?_)
  refine lv_iload_n hx hb dX4_hushes_12 rfl (lv_at hl 0 rfl) ?_
  refine lv_if_eq (tgt := 22) hx hb dX4_hushes_13 (by decide) (fun c_13 => ?_) (fun c_13 => ?_)
  · skip
    have w0 := c_13
    (try simp only [wS_, wSN_, wSNW_, wNW_, wTh_, f2_0, nb_0, ob_0, uk_0, lo_0, hi_0] at w0)
    obtain ⟨a_, ha_, rfl⟩ := pl_lt (n := sn_ B) (by omega) w0
    replace hl : lv_has ls 3 [(2, .int (nb_ (nI a_) (nI (sn_ B)))), (0, .ref (g 0)), (1, .int (nI a_))] := hl
    refine lv_aload_n hx hb dX4_hushes_22 rfl (lv_at hl 1 rfl) ?_
    refine va_get (ci := 4) (C := RX4) (T := TX4) (N := 9) hx hb hts hinX4 hown hK.1 hP 0 rfl rfl 4 (by decide) (hts _ (List.mem_of_getElem? (i := 2) rfl)) (fun _ h9 => h9) rfl dX4_hushes_23 ?_
    refine lv_aload_n hx hb dX4_hushes_26 rfl (lv_at hl 1 rfl) ?_
    refine va_get (ci := 4) (C := RX4) (T := TX4) (N := 9) hx hb hts hinX4 hown hK.1 hP 0 rfl rfl 1 (by decide) (hts _ (List.mem_of_getElem? (i := 1) rfl)) (fun _ h9 => h9) rfl dX4_hushes_27 ?_
    refine kMvN hx hb hml hown hts hK hP hD hA hS gX4_hushes_X3_keep_n177 (hK.2 _ (List.mem_of_getElem? (i := 61) rfl)) (hts _ (List.mem_of_getElem? (i := 13) rfl)) (hts _ (List.mem_of_getElem? (i := 12) rfl)) (hts _ (List.mem_of_getElem? (i := 14) rfl)) okX3_keep (qX3_keep l D cI cB g la ct j B P (by omega) (by omega) (by omega)) [7, 8, 1, 2, 3, 4, 5, 6, 9, 10, 11, 12, 13, 14] rfl (by decide) (fun _ => rfl) rfl rfl rfl (by decide) hl.1 rfl rfl (Nat.le_of_ble_eq_true rfl) dX4_hushes_30 (by decide) (fun u_4 H locs hw_5 hP hD hS => ?_)
    replace hP : va_P D vwCl (xO g hi tc ++ bW cI g 4 B ++ pW cB g j (mc8 ct) ++ bW cI g (28 + 6 * j) B ++ rW cI g rf) H := (va_P.m [false, true, true, true, true, true, true, false, false, true, true, true, true, true, true] [] (va_P.m [false, false, false, false, false, false, false, true, true] [1, 2, 3, 4, 5, 6, 9, 10, 11, 12, 13, 14] hP))
    replace hD : va_D A (xO g hi tc ++ bW cI g 4 B ++ pW cB g j (mc8 ct) ++ bW cI g (28 + 6 * j) B ++ rW cI g rf) := (va_D.m [false, true, true, true, true, true, true, false, false, true, true, true, true, true, true] [] (va_D.m [false, false, false, false, false, false, false, true, true] [1, 2, 3, 4, 5, 6, 9, 10, 11, 12, 13, 14] hD))
    refine lv_aload_n hx hb dX4_hushes_33 rfl (lv_at hl 1 rfl) ?_
    refine va_get (ci := 4) (C := RX4) (T := TX4) (N := 9) hx hb hts hinX4 hown hK.1 hP 0 rfl rfl 1 (by decide) (hts _ (List.mem_of_getElem? (i := 1) rfl)) (fun _ h9 => h9) rfl dX4_hushes_34 ?_
    refine lv_iload_n hx hb dX4_hushes_37 rfl (lv_at hl 2 rfl) ?_
    refine kMvN hx hb hml hown hts hK hP hD hA hS gX4_hushes_X0_turnQuiet_n184 (hK.2 _ (List.mem_of_getElem? (i := 64) rfl)) (hts _ (List.mem_of_getElem? (i := 24) rfl)) (hts _ (List.mem_of_getElem? (i := 42) rfl)) (hts _ (List.mem_of_getElem? (i := 43) rfl)) okX0_turnQuiet (qX0_turnQuiet l D cI cB g 4 B a_ (by show sn_ B ≤ 7; omega) (by omega)) [1, 2, 3, 4, 5, 6] rfl (by decide) (fun _ => rfl) rfl rfl rfl (by decide) hl.1 rfl rfl (Nat.le_of_ble_eq_true rfl) dX4_hushes_38 (by decide) (fun u_7 H locs hw_8 hP hD hS => ?_)
    replace hw_8 : u_7 = uq_ B (qt_ B ^^^ ((1 : Int32) <<< (nI a_ &&& 31))) := hw_8
    subst u_7
    replace hP : va_P D vwCl (xO g hi tc ++ bW cI g 4 (uq_ B (qt_ B ^^^ ((1 : Int32) <<< (nI a_ &&& 31)))) ++ pW cB g j (mc8 ct) ++ bW cI g (28 + 6 * j) B ++ rW cI g rf) H := (va_P.m [false, true, true, true, true, true, true] [] hP)
    replace hD : va_D A (xO g hi tc ++ bW cI g 4 (uq_ B (qt_ B ^^^ ((1 : Int32) <<< (nI a_ &&& 31)))) ++ pW cB g j (mc8 ct) ++ bW cI g (28 + 6 * j) B ++ rW cI g rf) := (va_D.m [false, true, true, true, true, true, true] [] hD)
    refine lv_aload_n hx hb dX4_hushes_41 rfl (lv_at hl 1 rfl) ?_
    refine va_get (ci := 4) (C := RX4) (T := TX4) (N := 9) hx hb hts hinX4 hown hK.1 hP 0 rfl rfl 1 (by decide) (hts _ (List.mem_of_getElem? (i := 1) rfl)) (fun _ h9 => h9) rfl dX4_hushes_42 ?_
    refine lv_iload_n hx hb dX4_hushes_45 rfl (lv_at hl 2 rfl) ?_
    refine kSiN hx hb hml hown hts hK hP gX4_hushes_X0_isQuiet_n127 (hK.2 _ (List.mem_of_getElem? (i := 52) rfl)) (hts _ (List.mem_of_getElem? (i := 24) rfl)) (hts _ (List.mem_of_getElem? (i := 45) rfl)) (hts _ (List.mem_of_getElem? (i := 46) rfl)) okX0_isQuiet (qX0_isQuiet l D cI cB g 4 (uq_ B (qt_ B ^^^ ((1 : Int32) <<< (nI a_ &&& 31)))) a_ (by show sn_ B ≤ 7; omega) (by omega)) [1, 2, 3, 4, 5, 6] rfl rfl rfl rfl (by decide) hl.1 rfl rfl (Nat.le_of_ble_eq_true rfl) dX4_hushes_46 (by decide) (fun r_9 hr_10 => ?_)
    replace hr_10 : r_9 = b1 (qb_ (qt_ (uq_ B (qt_ B ^^^ ((1 : Int32) <<< (nI a_ &&& 31))))) a_ = 1) := hr_10
    subst r_9
    refine lv_if_eq (tgt := 56) hx hb dX4_hushes_49 (by decide) (fun c_49 => ?_) (fun c_49 => ?_)
    · replace c_49 := b1_z c_49
      refine lv_iconst (v := 0) hx hb dX4_hushes_56 (by decide) ?_
      refine rMi hx hb hr hlk hS ((uq_ B (qt_ B ^^^ ((1 : Int32) <<< (nI a_ &&& 31)))), rf, j, (mc8 ct), B) hP ?_ dX4_hushes_57
      first | exact Or.inr ⟨c_13, rfl, rfl⟩ | (refine Or.inl ⟨c_13, ?_⟩; rw [tn_n (show a_ < 2147483648 by omega)]; refine ⟨?_, rfl⟩; first | exact c_49.symm | exact (qb_01 c_49).symm)
    · replace c_49 := b1_n c_49
      refine lv_iconst (v := 1) hx hb dX4_hushes_52 (by decide) ?_
      refine lv_goto (tgt := 57) hx hb dX4_hushes_53 (by decide) ?_
      refine rMi hx hb hr hlk hS ((uq_ B (qt_ B ^^^ ((1 : Int32) <<< (nI a_ &&& 31)))), rf, j, (mc8 ct), B) hP ?_ dX4_hushes_57
      first | exact Or.inr ⟨c_13, rfl, rfl⟩ | (refine Or.inl ⟨c_13, ?_⟩; rw [tn_n (show a_ < 2147483648 by omega)]; refine ⟨?_, rfl⟩; first | exact c_49.symm | exact (qb_01 c_49).symm)
  · skip
    refine lv_aload_n hx hb dX4_hushes_16 rfl (lv_at hl 1 rfl) ?_
    refine lv_iload_n hx hb dX4_hushes_17 rfl (lv_at hl 0 rfl) ?_
    refine kMiV hx hb hml hown hts hK hP hD hA hS gX4_hushes_X4_refuse okX4_refuse (qX4_refuse l D cI cB g hi tc rf (nb_ a (nI (sn_ B))) (rc0_n (by first | exact rc0_rs _ _ _ _ | exact rc0_rh _ _ | exact rc0_nb _ _ | exact rc0_f2 (rc0_nb _ _) (rc0_ob _ _ _) | exact rc0_f2 (rc0_uk _ _) (rc0_if (rc0_ob _ _ _) (rc0_ob _ _ _)) | exact rc0_f2 (rc0_ob _ _ _) (rc0_if (Or.inr (Or.inr (Or.inr (Or.inr (Or.inr rfl))))) (Or.inl rfl))) c_13)) [0, 15] rfl (by decide) (fun _ => rfl) rfl rfl rfl (by decide) hl.1 rfl rfl (Nat.le_of_ble_eq_true rfl) dX4_hushes_18 (by decide) (fun r_11 u_12 H locs hw_13 hP hD hS => ?_)
    replace hw_13 : r_11 = nb_ a (nI (sn_ B)) ∧ u_12 = rfx_ rf (nb_ a (nI (sn_ B))) := hw_13
    obtain ⟨hw_13a, hw_13b⟩ := hw_13
    subst r_11
    subst u_12
    replace hP : va_P D vwCl (xO g hi tc ++ bW cI g 4 B ++ pW cB g la ct ++ bW cI g (28 + 6 * j) P ++ rW cI g (rfx_ rf (nb_ a (nI (sn_ B))))) H := (va_P.m [true, false, false, false, false, false, false, false, false, false, false, false, false, false, false, true] [] hP)
    replace hD : va_D A (xO g hi tc ++ bW cI g 4 B ++ pW cB g la ct ++ bW cI g (28 + 6 * j) P ++ rW cI g (rfx_ rf (nb_ a (nI (sn_ B))))) := (va_D.m [true, false, false, false, false, false, false, false, false, false, false, false, false, false, false, true] [] hD)
    refine rMi hx hb hr hlk hS (B, (rfx_ rf (nb_ a (nI (sn_ B)))), la, ct, P) hP ?_ dX4_hushes_21
    first | exact Or.inr ⟨c_13, rfl, rfl⟩ | (refine Or.inl ⟨c_13, ?_⟩; rw [tn_n (show a_ < 2147483648 by omega)]; refine ⟨?_, rfl⟩; first | exact c_49.symm | exact (qb_01 c_49).symm)

theorem okX4_isle : jok yX4_isle wsX4_isle cX4_isle 5 (some .int) 2 := ⟨⟨_, rfl⟩, by decide +kernel, by decide +kernel⟩
set_option maxHeartbeats 1000000 in
set_option maxRecDepth 100000 in
theorem qX4_isle (l : Launch) (D : va_G) (cI cB : ClassId) (g : Nat → Nat) (hi : Int32) (tc : Nat) (B : BayT) (la : Nat) (ct : Nat) (j : Nat) (P : BayT) (rf : Nat → Int32) (q : Int32) (v : Int32) (hn7 : sn_ B ≤ 7) (hla : la < 8) (hct : ct ≤ 8) (hj : j = (la + 1) % 8) : jMi D cI cB l yX4_isle wsX4_isle 3 [.ref (g 0), .int q, .int v] (xO g hi tc ++ bW cI g 4 B ++ pW cB g la ct ++ bW cI g (28 + 6 * j) P ++ rW cI g rf) (S := BayT × (Nat → Int32) × Nat × Nat × BayT) (fun r u => (f2_ (uk_ q 1) (if q = 0 then ob_ v 0 30 else ob_ v 1 5) = 0 ∧ r = (if q = 0 then il_ B else pa_ B) ∧ u = (uv_ B q v, rf, j, mc8 ct, B)) ∨ (¬ f2_ (uk_ q 1) (if q = 0 then ob_ v 0 30 else ob_ v 1 5) = 0 ∧ r = f2_ (uk_ q 1) (if q = 0 then ob_ v 0 30 else ob_ v 1 5) ∧ u = (B, rfx_ rf (f2_ (uk_ q 1) (if q = 0 then ob_ v 0 30 else ob_ v 1 5)), la, ct, P))) (fun u => xO g hi tc ++ bW cI g 4 u.1 ++ pW cB g u.2.2.1 u.2.2.2.1 ++ bW cI g (28 + 6 * j) u.2.2.2.2 ++ rW cI g u.2.1) := by
  refine jMi.of (cc := cX4_isle) (maxL := 5) (ret := (some .int)) okX4_isle (Nat.le_of_ble_eq_true rfl) ?_
  intro p e s m below meth c ls A hx hb hr hts hown hlk hml hP hK hD hA hS hl
  replace hown : s.vm.findClass RX4 = some m.cls := hown
  replace hl : lv_has ls 5 [(0, .ref (g 0)), (1, .int q), (2, .int v)] := hl
  have hinX0 : ∀ w ∈ wsX00, w ∈ wsX4_isle := by decide +kernel
  have hinX4 : ∀ w ∈ wsX40, w ∈ wsX4_isle := by decide +kernel
  refine lv_aload_n hx hb dX4_isle_0 rfl (lv_at hl 0 rfl) ?_
  refine va_get (ci := 4) (C := RX4) (T := TX4) (N := 9) hx hb hts hinX4 hown hK.1 hP 0 rfl rfl 1 (by decide) (hts _ (List.mem_of_getElem? (i := 1) rfl)) (fun _ h9 => h9) rfl dX4_isle_1 ?_
  refine lv_iload_n hx hb dX4_isle_4 rfl (lv_at hl 1 rfl) ?_
  refine lv_iload_n hx hb dX4_isle_5 rfl (lv_at hl 2 rfl) ?_
  refine kSiN hx hb hml hown hts hK hP gX4_isle_X0_refusalOfIsle_n188 (hK.2 _ (List.mem_of_getElem? (i := 65) rfl)) (hts _ (List.mem_of_getElem? (i := 4) rfl)) (hts _ (List.mem_of_getElem? (i := 3) rfl)) (hts _ (List.mem_of_getElem? (i := 5) rfl)) okX0_refusalOfIsle (qX0_refusalOfIsle l D cI cB g 4 B q v (by show sn_ B ≤ 7; omega)) [1, 2, 3, 4, 5, 6] rfl rfl rfl rfl (by decide) hl.1 rfl rfl (Nat.le_of_ble_eq_true rfl) dX4_isle_6 (by decide) (fun r_1 hr_2 => ?_)
  replace hr_2 : r_1 = f2_ (uk_ q 1) (if q = 0 then ob_ v 0 30 else ob_ v 1 5) := hr_2
  subst r_1
  refine lv_istore_n (lv' := [(3, .int (f2_ (uk_ q 1) (if q = 0 then ob_ v 0 30 else ob_ v 1 5))), (0, .ref (g 0)), (1, .int q), (2, .int v)]) hx hb dX4_isle_9 rfl hl (by decide) rfl (fun ls hl => ?_)
  refine lv_iload_n hx hb dX4_isle_10 rfl (lv_at hl 0 rfl) ?_
  refine lv_if_eq (tgt := 20) hx hb dX4_isle_11 (by decide) (fun c_11 => ?_) (fun c_11 => ?_)
  · skip
    refine lv_aload_n hx hb dX4_isle_20 rfl (lv_at hl 1 rfl) ?_
    refine va_get (ci := 4) (C := RX4) (T := TX4) (N := 9) hx hb hts hinX4 hown hK.1 hP 0 rfl rfl 4 (by decide) (hts _ (List.mem_of_getElem? (i := 2) rfl)) (fun _ h9 => h9) rfl dX4_isle_21 ?_
    refine lv_aload_n hx hb dX4_isle_24 rfl (lv_at hl 1 rfl) ?_
    refine va_get (ci := 4) (C := RX4) (T := TX4) (N := 9) hx hb hts hinX4 hown hK.1 hP 0 rfl rfl 1 (by decide) (hts _ (List.mem_of_getElem? (i := 1) rfl)) (fun _ h9 => h9) rfl dX4_isle_25 ?_
    refine kMvN hx hb hml hown hts hK hP hD hA hS gX4_isle_X3_keep_n177 (hK.2 _ (List.mem_of_getElem? (i := 61) rfl)) (hts _ (List.mem_of_getElem? (i := 23) rfl)) (hts _ (List.mem_of_getElem? (i := 22) rfl)) (hts _ (List.mem_of_getElem? (i := 24) rfl)) okX3_keep (qX3_keep l D cI cB g la ct j B P (by omega) (by omega) (by omega)) [7, 8, 1, 2, 3, 4, 5, 6, 9, 10, 11, 12, 13, 14] rfl (by decide) (fun _ => rfl) rfl rfl rfl (by decide) hl.1 rfl rfl (Nat.le_of_ble_eq_true rfl) dX4_isle_28 (by decide) (fun u_4 H locs hw_5 hP hD hS => ?_)
    replace hP : va_P D vwCl (xO g hi tc ++ bW cI g 4 B ++ pW cB g j (mc8 ct) ++ bW cI g (28 + 6 * j) B ++ rW cI g rf) H := (va_P.m [false, true, true, true, true, true, true, false, false, true, true, true, true, true, true] [] (va_P.m [false, false, false, false, false, false, false, true, true] [1, 2, 3, 4, 5, 6, 9, 10, 11, 12, 13, 14] hP))
    replace hD : va_D A (xO g hi tc ++ bW cI g 4 B ++ pW cB g j (mc8 ct) ++ bW cI g (28 + 6 * j) B ++ rW cI g rf) := (va_D.m [false, true, true, true, true, true, true, false, false, true, true, true, true, true, true] [] (va_D.m [false, false, false, false, false, false, false, true, true] [1, 2, 3, 4, 5, 6, 9, 10, 11, 12, 13, 14] hD))
    refine lv_iload_n hx hb dX4_isle_31 rfl (lv_at hl 2 rfl) ?_
    refine lv_if_ne (tgt := 45) hx hb dX4_isle_32 (by decide) (fun c_32 => ?_) (fun c_32 => ?_)
    · skip
      refine lv_aload_n hx hb dX4_isle_45 rfl (lv_at hl 1 rfl) ?_
      refine va_get (ci := 4) (C := RX4) (T := TX4) (N := 9) hx hb hts hinX4 hown hK.1 hP 0 rfl rfl 1 (by decide) (hts _ (List.mem_of_getElem? (i := 1) rfl)) (fun _ h9 => h9) rfl dX4_isle_46 ?_
      refine va_getN (ci := 0) (C := RX0) (T := TX0) (N := 11) hx hb hts hinX0 hown hK.1 hP 1 rfl rfl 8 (by decide) (va_Nw.use rfl (hK.2 _ (List.mem_of_getElem? (i := 17) rfl))) (fun _ h9 => h9) rfl dX4_isle_49 ?_
      refine lv_istore (lv' := [(4, .int (pa_ B)), (3, .int (f2_ (uk_ q 1) (if q = 0 then ob_ v 0 30 else ob_ v 1 5))), (0, .ref (g 0)), (1, .int q), (2, .int v)]) hx hb dX4_isle_52 hl (by decide) rfl (fun ls hl => ?_)
      refine lv_aload_n hx hb dX4_isle_54 rfl (lv_at hl 2 rfl) ?_
      refine va_get (ci := 4) (C := RX4) (T := TX4) (N := 9) hx hb hts hinX4 hown hK.1 hP 0 rfl rfl 1 (by decide) (hts _ (List.mem_of_getElem? (i := 1) rfl)) (fun _ h9 => h9) rfl dX4_isle_55 ?_
      refine lv_iload_n hx hb dX4_isle_58 rfl (lv_at hl 3 rfl) ?_
      refine lv_iload_n hx hb dX4_isle_59 rfl (lv_at hl 4 rfl) ?_
      refine kMvN hx hb hml hown hts hK hP hD hA hS gX4_isle_X0_setIsle_n191 (hK.2 _ (List.mem_of_getElem? (i := 66) rfl)) (hts _ (List.mem_of_getElem? (i := 4) rfl)) (hts _ (List.mem_of_getElem? (i := 51) rfl)) (hts _ (List.mem_of_getElem? (i := 52) rfl)) okX0_setIsle (qX0_setIsle l D cI cB g 4 B q v (by show sn_ B ≤ 7; omega)) [1, 2, 3, 4, 5, 6] rfl (by decide) (fun _ => rfl) rfl rfl rfl (by decide) hl.1 rfl rfl (Nat.le_of_ble_eq_true rfl) dX4_isle_60 (by decide) (fun u_7 H locs hw_8 hP hD hS => ?_)
      replace hw_8 : u_7 = uv_ B q v := hw_8
      subst u_7
      replace hP : va_P D vwCl (xO g hi tc ++ bW cI g 4 (uv_ B q v) ++ pW cB g j (mc8 ct) ++ bW cI g (28 + 6 * j) B ++ rW cI g rf) H := (va_P.m [false, true, true, true, true, true, true] [] hP)
      replace hD : va_D A (xO g hi tc ++ bW cI g 4 (uv_ B q v) ++ pW cB g j (mc8 ct) ++ bW cI g (28 + 6 * j) B ++ rW cI g rf) := (va_D.m [false, true, true, true, true, true, true] [] hD)
      refine lv_iload hx hb dX4_isle_63 (lv_at hl 0 rfl) ?_
      refine rMi hx hb hr hlk hS ((uv_ B q v), rf, j, (mc8 ct), B) hP ?_ dX4_isle_65
      first | exact Or.inr ⟨c_11, rfl, rfl⟩ | exact Or.inl ⟨c_11, (if_pos c_32).symm, rfl⟩ | exact Or.inl ⟨c_11, (if_neg c_32).symm, rfl⟩
    · skip
      refine lv_aload_n hx hb dX4_isle_35 rfl (lv_at hl 1 rfl) ?_
      refine va_get (ci := 4) (C := RX4) (T := TX4) (N := 9) hx hb hts hinX4 hown hK.1 hP 0 rfl rfl 1 (by decide) (hts _ (List.mem_of_getElem? (i := 1) rfl)) (fun _ h9 => h9) rfl dX4_isle_36 ?_
      refine va_getN (ci := 0) (C := RX0) (T := TX0) (N := 11) hx hb hts hinX0 hown hK.1 hP 1 rfl rfl 7 (by decide) (va_Nw.use rfl (hK.2 _ (List.mem_of_getElem? (i := 16) rfl))) (fun _ h9 => h9) rfl dX4_isle_39 ?_
      refine lv_goto (tgt := 52) hx hb dX4_isle_42 (by decide) ?_
      refine lv_istore (lv' := [(4, .int (il_ B)), (3, .int (f2_ (uk_ q 1) (if q = 0 then ob_ v 0 30 else ob_ v 1 5))), (0, .ref (g 0)), (1, .int q), (2, .int v)]) hx hb dX4_isle_52 hl (by decide) rfl (fun ls hl => ?_)
      refine lv_aload_n hx hb dX4_isle_54 rfl (lv_at hl 2 rfl) ?_
      refine va_get (ci := 4) (C := RX4) (T := TX4) (N := 9) hx hb hts hinX4 hown hK.1 hP 0 rfl rfl 1 (by decide) (hts _ (List.mem_of_getElem? (i := 1) rfl)) (fun _ h9 => h9) rfl dX4_isle_55 ?_
      refine lv_iload_n hx hb dX4_isle_58 rfl (lv_at hl 3 rfl) ?_
      refine lv_iload_n hx hb dX4_isle_59 rfl (lv_at hl 4 rfl) ?_
      refine kMvN hx hb hml hown hts hK hP hD hA hS gX4_isle_X0_setIsle_n191 (hK.2 _ (List.mem_of_getElem? (i := 66) rfl)) (hts _ (List.mem_of_getElem? (i := 4) rfl)) (hts _ (List.mem_of_getElem? (i := 51) rfl)) (hts _ (List.mem_of_getElem? (i := 52) rfl)) okX0_setIsle (qX0_setIsle l D cI cB g 4 B q v (by show sn_ B ≤ 7; omega)) [1, 2, 3, 4, 5, 6] rfl (by decide) (fun _ => rfl) rfl rfl rfl (by decide) hl.1 rfl rfl (Nat.le_of_ble_eq_true rfl) dX4_isle_60 (by decide) (fun u_10 H locs hw_11 hP hD hS => ?_)
      replace hw_11 : u_10 = uv_ B q v := hw_11
      subst u_10
      replace hP : va_P D vwCl (xO g hi tc ++ bW cI g 4 (uv_ B q v) ++ pW cB g j (mc8 ct) ++ bW cI g (28 + 6 * j) B ++ rW cI g rf) H := (va_P.m [false, true, true, true, true, true, true] [] hP)
      replace hD : va_D A (xO g hi tc ++ bW cI g 4 (uv_ B q v) ++ pW cB g j (mc8 ct) ++ bW cI g (28 + 6 * j) B ++ rW cI g rf) := (va_D.m [false, true, true, true, true, true, true] [] hD)
      refine lv_iload hx hb dX4_isle_63 (lv_at hl 0 rfl) ?_
      refine rMi hx hb hr hlk hS ((uv_ B q v), rf, j, (mc8 ct), B) hP ?_ dX4_isle_65
      first | exact Or.inr ⟨c_11, rfl, rfl⟩ | exact Or.inl ⟨c_11, (if_pos c_32).symm, rfl⟩ | exact Or.inl ⟨c_11, (if_neg c_32).symm, rfl⟩
  · skip
    refine lv_aload_n hx hb dX4_isle_14 rfl (lv_at hl 1 rfl) ?_
    refine lv_iload_n hx hb dX4_isle_15 rfl (lv_at hl 0 rfl) ?_
    refine kMiV hx hb hml hown hts hK hP hD hA hS gX4_isle_X4_refuse okX4_refuse (qX4_refuse l D cI cB g hi tc rf (f2_ (uk_ q 1) (if q = 0 then ob_ v 0 30 else ob_ v 1 5)) (rc0_n (by first | exact rc0_rs _ _ _ _ | exact rc0_rh _ _ | exact rc0_nb _ _ | exact rc0_f2 (rc0_nb _ _) (rc0_ob _ _ _) | exact rc0_f2 (rc0_uk _ _) (rc0_if (rc0_ob _ _ _) (rc0_ob _ _ _)) | exact rc0_f2 (rc0_ob _ _ _) (rc0_if (Or.inr (Or.inr (Or.inr (Or.inr (Or.inr rfl))))) (Or.inl rfl))) c_11)) [0, 15] rfl (by decide) (fun _ => rfl) rfl rfl rfl (by decide) hl.1 rfl rfl (Nat.le_of_ble_eq_true rfl) dX4_isle_16 (by decide) (fun r_12 u_13 H locs hw_14 hP hD hS => ?_)
    replace hw_14 : r_12 = f2_ (uk_ q 1) (if q = 0 then ob_ v 0 30 else ob_ v 1 5) ∧ u_13 = rfx_ rf (f2_ (uk_ q 1) (if q = 0 then ob_ v 0 30 else ob_ v 1 5)) := hw_14
    obtain ⟨hw_14a, hw_14b⟩ := hw_14
    subst r_12
    subst u_13
    replace hP : va_P D vwCl (xO g hi tc ++ bW cI g 4 B ++ pW cB g la ct ++ bW cI g (28 + 6 * j) P ++ rW cI g (rfx_ rf (f2_ (uk_ q 1) (if q = 0 then ob_ v 0 30 else ob_ v 1 5)))) H := (va_P.m [true, false, false, false, false, false, false, false, false, false, false, false, false, false, false, true] [] hP)
    replace hD : va_D A (xO g hi tc ++ bW cI g 4 B ++ pW cB g la ct ++ bW cI g (28 + 6 * j) P ++ rW cI g (rfx_ rf (f2_ (uk_ q 1) (if q = 0 then ob_ v 0 30 else ob_ v 1 5)))) := (va_D.m [true, false, false, false, false, false, false, false, false, false, false, false, false, false, false, true] [] hD)
    refine rMi hx hb hr hlk hS (B, (rfx_ rf (f2_ (uk_ q 1) (if q = 0 then ob_ v 0 30 else ob_ v 1 5))), la, ct, P) hP ?_ dX4_isle_19
    first | exact Or.inr ⟨c_11, rfl, rfl⟩ | exact Or.inl ⟨c_11, (if_pos c_32).symm, rfl⟩ | exact Or.inl ⟨c_11, (if_neg c_32).symm, rfl⟩

theorem okX4_hours : jok yX4_hours wsX4_hours cX4_hours 3 (some .int) 1 := ⟨⟨_, rfl⟩, by decide +kernel, by decide +kernel⟩
set_option maxHeartbeats 1000000 in
set_option maxRecDepth 100000 in
theorem qX4_hours (l : Launch) (D : va_G) (cI cB : ClassId) (g : Nat → Nat) (hi : Int32) (tc : Nat) (B : BayT) (la : Nat) (ct : Nat) (j : Nat) (P : BayT) (rf : Nat → Int32) (v : Int32) (hn7 : sn_ B ≤ 7) (hla : la < 8) (hct : ct ≤ 8) (hj : j = (la + 1) % 8) : jMi D cI cB l yX4_hours wsX4_hours 5 [.ref (g 0), .int v] (xO g hi tc ++ bW cI g 4 B ++ pW cB g la ct ++ bW cI g (28 + 6 * j) P ++ rW cI g rf) (S := BayT × (Nat → Int32) × Nat × Nat × BayT) (fun r u => (rh_ B v = 0 ∧ r = il_ (hs_ (tn_ v) B) ∧ u = (hs_ (tn_ v) B, rf, j, mc8 ct, B)) ∨ (¬ rh_ B v = 0 ∧ r = rh_ B v ∧ u = (B, rfx_ rf (rh_ B v), la, ct, P))) (fun u => xO g hi tc ++ bW cI g 4 u.1 ++ pW cB g u.2.2.1 u.2.2.2.1 ++ bW cI g (28 + 6 * j) u.2.2.2.2 ++ rW cI g u.2.1) := by
  refine jMi.of (cc := cX4_hours) (maxL := 3) (ret := (some .int)) okX4_hours (Nat.le_of_ble_eq_true rfl) ?_
  intro p e s m below meth c ls A hx hb hr hts hown hlk hml hP hK hD hA hS hl
  replace hown : s.vm.findClass RX4 = some m.cls := hown
  replace hl : lv_has ls 3 [(0, .ref (g 0)), (1, .int v)] := hl
  have hinX0 : ∀ w ∈ wsX00, w ∈ wsX4_hours := by decide +kernel
  have hinX4 : ∀ w ∈ wsX40, w ∈ wsX4_hours := by decide +kernel
  refine lv_aload_n hx hb dX4_hours_0 rfl (lv_at hl 0 rfl) ?_
  refine va_get (ci := 4) (C := RX4) (T := TX4) (N := 9) hx hb hts hinX4 hown hK.1 hP 0 rfl rfl 1 (by decide) (hts _ (List.mem_of_getElem? (i := 1) rfl)) (fun _ h9 => h9) rfl dX4_hours_1 ?_
  refine lv_iload_n hx hb dX4_hours_4 rfl (lv_at hl 1 rfl) ?_
  refine kSiN hx hb hml hown hts hK hP gX4_hours_X0_refusalOfHours_n194 (hK.2 _ (List.mem_of_getElem? (i := 67) rfl)) (hts _ (List.mem_of_getElem? (i := 4) rfl)) (hts _ (List.mem_of_getElem? (i := 3) rfl)) (hts _ (List.mem_of_getElem? (i := 5) rfl)) okX0_refusalOfHours (qX0_refusalOfHours l D cI cB g 4 B v (by show sn_ B ≤ 7; omega)) [1, 2, 3, 4, 5, 6] rfl rfl rfl rfl (by decide) hl.1 rfl rfl (Nat.le_of_ble_eq_true rfl) dX4_hours_5 (by decide) (fun r_1 hr_2 => ?_)
  replace hr_2 : r_1 = rh_ B v := hr_2
  subst r_1
  refine lv_istore_n (lv' := [(2, .int (rh_ B v)), (0, .ref (g 0)), (1, .int v)]) hx hb dX4_hours_8 rfl hl (by decide) rfl (fun ls hl => ?_)
  refine lv_iload_n hx hb dX4_hours_9 rfl (lv_at hl 0 rfl) ?_
  refine lv_if_eq (tgt := 19) hx hb dX4_hours_10 (by decide) (fun c_10 => ?_) (fun c_10 => ?_)
  · skip
    have w0 := c_10
    (try simp only [wS_, wSN_, wSNW_, wNW_, wTh_, f2_0, nb_0, ob_0, uk_0, lo_0, hi_0] at w0)
    obtain ⟨v_, hv_, rfl⟩ := rh_k c_10
    replace hl : lv_has ls 3 [(2, .int (rh_ B (nI v_))), (0, .ref (g 0)), (1, .int (nI v_))] := hl
    refine lv_aload_n hx hb dX4_hours_19 rfl (lv_at hl 1 rfl) ?_
    refine va_get (ci := 4) (C := RX4) (T := TX4) (N := 9) hx hb hts hinX4 hown hK.1 hP 0 rfl rfl 4 (by decide) (hts _ (List.mem_of_getElem? (i := 2) rfl)) (fun _ h9 => h9) rfl dX4_hours_20 ?_
    refine lv_aload_n hx hb dX4_hours_23 rfl (lv_at hl 1 rfl) ?_
    refine va_get (ci := 4) (C := RX4) (T := TX4) (N := 9) hx hb hts hinX4 hown hK.1 hP 0 rfl rfl 1 (by decide) (hts _ (List.mem_of_getElem? (i := 1) rfl)) (fun _ h9 => h9) rfl dX4_hours_24 ?_
    refine kMvN hx hb hml hown hts hK hP hD hA hS gX4_hours_X3_keep_n177 (hK.2 _ (List.mem_of_getElem? (i := 61) rfl)) (hts _ (List.mem_of_getElem? (i := 21) rfl)) (hts _ (List.mem_of_getElem? (i := 20) rfl)) (hts _ (List.mem_of_getElem? (i := 22) rfl)) okX3_keep (qX3_keep l D cI cB g la ct j B P (by omega) (by omega) (by omega)) [7, 8, 1, 2, 3, 4, 5, 6, 9, 10, 11, 12, 13, 14] rfl (by decide) (fun _ => rfl) rfl rfl rfl (by decide) hl.1 rfl rfl (Nat.le_of_ble_eq_true rfl) dX4_hours_27 (by decide) (fun u_4 H locs hw_5 hP hD hS => ?_)
    replace hP : va_P D vwCl (xO g hi tc ++ bW cI g 4 B ++ pW cB g j (mc8 ct) ++ bW cI g (28 + 6 * j) B ++ rW cI g rf) H := (va_P.m [false, true, true, true, true, true, true, false, false, true, true, true, true, true, true] [] (va_P.m [false, false, false, false, false, false, false, true, true] [1, 2, 3, 4, 5, 6, 9, 10, 11, 12, 13, 14] hP))
    replace hD : va_D A (xO g hi tc ++ bW cI g 4 B ++ pW cB g j (mc8 ct) ++ bW cI g (28 + 6 * j) B ++ rW cI g rf) := (va_D.m [false, true, true, true, true, true, true, false, false, true, true, true, true, true, true] [] (va_D.m [false, false, false, false, false, false, false, true, true] [1, 2, 3, 4, 5, 6, 9, 10, 11, 12, 13, 14] hD))
    refine lv_aload_n hx hb dX4_hours_30 rfl (lv_at hl 1 rfl) ?_
    refine va_get (ci := 4) (C := RX4) (T := TX4) (N := 9) hx hb hts hinX4 hown hK.1 hP 0 rfl rfl 1 (by decide) (hts _ (List.mem_of_getElem? (i := 1) rfl)) (fun _ h9 => h9) rfl dX4_hours_31 ?_
    refine lv_iload_n hx hb dX4_hours_34 rfl (lv_at hl 2 rfl) ?_
    refine kMvN hx hb hml hown hts hK hP hD hA hS gX4_hours_X0_passHours_n197 (hK.2 _ (List.mem_of_getElem? (i := 68) rfl)) (hts _ (List.mem_of_getElem? (i := 4) rfl)) (hts _ (List.mem_of_getElem? (i := 47) rfl)) (hts _ (List.mem_of_getElem? (i := 48) rfl)) okX0_passHours (qX0_passHours l D cI cB g 4 B v_ (by show sn_ B ≤ 7; omega) (by omega)) [1, 2, 3, 4, 5, 6] rfl (by decide) (fun _ => rfl) rfl rfl rfl (by decide) hl.1 rfl rfl (Nat.le_of_ble_eq_true rfl) dX4_hours_35 (by decide) (fun u_7 H locs hw_8 hP hD hS => ?_)
    replace hw_8 : u_7 = hs_ v_ B := hw_8
    subst u_7
    replace hP : va_P D vwCl (xO g hi tc ++ bW cI g 4 (hs_ v_ B) ++ pW cB g j (mc8 ct) ++ bW cI g (28 + 6 * j) B ++ rW cI g rf) H := (va_P.m [false, true, true, true, true, true, true] [] hP)
    replace hD : va_D A (xO g hi tc ++ bW cI g 4 (hs_ v_ B) ++ pW cB g j (mc8 ct) ++ bW cI g (28 + 6 * j) B ++ rW cI g rf) := (va_D.m [false, true, true, true, true, true, true] [] hD)
    refine lv_aload_n hx hb dX4_hours_38 rfl (lv_at hl 1 rfl) ?_
    refine va_get (ci := 4) (C := RX4) (T := TX4) (N := 9) hx hb hts hinX4 hown hK.1 hP 0 rfl rfl 1 (by decide) (hts _ (List.mem_of_getElem? (i := 1) rfl)) (fun _ h9 => h9) rfl dX4_hours_39 ?_
    refine va_getN (ci := 0) (C := RX0) (T := TX0) (N := 11) hx hb hts hinX0 hown hK.1 hP 1 rfl rfl 7 (by decide) (va_Nw.use rfl (hK.2 _ (List.mem_of_getElem? (i := 16) rfl))) (fun _ h9 => h9) rfl dX4_hours_42 ?_
    refine rMi hx hb hr hlk hS ((hs_ v_ B), rf, j, (mc8 ct), B) hP ?_ dX4_hours_45
    first | exact Or.inr ⟨c_10, rfl, rfl⟩ | (refine Or.inl ⟨c_10, ?_⟩; rw [tn_n (show v_ < 2147483648 by omega)]; exact ⟨rfl, rfl⟩)
  · skip
    refine lv_aload_n hx hb dX4_hours_13 rfl (lv_at hl 1 rfl) ?_
    refine lv_iload_n hx hb dX4_hours_14 rfl (lv_at hl 0 rfl) ?_
    refine kMiV hx hb hml hown hts hK hP hD hA hS gX4_hours_X4_refuse okX4_refuse (qX4_refuse l D cI cB g hi tc rf (rh_ B v) (rc0_n (by first | exact rc0_rs _ _ _ _ | exact rc0_rh _ _ | exact rc0_nb _ _ | exact rc0_f2 (rc0_nb _ _) (rc0_ob _ _ _) | exact rc0_f2 (rc0_uk _ _) (rc0_if (rc0_ob _ _ _) (rc0_ob _ _ _)) | exact rc0_f2 (rc0_ob _ _ _) (rc0_if (Or.inr (Or.inr (Or.inr (Or.inr (Or.inr rfl))))) (Or.inl rfl))) c_10)) [0, 15] rfl (by decide) (fun _ => rfl) rfl rfl rfl (by decide) hl.1 rfl rfl (Nat.le_of_ble_eq_true rfl) dX4_hours_15 (by decide) (fun r_9 u_10 H locs hw_11 hP hD hS => ?_)
    replace hw_11 : r_9 = rh_ B v ∧ u_10 = rfx_ rf (rh_ B v) := hw_11
    obtain ⟨hw_11a, hw_11b⟩ := hw_11
    subst r_9
    subst u_10
    replace hP : va_P D vwCl (xO g hi tc ++ bW cI g 4 B ++ pW cB g la ct ++ bW cI g (28 + 6 * j) P ++ rW cI g (rfx_ rf (rh_ B v))) H := (va_P.m [true, false, false, false, false, false, false, false, false, false, false, false, false, false, false, true] [] hP)
    replace hD : va_D A (xO g hi tc ++ bW cI g 4 B ++ pW cB g la ct ++ bW cI g (28 + 6 * j) P ++ rW cI g (rfx_ rf (rh_ B v))) := (va_D.m [true, false, false, false, false, false, false, false, false, false, false, false, false, false, false, true] [] hD)
    refine rMi hx hb hr hlk hS (B, (rfx_ rf (rh_ B v)), la, ct, P) hP ?_ dX4_hours_18
    first | exact Or.inr ⟨c_10, rfl, rfl⟩ | (refine Or.inl ⟨c_10, ?_⟩; rw [tn_n (show v_ < 2147483648 by omega)]; exact ⟨rfl, rfl⟩)

theorem okX4_back : jok yX4_back wsX4_back cX4_back 1 (some .int) 0 := ⟨⟨_, rfl⟩, by decide +kernel, by decide +kernel⟩
set_option maxHeartbeats 1000000 in
set_option maxRecDepth 100000 in
theorem qX4_back (l : Launch) (D : va_G) (cI cB : ClassId) (g : Nat → Nat) (hi : Int32) (tc : Nat) (B : BayT) (la : Nat) (ct : Nat) (P : BayT) (rf : Nat → Int32) (hla : la < 8) (hct : ct ≤ 8) : jMi D cI cB l yX4_back wsX4_back 3 [.ref (g 0)] (xO g hi tc ++ bW cI g 4 B ++ pW cB g la ct ++ bW cI g (28 + 6 * la) P ++ rW cI g rf) (S := BayT × (Nat → Int32) × Nat × Nat × BayT) (fun r u => ((if ct = 0 then (-3 : Int32) else 0) = 0 ∧ r = nI (ct - 1) ∧ u = (P, rf, (la + 7) % 8, ct - 1, P)) ∨ (¬ (if ct = 0 then (-3 : Int32) else 0) = 0 ∧ r = -3 ∧ u = (B, rfx_ rf (-3), la, ct, P))) (fun u => xO g hi tc ++ bW cI g 4 u.1 ++ pW cB g u.2.2.1 u.2.2.2.1 ++ bW cI g (28 + 6 * la) u.2.2.2.2 ++ rW cI g u.2.1) := by
  refine jMi.of (cc := cX4_back) (maxL := 1) (ret := (some .int)) okX4_back (Nat.le_of_ble_eq_true rfl) ?_
  intro p e s m below meth c ls A hx hb hr hts hown hlk hml hP hK hD hA hS hl
  replace hown : s.vm.findClass RX4 = some m.cls := hown
  replace hl : lv_has ls 1 [(0, .ref (g 0))] := hl
  have hinX3 : ∀ w ∈ wsX30, w ∈ wsX4_back := by decide +kernel
  have hinX4 : ∀ w ∈ wsX40, w ∈ wsX4_back := by decide +kernel
  refine lv_aload_n hx hb dX4_back_0 rfl (lv_at hl 0 rfl) ?_
  refine va_get (ci := 4) (C := RX4) (T := TX4) (N := 9) hx hb hts hinX4 hown hK.1 hP 0 rfl rfl 4 (by decide) (hts _ (List.mem_of_getElem? (i := 1) rfl)) (fun _ h9 => h9) rfl dX4_back_1 ?_
  refine va_getN (ci := 3) (C := RX3) (T := TX3) (N := 3) hx hb hts hinX3 hown hK.1 hP 7 rfl rfl 2 (by decide) (va_Nw.use rfl (hK.2 _ (List.mem_of_getElem? (i := 26) rfl))) (fun _ h9 => h9) rfl dX4_back_4 ?_
  refine lv_if_ne (tgt := 17) hx hb dX4_back_7 (by decide) (fun c_7 => ?_) (fun c_7 => ?_)
  · replace c_7 : ¬ nI ct = nI 0 := c_7
    rw [jeq (by omega) (by omega)] at c_7
    refine lv_aload_n hx hb dX4_back_17 rfl (lv_at hl 0 rfl) ?_
    refine va_get (ci := 4) (C := RX4) (T := TX4) (N := 9) hx hb hts hinX4 hown hK.1 hP 0 rfl rfl 4 (by decide) (hts _ (List.mem_of_getElem? (i := 1) rfl)) (fun _ h9 => h9) rfl dX4_back_18 ?_
    refine lv_aload_n hx hb dX4_back_21 rfl (lv_at hl 0 rfl) ?_
    refine va_get (ci := 4) (C := RX4) (T := TX4) (N := 9) hx hb hts hinX4 hown hK.1 hP 0 rfl rfl 1 (by decide) (hts _ (List.mem_of_getElem? (i := 2) rfl)) (fun _ h9 => h9) rfl dX4_back_22 ?_
    refine kMvN hx hb hml hown hts hK hP hD hA hS gX4_back_X3_takeBack_n200 (hK.2 _ (List.mem_of_getElem? (i := 69) rfl)) (hts _ (List.mem_of_getElem? (i := 10) rfl)) (hts _ (List.mem_of_getElem? (i := 9) rfl)) (hts _ (List.mem_of_getElem? (i := 11) rfl)) okX3_takeBack (qX3_takeBack l D cI cB g la ct B P hla ⟨hct, by omega⟩) [7, 8, 1, 2, 3, 4, 5, 6, 9, 10, 11, 12, 13, 14] rfl (by decide) (fun _ => rfl) rfl rfl rfl (by decide) hl.1 rfl rfl (Nat.le_of_ble_eq_true rfl) dX4_back_25 (by decide) (fun u_2 H locs hw_3 hP hD hS => ?_)
    replace hP : va_P D vwCl (xO g hi tc ++ bW cI g 4 P ++ pW cB g ((la + 7) % 8) (ct - 1) ++ bW cI g (28 + 6 * la) P ++ rW cI g rf) H := (va_P.m [false, true, true, true, true, true, true, false, false, true, true, true, true, true, true] [] (va_P.m [false, false, false, false, false, false, false, true, true] [1, 2, 3, 4, 5, 6, 9, 10, 11, 12, 13, 14] hP))
    replace hD : va_D A (xO g hi tc ++ bW cI g 4 P ++ pW cB g ((la + 7) % 8) (ct - 1) ++ bW cI g (28 + 6 * la) P ++ rW cI g rf) := (va_D.m [false, true, true, true, true, true, true, false, false, true, true, true, true, true, true] [] (va_D.m [false, false, false, false, false, false, false, true, true] [1, 2, 3, 4, 5, 6, 9, 10, 11, 12, 13, 14] hD))
    refine lv_aload_n hx hb dX4_back_28 rfl (lv_at hl 0 rfl) ?_
    refine va_get (ci := 4) (C := RX4) (T := TX4) (N := 9) hx hb hts hinX4 hown hK.1 hP 0 rfl rfl 4 (by decide) (hts _ (List.mem_of_getElem? (i := 1) rfl)) (fun _ h9 => h9) rfl dX4_back_29 ?_
    refine va_getN (ci := 3) (C := RX3) (T := TX3) (N := 3) hx hb hts hinX3 hown hK.1 hP 7 rfl rfl 2 (by decide) (va_Nw.use rfl (hK.2 _ (List.mem_of_getElem? (i := 26) rfl))) (fun _ h9 => h9) rfl dX4_back_32 ?_
    refine rMi hx hb hr hlk hS (P, rf, ((la + 7) % 8), (ct - 1), P) hP ?_ dX4_back_35
    first | exact Or.inr ⟨by rw [if_pos c_7]; decide, rfl, rfl⟩ | exact Or.inl ⟨if_neg c_7, rfl, rfl⟩
  · replace c_7 : nI ct = nI 0 := c_7
    rw [jeq (by omega) (by omega)] at c_7
    refine lv_aload_n hx hb dX4_back_10 rfl (lv_at hl 0 rfl) ?_
    refine lv_bipush (v := (-3)) hx hb dX4_back_11 (by decide) ?_
    refine kMiV hx hb hml hown hts hK hP hD hA hS gX4_back_X4_refuse okX4_refuse (qX4_refuse l D cI cB g hi tc rf (-3) (Or.inr (Or.inr (Or.inl rfl)))) [0, 15] rfl (by decide) (fun _ => rfl) rfl rfl rfl (by decide) hl.1 rfl rfl (Nat.le_of_ble_eq_true rfl) dX4_back_13 (by decide) (fun r_4 u_5 H locs hw_6 hP hD hS => ?_)
    replace hw_6 : r_4 = (-3) ∧ u_5 = rfx_ rf (-3) := hw_6
    obtain ⟨hw_6a, hw_6b⟩ := hw_6
    subst r_4
    subst u_5
    replace hP : va_P D vwCl (xO g hi tc ++ bW cI g 4 B ++ pW cB g la ct ++ bW cI g (28 + 6 * la) P ++ rW cI g (rfx_ rf (-3))) H := (va_P.m [true, false, false, false, false, false, false, false, false, false, false, false, false, false, false, true] [] hP)
    replace hD : va_D A (xO g hi tc ++ bW cI g 4 B ++ pW cB g la ct ++ bW cI g (28 + 6 * la) P ++ rW cI g (rfx_ rf (-3))) := (va_D.m [true, false, false, false, false, false, false, false, false, false, false, false, false, false, false, true] [] hD)
    refine rMi hx hb hr hlk hS (B, (rfx_ rf (-3)), la, ct, P) hP ?_ dX4_back_16
    first | exact Or.inr ⟨by rw [if_pos c_7]; decide, rfl, rfl⟩ | exact Or.inl ⟨if_neg c_7, rfl, rfl⟩

theorem okX4_image : jok yX4_image wsX4_image cX4_image 1 (some .int) 0 := ⟨⟨_, rfl⟩, by decide +kernel, by decide +kernel⟩
set_option maxHeartbeats 1000000 in
set_option maxRecDepth 100000 in
theorem qX4_image (l : Launch) (D : va_G) (cI cB : ClassId) (g : Nat → Nat) (hi : Int32) (tc : Nat) (B : BayT) (Q : BayT)  : jMi D cI cB l yX4_image wsX4_image 2 [.ref (g 0)] (xO g hi tc ++ bW cI g 4 B ++ bW cI g 20 Q) (S := Unit) (fun r u => r = dy_ B) (fun u => xO g 1 tc ++ bW cI g 4 B ++ bW cI g 20 B) := by
  refine jMi.of (cc := cX4_image) (maxL := 1) (ret := (some .int)) okX4_image (Nat.le_of_ble_eq_true rfl) ?_
  intro p e s m below meth c ls A hx hb hr hts hown hlk hml hP hK hD hA hS hl
  replace hown : s.vm.findClass RX4 = some m.cls := hown
  replace hl : lv_has ls 1 [(0, .ref (g 0))] := hl
  have hinX0 : ∀ w ∈ wsX00, w ∈ wsX4_image := by decide +kernel
  have hinX4 : ∀ w ∈ wsX40, w ∈ wsX4_image := by decide +kernel
  refine lv_aload_n hx hb dX4_image_0 rfl (lv_at hl 0 rfl) ?_
  refine va_get (ci := 4) (C := RX4) (T := TX4) (N := 9) hx hb hts hinX4 hown hK.1 hP 0 rfl rfl 2 (by decide) (hts _ (List.mem_of_getElem? (i := 1) rfl)) (fun _ h9 => h9) rfl dX4_image_1 ?_
  refine lv_aload_n hx hb dX4_image_4 rfl (lv_at hl 0 rfl) ?_
  refine va_get (ci := 4) (C := RX4) (T := TX4) (N := 9) hx hb hts hinX4 hown hK.1 hP 0 rfl rfl 1 (by decide) (hts _ (List.mem_of_getElem? (i := 2) rfl)) (fun _ h9 => h9) rfl dX4_image_5 ?_
  refine kMvN hx hb hml hown hts hK hP hD hA hS gX4_image_X0_become_n108 (hK.2 _ (List.mem_of_getElem? (i := 51) rfl)) (hts _ (List.mem_of_getElem? (i := 5) rfl)) (hts _ (List.mem_of_getElem? (i := 4) rfl)) (hts _ (List.mem_of_getElem? (i := 6) rfl)) okX0_become (qX0_become l D cI cB g 20 4 Q B ) [7, 8, 9, 10, 11, 12, 1, 2, 3, 4, 5, 6] rfl (by decide) (fun _ => rfl) rfl rfl rfl (by decide) hl.1 rfl rfl (Nat.le_of_ble_eq_true rfl) dX4_image_8 (by decide) (fun u_2 H locs hw_3 hP hD hS => ?_)
  replace hw_3 : u_2 = B := hw_3
  subst u_2
  replace hP : va_P D vwCl (xO g hi tc ++ bW cI g 4 B ++ bW cI g 20 B) H := (va_P.m [false, true, true, true, true, true, true] [] (va_P.m [false, false, false, false, false, false, false, true, true, true, true, true, true] [1, 2, 3, 4, 5, 6] hP))
  replace hD : va_D A (xO g hi tc ++ bW cI g 4 B ++ bW cI g 20 B) := (va_D.m [false, true, true, true, true, true, true] [] (va_D.m [false, false, false, false, false, false, false, true, true, true, true, true, true] [1, 2, 3, 4, 5, 6] hD))
  refine lv_aload_n hx hb dX4_image_11 rfl (lv_at hl 0 rfl) ?_
  refine lv_iconst (v := 1) hx hb dX4_image_12 (by decide) ?_
  refine va_put (ci := 4) (ty := .boolean) (C := RX4) (T := TX4) (N := 9) hx hb hts hinX4 tyX4 tyX4_ok nmX4 hown hK.1 hP hD hS 0 rfl rfl 3 (by decide) (hts _ (List.mem_of_getElem? (i := 3) rfl)) (fun _ h9 => h9) rfl (by decide +kernel) (rfl) (rfl) (Nat.le_of_ble_eq_true rfl) dX4_image_13 (fun H locs hP hD hS => ?_)
  replace hP : va_P D vwCl (xO g 1 tc ++ bW cI g 4 B ++ bW cI g 20 B) H := hP
  replace hD : va_D A (xO g 1 tc ++ bW cI g 4 B ++ bW cI g 20 B) := hD
  refine lv_aload_n hx hb dX4_image_16 rfl (lv_at hl 0 rfl) ?_
  refine va_get (ci := 4) (C := RX4) (T := TX4) (N := 9) hx hb hts hinX4 hown hK.1 hP 0 rfl rfl 1 (by decide) (hts _ (List.mem_of_getElem? (i := 2) rfl)) (fun _ h9 => h9) rfl dX4_image_17 ?_
  refine va_getN (ci := 0) (C := RX0) (T := TX0) (N := 11) hx hb hts hinX0 hown hK.1 hP 1 rfl rfl 10 (by decide) (va_Nw.use rfl (hK.2 _ (List.mem_of_getElem? (i := 21) rfl))) (fun _ h9 => h9) rfl dX4_image_20 ?_
  refine rMi hx hb hr hlk hS () hP ?_ dX4_image_23
  rfl

theorem okX4_restore : jok yX4_restore wsX4_restore cX4_restore 1 (some .int) 0 := ⟨⟨_, rfl⟩, by decide +kernel, by decide +kernel⟩
set_option maxHeartbeats 1000000 in
set_option maxRecDepth 100000 in
theorem qX4_restore (l : Launch) (D : va_G) (cI cB : ClassId) (g : Nat → Nat) (hi : Int32) (tc : Nat) (B : BayT) (Q : BayT) (la : Nat) (ct : Nat) (rf : Nat → Int32)  : jMi D cI cB l yX4_restore wsX4_restore 2 [.ref (g 0)] (xO g hi tc ++ bW cI g 4 B ++ bW cI g 20 Q ++ pW cB g la ct ++ rW cI g rf) (S := BayT × (Nat → Int32) × Nat) (fun r u => ((if hi = 0 then (-3 : Int32) else 0) = 0 ∧ r = dy_ Q ∧ u = (Q, rf, 0)) ∨ (¬ (if hi = 0 then (-3 : Int32) else 0) = 0 ∧ r = -3 ∧ u = (B, rfx_ rf (-3), ct))) (fun u => xO g hi tc ++ bW cI g 4 u.1 ++ bW cI g 20 Q ++ pW cB g la u.2.2 ++ rW cI g u.2.1) := by
  refine jMi.of (cc := cX4_restore) (maxL := 1) (ret := (some .int)) okX4_restore (Nat.le_of_ble_eq_true rfl) ?_
  intro p e s m below meth c ls A hx hb hr hts hown hlk hml hP hK hD hA hS hl
  replace hown : s.vm.findClass RX4 = some m.cls := hown
  replace hl : lv_has ls 1 [(0, .ref (g 0))] := hl
  have hinX0 : ∀ w ∈ wsX00, w ∈ wsX4_restore := by decide +kernel
  have hinX3 : ∀ w ∈ wsX30, w ∈ wsX4_restore := by decide +kernel
  have hinX4 : ∀ w ∈ wsX40, w ∈ wsX4_restore := by decide +kernel
  refine lv_aload_n hx hb dX4_restore_0 rfl (lv_at hl 0 rfl) ?_
  refine va_get (ci := 4) (C := RX4) (T := TX4) (N := 9) hx hb hts hinX4 hown hK.1 hP 0 rfl rfl 3 (by decide) (hts _ (List.mem_of_getElem? (i := 1) rfl)) (fun _ h9 => h9) rfl dX4_restore_1 ?_
  refine lv_if_ne (tgt := 14) hx hb dX4_restore_4 (by decide) (fun c_4 => ?_) (fun c_4 => ?_)
  · skip
    refine lv_aload_n hx hb dX4_restore_14 rfl (lv_at hl 0 rfl) ?_
    refine va_get (ci := 4) (C := RX4) (T := TX4) (N := 9) hx hb hts hinX4 hown hK.1 hP 0 rfl rfl 1 (by decide) (hts _ (List.mem_of_getElem? (i := 2) rfl)) (fun _ h9 => h9) rfl dX4_restore_15 ?_
    refine lv_aload_n hx hb dX4_restore_18 rfl (lv_at hl 0 rfl) ?_
    refine va_get (ci := 4) (C := RX4) (T := TX4) (N := 9) hx hb hts hinX4 hown hK.1 hP 0 rfl rfl 2 (by decide) (hts _ (List.mem_of_getElem? (i := 3) rfl)) (fun _ h9 => h9) rfl dX4_restore_19 ?_
    refine kMvN hx hb hml hown hts hK hP hD hA hS gX4_restore_X0_become_n108 (hK.2 _ (List.mem_of_getElem? (i := 51) rfl)) (hts _ (List.mem_of_getElem? (i := 12) rfl)) (hts _ (List.mem_of_getElem? (i := 11) rfl)) (hts _ (List.mem_of_getElem? (i := 13) rfl)) okX0_become (qX0_become l D cI cB g 4 20 B Q ) [1, 2, 3, 4, 5, 6, 7, 8, 9, 10, 11, 12] rfl (by decide) (fun _ => rfl) rfl rfl rfl (by decide) hl.1 rfl rfl (Nat.le_of_ble_eq_true rfl) dX4_restore_22 (by decide) (fun u_2 H locs hw_3 hP hD hS => ?_)
    replace hw_3 : u_2 = Q := hw_3
    subst u_2
    replace hP : va_P D vwCl (xO g hi tc ++ bW cI g 4 Q ++ bW cI g 20 Q ++ pW cB g la ct ++ rW cI g rf) H := (va_P.m [false, true, true, true, true, true, true, true, true, true, true, true, true] [] hP)
    replace hD : va_D A (xO g hi tc ++ bW cI g 4 Q ++ bW cI g 20 Q ++ pW cB g la ct ++ rW cI g rf) := (va_D.m [false, true, true, true, true, true, true, true, true, true, true, true, true] [] hD)
    refine lv_aload_n hx hb dX4_restore_25 rfl (lv_at hl 0 rfl) ?_
    refine va_get (ci := 4) (C := RX4) (T := TX4) (N := 9) hx hb hts hinX4 hown hK.1 hP 0 rfl rfl 4 (by decide) (hts _ (List.mem_of_getElem? (i := 4) rfl)) (fun _ h9 => h9) rfl dX4_restore_26 ?_
    refine lv_iconst (v := 0) hx hb dX4_restore_29 (by decide) ?_
    refine va_putN (ci := 3) (ty := .int) (C := RX3) (T := TX3) (N := 3) hx hb hts hinX3 tyX3 tyX3_ok nmX3 hown hK.1 hP hD hS 13 rfl rfl 2 (by decide) (va_Nw.use rfl (hK.2 _ (List.mem_of_getElem? (i := 26) rfl))) (fun _ h9 => h9) rfl (by decide +kernel) (rfl) (rfl) (Nat.le_of_ble_eq_true rfl) dX4_restore_30 (fun H locs hP hD hS => ?_)
    replace hP : va_P D vwCl (xO g hi tc ++ bW cI g 4 Q ++ bW cI g 20 Q ++ pW cB g la 0 ++ rW cI g rf) H := hP
    replace hD : va_D A (xO g hi tc ++ bW cI g 4 Q ++ bW cI g 20 Q ++ pW cB g la 0 ++ rW cI g rf) := hD
    refine lv_aload_n hx hb dX4_restore_33 rfl (lv_at hl 0 rfl) ?_
    refine va_get (ci := 4) (C := RX4) (T := TX4) (N := 9) hx hb hts hinX4 hown hK.1 hP 0 rfl rfl 1 (by decide) (hts _ (List.mem_of_getElem? (i := 2) rfl)) (fun _ h9 => h9) rfl dX4_restore_34 ?_
    refine va_getN (ci := 0) (C := RX0) (T := TX0) (N := 11) hx hb hts hinX0 hown hK.1 hP 1 rfl rfl 10 (by decide) (va_Nw.use rfl (hK.2 _ (List.mem_of_getElem? (i := 21) rfl))) (fun _ h9 => h9) rfl dX4_restore_37 ?_
    refine rMi hx hb hr hlk hS (Q, rf, 0) hP ?_ dX4_restore_40
    first | exact Or.inr ⟨by rw [if_pos c_4]; decide, rfl, rfl⟩ | exact Or.inl ⟨if_neg c_4, rfl, rfl⟩
  · skip
    refine lv_aload_n hx hb dX4_restore_7 rfl (lv_at hl 0 rfl) ?_
    refine lv_bipush (v := (-3)) hx hb dX4_restore_8 (by decide) ?_
    refine kMiV hx hb hml hown hts hK hP hD hA hS gX4_restore_X4_refuse okX4_refuse (qX4_refuse l D cI cB g hi tc rf (-3) (Or.inr (Or.inr (Or.inl rfl)))) [0, 15] rfl (by decide) (fun _ => rfl) rfl rfl rfl (by decide) hl.1 rfl rfl (Nat.le_of_ble_eq_true rfl) dX4_restore_10 (by decide) (fun r_4 u_5 H locs hw_6 hP hD hS => ?_)
    replace hw_6 : r_4 = (-3) ∧ u_5 = rfx_ rf (-3) := hw_6
    obtain ⟨hw_6a, hw_6b⟩ := hw_6
    subst r_4
    subst u_5
    replace hP : va_P D vwCl (xO g hi tc ++ bW cI g 4 B ++ bW cI g 20 Q ++ pW cB g la ct ++ rW cI g (rfx_ rf (-3))) H := (va_P.m [true, false, false, false, false, false, false, false, false, false, false, false, false, false, false, true] [] hP)
    replace hD : va_D A (xO g hi tc ++ bW cI g 4 B ++ bW cI g 20 Q ++ pW cB g la ct ++ rW cI g (rfx_ rf (-3))) := (va_D.m [true, false, false, false, false, false, false, false, false, false, false, false, false, false, false, true] [] hD)
    refine rMi hx hb hr hlk hS (B, (rfx_ rf (-3)), ct) hP ?_ dX4_restore_13
    first | exact Or.inr ⟨by rw [if_pos c_4]; decide, rfl, rfl⟩ | exact Or.inl ⟨if_neg c_4, rfl, rfl⟩

theorem okX4_feed : jok yX4_feed wsX4_feed cX4_feed 3 (some .int) 1 := ⟨⟨_, rfl⟩, by decide +kernel, by decide +kernel⟩
set_option maxHeartbeats 1000000 in
set_option maxRecDepth 100000 in
theorem qX4_feed (l : Launch) (D : va_G) (cI cB : ClassId) (g : Nat → Nat) (hi : Int32) (tc : Nat) (L : Nat → Int32) (ln : Nat) (rf : Nat → Int32) (v : Int32) (hln : ln ≤ 96) : jMi D cI cB l yX4_feed wsX4_feed 2 [.ref (g 0), .int v] (xO g hi tc ++ lW cI g L ln ++ rW cI g rf) (S := (Nat → Int32) × Nat × (Nat → Int32)) (fun r u => (f2_ (ob_ v 0 255) (if 96 ≤ ln then -6 else 0) = 0 ∧ r = nI (ln + 1) ∧ u = (upd L ln v, ln + 1, rf)) ∨ (¬ f2_ (ob_ v 0 255) (if 96 ≤ ln then -6 else 0) = 0 ∧ r = f2_ (ob_ v 0 255) (if 96 ≤ ln then -6 else 0) ∧ u = (L, ln, rfx_ rf (f2_ (ob_ v 0 255) (if 96 ≤ ln then -6 else 0))))) (fun u => xO g hi tc ++ lW cI g u.1 u.2.1 ++ rW cI g u.2.2) := by
  refine jMi.of (cc := cX4_feed) (maxL := 3) (ret := (some .int)) okX4_feed (Nat.le_of_ble_eq_true rfl) ?_
  intro p e s m below meth c ls A hx hb hr hts hown hlk hml hP hK hD hA hS hl
  replace hown : s.vm.findClass RX4 = some m.cls := hown
  replace hl : lv_has ls 3 [(0, .ref (g 0)), (1, .int v)] := hl
  have hinX4 : ∀ w ∈ wsX40, w ∈ wsX4_feed := by decide +kernel
  refine lv_iload_n hx hb dX4_feed_0 rfl (lv_at hl 1 rfl) ?_
  refine lv_iconst (v := 0) hx hb dX4_feed_1 (by decide) ?_
  refine lv_sipush (v := 255) hx hb dX4_feed_2 (by decide) ?_
  refine kSiS hx hb hml hown hts hK hP gX4_feed_X4_outside okX4_outside (qX4_outside l D cI cB v 0 255 ) [] rfl (by decide) hl.1 rfl rfl (Nat.le_of_ble_eq_true rfl) dX4_feed_5 (by decide) (fun r_1 hr_2 => ?_)
  replace hr_2 : r_1 = ob_ v 0 255 := hr_2
  subst r_1
  refine lv_aload_n hx hb dX4_feed_8 rfl (lv_at hl 0 rfl) ?_
  refine va_get (ci := 4) (C := RX4) (T := TX4) (N := 9) hx hb hts hinX4 hown hK.1 hP 0 rfl rfl 5 (by decide) (hts _ (List.mem_of_getElem? (i := 1) rfl)) (fun _ h9 => h9) rfl dX4_feed_9 ?_
  refine kSiN hx hb hml hown hts hK hP gX4_feed_X1_isFull_n72 (hK.2 _ (List.mem_of_getElem? (i := 29) rfl)) (hts _ (List.mem_of_getElem? (i := 10) rfl)) (hts _ (List.mem_of_getElem? (i := 9) rfl)) (hts _ (List.mem_of_getElem? (i := 11) rfl)) okX1_isFull (qX1_isFull l D cI cB g L ln (by omega)) [1, 2] rfl rfl rfl rfl (by decide) hl.1 rfl rfl (Nat.le_of_ble_eq_true rfl) dX4_feed_12 (by decide) (fun r_3 hr_4 => ?_)
  replace hr_4 : r_3 = b1 (96 ≤ ln) := hr_4
  subst r_3
  refine lv_if_eq (tgt := 23) hx hb dX4_feed_15 (by decide) (fun c_15 => ?_) (fun c_15 => ?_)
  · replace c_15 := b1_z c_15
    refine lv_iconst (v := 0) hx hb dX4_feed_23 (by decide) ?_
    refine kSiS hx hb hml hown hts hK hP gX4_feed_X4_firstOf okX4_firstOf (qX4_firstOf l D cI cB (ob_ v 0 255) 0 ) [] rfl (by decide) hl.1 rfl rfl (Nat.le_of_ble_eq_true rfl) dX4_feed_24 (by decide) (fun r_5 hr_6 => ?_)
    replace hr_6 : r_5 = f2_ (ob_ v 0 255) 0 := hr_6
    subst r_5
    refine lv_istore_n (lv' := [(2, .int (f2_ (ob_ v 0 255) 0)), (0, .ref (g 0)), (1, .int v)]) hx hb dX4_feed_27 rfl hl (by decide) rfl (fun ls hl => ?_)
    refine lv_iload_n hx hb dX4_feed_28 rfl (lv_at hl 0 rfl) ?_
    refine lv_if_eq (tgt := 40) hx hb dX4_feed_29 (by decide) (fun c_29 => ?_) (fun c_29 => ?_)
    · skip
      refine lv_aload_n hx hb dX4_feed_40 rfl (lv_at hl 1 rfl) ?_
      refine va_get (ci := 4) (C := RX4) (T := TX4) (N := 9) hx hb hts hinX4 hown hK.1 hP 0 rfl rfl 5 (by decide) (hts _ (List.mem_of_getElem? (i := 1) rfl)) (fun _ h9 => h9) rfl dX4_feed_41 ?_
      refine lv_iload_n hx hb dX4_feed_44 rfl (lv_at hl 2 rfl) ?_
      have hf : ln < 96 := by first | omega | (exfalso; rw [f2_0] at c_29; exact absurd c_29.2 (by decide))
      refine kMiN hx hb hml hown hts hK hP hD hA hS gX4_feed_X1_write_n80 (hK.2 _ (List.mem_of_getElem? (i := 30) rfl)) (hts _ (List.mem_of_getElem? (i := 10) rfl)) (hts _ (List.mem_of_getElem? (i := 22) rfl)) (hts _ (List.mem_of_getElem? (i := 23) rfl)) okX1_write (qX1_write l D cI cB g L ln v (by omega) hf) [1, 2] rfl (by decide) (fun _ => rfl) rfl rfl rfl (by decide) hl.1 rfl rfl (Nat.le_of_ble_eq_true rfl) dX4_feed_45 (by decide) (fun r_7 u_8 H locs hw_9 hP hD hS => ?_)
      replace hw_9 : r_7 = nI (ln + 1) := hw_9
      subst r_7
      replace hP : va_P D vwCl (xO g hi tc ++ lW cI g (upd L ln v) (ln + 1) ++ rW cI g rf) H := (va_P.m [false, true, true] [] hP)
      replace hD : va_D A (xO g hi tc ++ lW cI g (upd L ln v) (ln + 1) ++ rW cI g rf) := (va_D.m [false, true, true] [] hD)
      refine rMi hx hb hr hlk hS ((upd L ln v), (ln + 1), rf) hP ?_ dX4_feed_48
      first | exact Or.inr ⟨(by first | rw [if_pos c_15]; exact c_29 | rw [if_neg c_15]; exact c_29), (by first | rw [if_pos c_15] | rw [if_neg c_15]), (by first | rw [if_pos c_15] | rw [if_neg c_15])⟩ | exact Or.inl ⟨(by first | rw [if_pos c_15]; exact c_29 | rw [if_neg c_15]; exact c_29), rfl, rfl⟩
    · skip
      refine lv_aload_n hx hb dX4_feed_32 rfl (lv_at hl 1 rfl) ?_
      refine lv_iload_n hx hb dX4_feed_33 rfl (lv_at hl 0 rfl) ?_
      refine kMiV hx hb hml hown hts hK hP hD hA hS gX4_feed_X4_refuse okX4_refuse (qX4_refuse l D cI cB g hi tc rf (f2_ (ob_ v 0 255) 0) (rc0_n (rc0_f2 (rc0_ob _ _ _) (by first | exact Or.inl rfl | exact Or.inr (Or.inr (Or.inr (Or.inr (Or.inr rfl)))))) c_29)) [0, 3] rfl (by decide) (fun _ => rfl) rfl rfl rfl (by decide) hl.1 rfl rfl (Nat.le_of_ble_eq_true rfl) dX4_feed_34 (by decide) (fun r_10 u_11 H locs hw_12 hP hD hS => ?_)
      replace hw_12 : r_10 = f2_ (ob_ v 0 255) 0 ∧ u_11 = rfx_ rf (f2_ (ob_ v 0 255) 0) := hw_12
      obtain ⟨hw_12a, hw_12b⟩ := hw_12
      subst r_10
      subst u_11
      replace hP : va_P D vwCl (xO g hi tc ++ lW cI g L ln ++ rW cI g (rfx_ rf (f2_ (ob_ v 0 255) 0))) H := (va_P.m [true, false, false, true] [] hP)
      replace hD : va_D A (xO g hi tc ++ lW cI g L ln ++ rW cI g (rfx_ rf (f2_ (ob_ v 0 255) 0))) := (va_D.m [true, false, false, true] [] hD)
      refine lv_goto (tgt := 48) hx hb dX4_feed_37 (by decide) ?_
      refine rMi hx hb hr hlk hS (L, ln, (rfx_ rf (f2_ (ob_ v 0 255) 0))) hP ?_ dX4_feed_48
      first | exact Or.inr ⟨(by first | rw [if_pos c_15]; exact c_29 | rw [if_neg c_15]; exact c_29), (by first | rw [if_pos c_15] | rw [if_neg c_15]), (by first | rw [if_pos c_15] | rw [if_neg c_15])⟩ | exact Or.inl ⟨(by first | rw [if_pos c_15]; exact c_29 | rw [if_neg c_15]; exact c_29), rfl, rfl⟩
  · replace c_15 := b1_n c_15
    refine lv_bipush (v := (-6)) hx hb dX4_feed_18 (by decide) ?_
    refine lv_goto (tgt := 24) hx hb dX4_feed_20 (by decide) ?_
    refine kSiS hx hb hml hown hts hK hP gX4_feed_X4_firstOf okX4_firstOf (qX4_firstOf l D cI cB (ob_ v 0 255) (-6) ) [] rfl (by decide) hl.1 rfl rfl (Nat.le_of_ble_eq_true rfl) dX4_feed_24 (by decide) (fun r_13 hr_14 => ?_)
    replace hr_14 : r_13 = f2_ (ob_ v 0 255) (-6) := hr_14
    subst r_13
    refine lv_istore_n (lv' := [(2, .int (f2_ (ob_ v 0 255) (-6))), (0, .ref (g 0)), (1, .int v)]) hx hb dX4_feed_27 rfl hl (by decide) rfl (fun ls hl => ?_)
    refine lv_iload_n hx hb dX4_feed_28 rfl (lv_at hl 0 rfl) ?_
    refine lv_if_eq (tgt := 40) hx hb dX4_feed_29 (by decide) (fun c_29 => ?_) (fun c_29 => ?_)
    · skip
      refine lv_aload_n hx hb dX4_feed_40 rfl (lv_at hl 1 rfl) ?_
      refine va_get (ci := 4) (C := RX4) (T := TX4) (N := 9) hx hb hts hinX4 hown hK.1 hP 0 rfl rfl 5 (by decide) (hts _ (List.mem_of_getElem? (i := 1) rfl)) (fun _ h9 => h9) rfl dX4_feed_41 ?_
      refine lv_iload_n hx hb dX4_feed_44 rfl (lv_at hl 2 rfl) ?_
      have hf : ln < 96 := by first | omega | (exfalso; rw [f2_0] at c_29; exact absurd c_29.2 (by decide))
      refine kMiN hx hb hml hown hts hK hP hD hA hS gX4_feed_X1_write_n80 (hK.2 _ (List.mem_of_getElem? (i := 30) rfl)) (hts _ (List.mem_of_getElem? (i := 10) rfl)) (hts _ (List.mem_of_getElem? (i := 22) rfl)) (hts _ (List.mem_of_getElem? (i := 23) rfl)) okX1_write (qX1_write l D cI cB g L ln v (by omega) hf) [1, 2] rfl (by decide) (fun _ => rfl) rfl rfl rfl (by decide) hl.1 rfl rfl (Nat.le_of_ble_eq_true rfl) dX4_feed_45 (by decide) (fun r_15 u_16 H locs hw_17 hP hD hS => ?_)
      replace hw_17 : r_15 = nI (ln + 1) := hw_17
      subst r_15
      replace hP : va_P D vwCl (xO g hi tc ++ lW cI g (upd L ln v) (ln + 1) ++ rW cI g rf) H := (va_P.m [false, true, true] [] hP)
      replace hD : va_D A (xO g hi tc ++ lW cI g (upd L ln v) (ln + 1) ++ rW cI g rf) := (va_D.m [false, true, true] [] hD)
      refine rMi hx hb hr hlk hS ((upd L ln v), (ln + 1), rf) hP ?_ dX4_feed_48
      first | exact Or.inr ⟨(by first | rw [if_pos c_15]; exact c_29 | rw [if_neg c_15]; exact c_29), (by first | rw [if_pos c_15] | rw [if_neg c_15]), (by first | rw [if_pos c_15] | rw [if_neg c_15])⟩ | exact Or.inl ⟨(by first | rw [if_pos c_15]; exact c_29 | rw [if_neg c_15]; exact c_29), rfl, rfl⟩
    · skip
      refine lv_aload_n hx hb dX4_feed_32 rfl (lv_at hl 1 rfl) ?_
      refine lv_iload_n hx hb dX4_feed_33 rfl (lv_at hl 0 rfl) ?_
      refine kMiV hx hb hml hown hts hK hP hD hA hS gX4_feed_X4_refuse okX4_refuse (qX4_refuse l D cI cB g hi tc rf (f2_ (ob_ v 0 255) (-6)) (rc0_n (rc0_f2 (rc0_ob _ _ _) (by first | exact Or.inl rfl | exact Or.inr (Or.inr (Or.inr (Or.inr (Or.inr rfl)))))) c_29)) [0, 3] rfl (by decide) (fun _ => rfl) rfl rfl rfl (by decide) hl.1 rfl rfl (Nat.le_of_ble_eq_true rfl) dX4_feed_34 (by decide) (fun r_18 u_19 H locs hw_20 hP hD hS => ?_)
      replace hw_20 : r_18 = f2_ (ob_ v 0 255) (-6) ∧ u_19 = rfx_ rf (f2_ (ob_ v 0 255) (-6)) := hw_20
      obtain ⟨hw_20a, hw_20b⟩ := hw_20
      subst r_18
      subst u_19
      replace hP : va_P D vwCl (xO g hi tc ++ lW cI g L ln ++ rW cI g (rfx_ rf (f2_ (ob_ v 0 255) (-6)))) H := (va_P.m [true, false, false, true] [] hP)
      replace hD : va_D A (xO g hi tc ++ lW cI g L ln ++ rW cI g (rfx_ rf (f2_ (ob_ v 0 255) (-6)))) := (va_D.m [true, false, false, true] [] hD)
      refine lv_goto (tgt := 48) hx hb dX4_feed_37 (by decide) ?_
      refine rMi hx hb hr hlk hS (L, ln, (rfx_ rf (f2_ (ob_ v 0 255) (-6)))) hP ?_ dX4_feed_48
      first | exact Or.inr ⟨(by first | rw [if_pos c_15]; exact c_29 | rw [if_neg c_15]; exact c_29), (by first | rw [if_pos c_15] | rw [if_neg c_15]), (by first | rw [if_pos c_15] | rw [if_neg c_15])⟩ | exact Or.inl ⟨(by first | rw [if_pos c_15]; exact c_29 | rw [if_neg c_15]; exact c_29), rfl, rfl⟩

theorem okX4_row : jok yX4_row wsX4_row cX4_row 3 (some .int) 1 := ⟨⟨_, rfl⟩, by decide +kernel, by decide +kernel⟩
set_option maxHeartbeats 1000000 in
set_option maxRecDepth 100000 in
theorem qX4_row (l : Launch) (D : va_G) (cI cB : ClassId) (g : Nat → Nat) (hi : Int32) (tc : Nat) (f : Nat → Int32) (rf : Nat → Int32) (v : Int32) (htc : tc ≤ 12) : jMi D cI cB l yX4_row wsX4_row 2 [.ref (g 0), .int v] (xO g hi tc ++ [(g 16, .inl (cI, 12, .inl f))] ++ rW cI g rf) (S := Nat × (Nat → Int32) × (Nat → Int32)) (fun r u => (f2_ (ob_ v 0 99) (if 12 ≤ tc then -6 else 0) = 0 ∧ r = nI (tc + 1) ∧ u = (tc + 1, upd f tc v, rf)) ∨ (¬ f2_ (ob_ v 0 99) (if 12 ≤ tc then -6 else 0) = 0 ∧ r = f2_ (ob_ v 0 99) (if 12 ≤ tc then -6 else 0) ∧ u = (tc, f, rfx_ rf (f2_ (ob_ v 0 99) (if 12 ≤ tc then -6 else 0))))) (fun u => xO g hi u.1 ++ [(g 16, .inl (cI, 12, .inl u.2.1))] ++ rW cI g u.2.2) := by
  refine jMi.of (cc := cX4_row) (maxL := 3) (ret := (some .int)) okX4_row (Nat.le_of_ble_eq_true rfl) ?_
  intro p e s m below meth c ls A hx hb hr hts hown hlk hml hP hK hD hA hS hl
  replace hown : s.vm.findClass RX4 = some m.cls := hown
  replace hl : lv_has ls 3 [(0, .ref (g 0)), (1, .int v)] := hl
  have hinX4 : ∀ w ∈ wsX40, w ∈ wsX4_row := by decide +kernel
  refine lv_iload_n hx hb dX4_row_0 rfl (lv_at hl 1 rfl) ?_
  refine lv_iconst (v := 0) hx hb dX4_row_1 (by decide) ?_
  refine lv_bipush (v := 99) hx hb dX4_row_2 (by decide) ?_
  refine kSiS hx hb hml hown hts hK hP gX4_row_X4_outside okX4_outside (qX4_outside l D cI cB v 0 99 ) [] rfl (by decide) hl.1 rfl rfl (Nat.le_of_ble_eq_true rfl) dX4_row_4 (by decide) (fun r_1 hr_2 => ?_)
  replace hr_2 : r_1 = ob_ v 0 99 := hr_2
  subst r_1
  refine lv_aload_n hx hb dX4_row_7 rfl (lv_at hl 0 rfl) ?_
  refine va_get (ci := 4) (C := RX4) (T := TX4) (N := 9) hx hb hts hinX4 hown hK.1 hP 0 rfl rfl 7 (by decide) (hts _ (List.mem_of_getElem? (i := 1) rfl)) (fun _ h9 => h9) rfl dX4_row_8 ?_
  refine lv_bipush (v := 12) hx hb dX4_row_11 (by decide) ?_
  refine lv_icmp_lt (tgt := 21) hx hb dX4_row_13 (by decide) (fun c_13 => ?_) (fun c_13 => ?_)
  · replace c_13 : nI tc < nI 12 := c_13
    rw [jlt (by omega) (by omega)] at c_13
    refine lv_iconst (v := 0) hx hb dX4_row_21 (by decide) ?_
    refine kSiS hx hb hml hown hts hK hP gX4_row_X4_firstOf okX4_firstOf (qX4_firstOf l D cI cB (ob_ v 0 99) 0 ) [] rfl (by decide) hl.1 rfl rfl (Nat.le_of_ble_eq_true rfl) dX4_row_22 (by decide) (fun r_3 hr_4 => ?_)
    replace hr_4 : r_3 = f2_ (ob_ v 0 99) 0 := hr_4
    subst r_3
    refine lv_istore_n (lv' := [(2, .int (f2_ (ob_ v 0 99) 0)), (0, .ref (g 0)), (1, .int v)]) hx hb dX4_row_25 rfl hl (by decide) rfl (fun ls hl => ?_)
    refine lv_iload_n hx hb dX4_row_26 rfl (lv_at hl 0 rfl) ?_
    refine lv_if_eq (tgt := 36) hx hb dX4_row_27 (by decide) (fun c_27 => ?_) (fun c_27 => ?_)
    · skip
      refine lv_aload_n hx hb dX4_row_36 rfl (lv_at hl 1 rfl) ?_
      refine va_get (ci := 4) (C := RX4) (T := TX4) (N := 9) hx hb hts hinX4 hown hK.1 hP 0 rfl rfl 6 (by decide) (hts _ (List.mem_of_getElem? (i := 2) rfl)) (fun _ h9 => h9) rfl dX4_row_37 ?_
      refine lv_aload_n hx hb dX4_row_40 rfl (lv_at hl 1 rfl) ?_
      refine va_get (ci := 4) (C := RX4) (T := TX4) (N := 9) hx hb hts hinX4 hown hK.1 hP 0 rfl rfl 7 (by decide) (hts _ (List.mem_of_getElem? (i := 1) rfl)) (fun _ h9 => h9) rfl dX4_row_41 ?_
      refine lv_iload_n hx hb dX4_row_44 rfl (lv_at hl 2 rfl) ?_
      have hf : tc < 12 := by first | omega | (exfalso; rw [f2_0] at c_27; exact absurd c_27.2 (by decide))
      refine jast hx hb hK.1 hP hD hS 1 0 tc rfl rfl rfl (by omega) (Nat.le_of_ble_eq_true rfl) dX4_row_45 (fun f_5 ef_5 H locs hP hD hS => ?_)
      replace ef_5 : f_5 = upd f tc v := ef_5
      replace hP : va_P D vwCl (xO g hi tc ++ [(g 16, .inl (cI, 12, .inl f_5))] ++ rW cI g rf) H := hP
      replace hD : va_D A (xO g hi tc ++ [(g 16, .inl (cI, 12, .inl f_5))] ++ rW cI g rf) := hD
      refine lv_aload_n hx hb dX4_row_46 rfl (lv_at hl 1 rfl) ?_
      refine lv_dup hx hb dX4_row_47 rfl ?_
      refine va_get (ci := 4) (C := RX4) (T := TX4) (N := 9) hx hb hts hinX4 hown hK.1 hP 0 rfl rfl 7 (by decide) (hts _ (List.mem_of_getElem? (i := 1) rfl)) (fun _ h9 => h9) rfl dX4_row_48 ?_
      refine lv_iconst (v := 1) hx hb dX4_row_51 (by decide) ?_
      refine lv_iadd hx hb dX4_row_52 ?_
      refine sti (x := (nI tc) + 1) (y := nI (tc + 1)) (nI_1 _) ?_
      refine va_put (ci := 4) (ty := .int) (C := RX4) (T := TX4) (N := 9) hx hb hts hinX4 tyX4 tyX4_ok nmX4 hown hK.1 hP hD hS 0 rfl rfl 7 (by decide) (hts _ (List.mem_of_getElem? (i := 1) rfl)) (fun _ h9 => h9) rfl (by decide +kernel) (rfl) (rfl) (Nat.le_of_ble_eq_true rfl) dX4_row_53 (fun H locs hP hD hS => ?_)
      replace hP : va_P D vwCl (xO g hi (tc + 1) ++ [(g 16, .inl (cI, 12, .inl f_5))] ++ rW cI g rf) H := hP
      replace hD : va_D A (xO g hi (tc + 1) ++ [(g 16, .inl (cI, 12, .inl f_5))] ++ rW cI g rf) := hD
      refine lv_aload_n hx hb dX4_row_56 rfl (lv_at hl 1 rfl) ?_
      refine va_get (ci := 4) (C := RX4) (T := TX4) (N := 9) hx hb hts hinX4 hown hK.1 hP 0 rfl rfl 7 (by decide) (hts _ (List.mem_of_getElem? (i := 1) rfl)) (fun _ h9 => h9) rfl dX4_row_57 ?_
      (try rw [ef_5] at hP); (try rw [ef_5] at hD); (try rw [ef_5] at hl); (try rw [ef_5] at c_13); (try rw [ef_5] at c_27); (try rw [ef_5])
      refine rMi hx hb hr hlk hS ((tc + 1), (upd f tc v), rf) hP ?_ dX4_row_60
      first | exact Or.inr ⟨(by first | rw [if_pos (show 12 ≤ tc by omega)]; exact c_27 | rw [if_neg (show ¬ 12 ≤ tc by omega)]; exact c_27), (by first | rw [if_pos (show 12 ≤ tc by omega)] | rw [if_neg (show ¬ 12 ≤ tc by omega)]), (by first | rw [if_pos (show 12 ≤ tc by omega)] | rw [if_neg (show ¬ 12 ≤ tc by omega)])⟩ | exact Or.inl ⟨(by first | rw [if_pos (show 12 ≤ tc by omega)]; exact c_27 | rw [if_neg (show ¬ 12 ≤ tc by omega)]; exact c_27), rfl, rfl⟩
    · skip
      refine lv_aload_n hx hb dX4_row_30 rfl (lv_at hl 1 rfl) ?_
      refine lv_iload_n hx hb dX4_row_31 rfl (lv_at hl 0 rfl) ?_
      refine kMiV hx hb hml hown hts hK hP hD hA hS gX4_row_X4_refuse okX4_refuse (qX4_refuse l D cI cB g hi tc rf (f2_ (ob_ v 0 99) 0) (rc0_n (rc0_f2 (rc0_ob _ _ _) (by first | exact Or.inl rfl | exact Or.inr (Or.inr (Or.inr (Or.inr (Or.inr rfl)))))) c_27)) [0, 2] rfl (by decide) (fun _ => rfl) rfl rfl rfl (by decide) hl.1 rfl rfl (Nat.le_of_ble_eq_true rfl) dX4_row_32 (by decide) (fun r_6 u_7 H locs hw_8 hP hD hS => ?_)
      replace hw_8 : r_6 = f2_ (ob_ v 0 99) 0 ∧ u_7 = rfx_ rf (f2_ (ob_ v 0 99) 0) := hw_8
      obtain ⟨hw_8a, hw_8b⟩ := hw_8
      subst r_6
      subst u_7
      replace hP : va_P D vwCl (xO g hi tc ++ [(g 16, .inl (cI, 12, .inl f))] ++ rW cI g (rfx_ rf (f2_ (ob_ v 0 99) 0))) H := (va_P.m [true, false, true] [] hP)
      replace hD : va_D A (xO g hi tc ++ [(g 16, .inl (cI, 12, .inl f))] ++ rW cI g (rfx_ rf (f2_ (ob_ v 0 99) 0))) := (va_D.m [true, false, true] [] hD)
      refine rMi hx hb hr hlk hS (tc, f, (rfx_ rf (f2_ (ob_ v 0 99) 0))) hP ?_ dX4_row_35
      first | exact Or.inr ⟨(by first | rw [if_pos (show 12 ≤ tc by omega)]; exact c_27 | rw [if_neg (show ¬ 12 ≤ tc by omega)]; exact c_27), (by first | rw [if_pos (show 12 ≤ tc by omega)] | rw [if_neg (show ¬ 12 ≤ tc by omega)]), (by first | rw [if_pos (show 12 ≤ tc by omega)] | rw [if_neg (show ¬ 12 ≤ tc by omega)])⟩ | exact Or.inl ⟨(by first | rw [if_pos (show 12 ≤ tc by omega)]; exact c_27 | rw [if_neg (show ¬ 12 ≤ tc by omega)]; exact c_27), rfl, rfl⟩
  · replace c_13 : ¬ nI tc < nI 12 := c_13
    rw [jlt (by omega) (by omega)] at c_13
    refine lv_bipush (v := (-6)) hx hb dX4_row_16 (by decide) ?_
    refine lv_goto (tgt := 22) hx hb dX4_row_18 (by decide) ?_
    refine kSiS hx hb hml hown hts hK hP gX4_row_X4_firstOf okX4_firstOf (qX4_firstOf l D cI cB (ob_ v 0 99) (-6) ) [] rfl (by decide) hl.1 rfl rfl (Nat.le_of_ble_eq_true rfl) dX4_row_22 (by decide) (fun r_9 hr_10 => ?_)
    replace hr_10 : r_9 = f2_ (ob_ v 0 99) (-6) := hr_10
    subst r_9
    refine lv_istore_n (lv' := [(2, .int (f2_ (ob_ v 0 99) (-6))), (0, .ref (g 0)), (1, .int v)]) hx hb dX4_row_25 rfl hl (by decide) rfl (fun ls hl => ?_)
    refine lv_iload_n hx hb dX4_row_26 rfl (lv_at hl 0 rfl) ?_
    refine lv_if_eq (tgt := 36) hx hb dX4_row_27 (by decide) (fun c_27 => ?_) (fun c_27 => ?_)
    · skip
      refine lv_aload_n hx hb dX4_row_36 rfl (lv_at hl 1 rfl) ?_
      refine va_get (ci := 4) (C := RX4) (T := TX4) (N := 9) hx hb hts hinX4 hown hK.1 hP 0 rfl rfl 6 (by decide) (hts _ (List.mem_of_getElem? (i := 2) rfl)) (fun _ h9 => h9) rfl dX4_row_37 ?_
      refine lv_aload_n hx hb dX4_row_40 rfl (lv_at hl 1 rfl) ?_
      refine va_get (ci := 4) (C := RX4) (T := TX4) (N := 9) hx hb hts hinX4 hown hK.1 hP 0 rfl rfl 7 (by decide) (hts _ (List.mem_of_getElem? (i := 1) rfl)) (fun _ h9 => h9) rfl dX4_row_41 ?_
      refine lv_iload_n hx hb dX4_row_44 rfl (lv_at hl 2 rfl) ?_
      have hf : tc < 12 := by first | omega | (exfalso; rw [f2_0] at c_27; exact absurd c_27.2 (by decide))
      refine jast hx hb hK.1 hP hD hS 1 0 tc rfl rfl rfl (by omega) (Nat.le_of_ble_eq_true rfl) dX4_row_45 (fun f_11 ef_11 H locs hP hD hS => ?_)
      replace ef_11 : f_11 = upd f tc v := ef_11
      replace hP : va_P D vwCl (xO g hi tc ++ [(g 16, .inl (cI, 12, .inl f_11))] ++ rW cI g rf) H := hP
      replace hD : va_D A (xO g hi tc ++ [(g 16, .inl (cI, 12, .inl f_11))] ++ rW cI g rf) := hD
      refine lv_aload_n hx hb dX4_row_46 rfl (lv_at hl 1 rfl) ?_
      refine lv_dup hx hb dX4_row_47 rfl ?_
      refine va_get (ci := 4) (C := RX4) (T := TX4) (N := 9) hx hb hts hinX4 hown hK.1 hP 0 rfl rfl 7 (by decide) (hts _ (List.mem_of_getElem? (i := 1) rfl)) (fun _ h9 => h9) rfl dX4_row_48 ?_
      refine lv_iconst (v := 1) hx hb dX4_row_51 (by decide) ?_
      refine lv_iadd hx hb dX4_row_52 ?_
      refine sti (x := (nI tc) + 1) (y := nI (tc + 1)) (nI_1 _) ?_
      refine va_put (ci := 4) (ty := .int) (C := RX4) (T := TX4) (N := 9) hx hb hts hinX4 tyX4 tyX4_ok nmX4 hown hK.1 hP hD hS 0 rfl rfl 7 (by decide) (hts _ (List.mem_of_getElem? (i := 1) rfl)) (fun _ h9 => h9) rfl (by decide +kernel) (rfl) (rfl) (Nat.le_of_ble_eq_true rfl) dX4_row_53 (fun H locs hP hD hS => ?_)
      replace hP : va_P D vwCl (xO g hi (tc + 1) ++ [(g 16, .inl (cI, 12, .inl f_11))] ++ rW cI g rf) H := hP
      replace hD : va_D A (xO g hi (tc + 1) ++ [(g 16, .inl (cI, 12, .inl f_11))] ++ rW cI g rf) := hD
      refine lv_aload_n hx hb dX4_row_56 rfl (lv_at hl 1 rfl) ?_
      refine va_get (ci := 4) (C := RX4) (T := TX4) (N := 9) hx hb hts hinX4 hown hK.1 hP 0 rfl rfl 7 (by decide) (hts _ (List.mem_of_getElem? (i := 1) rfl)) (fun _ h9 => h9) rfl dX4_row_57 ?_
      (try rw [ef_11] at hP); (try rw [ef_11] at hD); (try rw [ef_11] at hl); (try rw [ef_11] at c_13); (try rw [ef_11] at c_27); (try rw [ef_11])
      refine rMi hx hb hr hlk hS ((tc + 1), (upd f tc v), rf) hP ?_ dX4_row_60
      first | exact Or.inr ⟨(by first | rw [if_pos (show 12 ≤ tc by omega)]; exact c_27 | rw [if_neg (show ¬ 12 ≤ tc by omega)]; exact c_27), (by first | rw [if_pos (show 12 ≤ tc by omega)] | rw [if_neg (show ¬ 12 ≤ tc by omega)]), (by first | rw [if_pos (show 12 ≤ tc by omega)] | rw [if_neg (show ¬ 12 ≤ tc by omega)])⟩ | exact Or.inl ⟨(by first | rw [if_pos (show 12 ≤ tc by omega)]; exact c_27 | rw [if_neg (show ¬ 12 ≤ tc by omega)]; exact c_27), rfl, rfl⟩
    · skip
      refine lv_aload_n hx hb dX4_row_30 rfl (lv_at hl 1 rfl) ?_
      refine lv_iload_n hx hb dX4_row_31 rfl (lv_at hl 0 rfl) ?_
      refine kMiV hx hb hml hown hts hK hP hD hA hS gX4_row_X4_refuse okX4_refuse (qX4_refuse l D cI cB g hi tc rf (f2_ (ob_ v 0 99) (-6)) (rc0_n (rc0_f2 (rc0_ob _ _ _) (by first | exact Or.inl rfl | exact Or.inr (Or.inr (Or.inr (Or.inr (Or.inr rfl)))))) c_27)) [0, 2] rfl (by decide) (fun _ => rfl) rfl rfl rfl (by decide) hl.1 rfl rfl (Nat.le_of_ble_eq_true rfl) dX4_row_32 (by decide) (fun r_12 u_13 H locs hw_14 hP hD hS => ?_)
      replace hw_14 : r_12 = f2_ (ob_ v 0 99) (-6) ∧ u_13 = rfx_ rf (f2_ (ob_ v 0 99) (-6)) := hw_14
      obtain ⟨hw_14a, hw_14b⟩ := hw_14
      subst r_12
      subst u_13
      replace hP : va_P D vwCl (xO g hi tc ++ [(g 16, .inl (cI, 12, .inl f))] ++ rW cI g (rfx_ rf (f2_ (ob_ v 0 99) (-6)))) H := (va_P.m [true, false, true] [] hP)
      replace hD : va_D A (xO g hi tc ++ [(g 16, .inl (cI, 12, .inl f))] ++ rW cI g (rfx_ rf (f2_ (ob_ v 0 99) (-6)))) := (va_D.m [true, false, true] [] hD)
      refine rMi hx hb hr hlk hS (tc, f, (rfx_ rf (f2_ (ob_ v 0 99) (-6)))) hP ?_ dX4_row_35
      first | exact Or.inr ⟨(by first | rw [if_pos (show 12 ≤ tc by omega)]; exact c_27 | rw [if_neg (show ¬ 12 ≤ tc by omega)]; exact c_27), (by first | rw [if_pos (show 12 ≤ tc by omega)] | rw [if_neg (show ¬ 12 ≤ tc by omega)]), (by first | rw [if_pos (show 12 ≤ tc by omega)] | rw [if_neg (show ¬ 12 ≤ tc by omega)])⟩ | exact Or.inl ⟨(by first | rw [if_pos (show 12 ≤ tc by omega)]; exact c_27 | rw [if_neg (show ¬ 12 ≤ tc by omega)]; exact c_27), rfl, rfl⟩

theorem okX4_clear : jok yX4_clear wsX4_clear cX4_clear 2 (some .int) 0 := ⟨⟨_, rfl⟩, by decide +kernel, by decide +kernel⟩
set_option maxHeartbeats 1000000 in
set_option maxRecDepth 100000 in
theorem qX4_clear (l : Launch) (D : va_G) (cI cB : ClassId) (g : Nat → Nat) (hi : Int32) (tc : Nat)  : jMi D cI cB l yX4_clear wsX4_clear 0 [.ref (g 0)] (xO g hi tc) (S := Unit) (fun r u => r = nI tc) (fun u => xO g hi 0) := by
  refine jMi.of (cc := cX4_clear) (maxL := 2) (ret := (some .int)) okX4_clear (Nat.le_of_ble_eq_true rfl) ?_
  intro p e s m below meth c ls A hx hb hr hts hown hlk hml hP hK hD hA hS hl
  replace hown : s.vm.findClass RX4 = some m.cls := hown
  replace hl : lv_has ls 2 [(0, .ref (g 0))] := hl
  have hinX4 : ∀ w ∈ wsX40, w ∈ wsX4_clear := by decide +kernel
  refine lv_aload_n hx hb dX4_clear_0 rfl (lv_at hl 0 rfl) ?_
  refine va_get (ci := 4) (C := RX4) (T := TX4) (N := 9) hx hb hts hinX4 hown hK.1 hP 0 rfl rfl 7 (by decide) (hts _ (List.mem_of_getElem? (i := 1) rfl)) (fun _ h9 => h9) rfl dX4_clear_1 ?_
  refine lv_istore_n (lv' := [(1, .int (nI tc)), (0, .ref (g 0))]) hx hb dX4_clear_4 rfl hl (by decide) rfl (fun ls hl => ?_)
  refine lv_aload_n hx hb dX4_clear_5 rfl (lv_at hl 1 rfl) ?_
  refine lv_iconst (v := 0) hx hb dX4_clear_6 (by decide) ?_
  refine va_put (ci := 4) (ty := .int) (C := RX4) (T := TX4) (N := 9) hx hb hts hinX4 tyX4 tyX4_ok nmX4 hown hK.1 hP hD hS 0 rfl rfl 7 (by decide) (hts _ (List.mem_of_getElem? (i := 1) rfl)) (fun _ h9 => h9) rfl (by decide +kernel) (rfl) (rfl) (Nat.le_of_ble_eq_true rfl) dX4_clear_7 (fun H locs hP hD hS => ?_)
  replace hP : va_P D vwCl (xO g hi 0) H := hP
  replace hD : va_D A (xO g hi 0) := hD
  refine lv_iload_n hx hb dX4_clear_10 rfl (lv_at hl 0 rfl) ?_
  refine rMi hx hb hr hlk hS () hP ?_ dX4_clear_11
  rfl

theorem okX4_judge : jok yX4_judge wsX4_judge cX4_judge 2 (some .int) 0 := ⟨⟨_, rfl⟩, by decide +kernel, by decide +kernel⟩
set_option maxHeartbeats 1000000 in
set_option maxRecDepth 100000 in
theorem qX4_judge (l : Launch) (D : va_G) (cI cB : ClassId) (g : Nat → Nat) (hi : Int32) (tc : Nat) (B : BayT) (T : BayT) (f : Nat → Int32) (hn7 : sn_ B ≤ 7) (htc : tc ≤ 12) : jMi D cI cB l yX4_judge wsX4_judge 5 [.ref (g 0)] (xO g hi tc ++ miO g ++ bW cI g 4 B ++ bW cI g 10 T ++ [(g 16, .inl (cI, 12, .inl f))]) (S := BayT) (fun r u => r = oI_ (fx_ f B tc 0)) (fun u => xO g hi 0 ++ miO g ++ bW cI g 4 B ++ bW cI g 10 u ++ [(g 16, .inl (cI, 12, .inl f))]) := by
  refine jMi.of (cc := cX4_judge) (maxL := 2) (ret := (some .int)) okX4_judge (Nat.le_of_ble_eq_true rfl) ?_
  intro p e s m below meth c ls A hx hb hr hts hown hlk hml hP hK hD hA hS hl
  replace hown : s.vm.findClass RX4 = some m.cls := hown
  replace hl : lv_has ls 2 [(0, .ref (g 0))] := hl
  have hinX4 : ∀ w ∈ wsX40, w ∈ wsX4_judge := by decide +kernel
  refine lv_aload_n hx hb dX4_judge_0 rfl (lv_at hl 0 rfl) ?_
  refine va_get (ci := 4) (C := RX4) (T := TX4) (N := 9) hx hb hts hinX4 hown hK.1 hP 0 rfl rfl 0 (by decide) (hts _ (List.mem_of_getElem? (i := 1) rfl)) (fun _ h9 => h9) rfl dX4_judge_1 ?_
  refine lv_aload_n hx hb dX4_judge_4 rfl (lv_at hl 0 rfl) ?_
  refine va_get (ci := 4) (C := RX4) (T := TX4) (N := 9) hx hb hts hinX4 hown hK.1 hP 0 rfl rfl 6 (by decide) (hts _ (List.mem_of_getElem? (i := 2) rfl)) (fun _ h9 => h9) rfl dX4_judge_5 ?_
  refine lv_aload_n hx hb dX4_judge_8 rfl (lv_at hl 0 rfl) ?_
  refine va_get (ci := 4) (C := RX4) (T := TX4) (N := 9) hx hb hts hinX4 hown hK.1 hP 0 rfl rfl 7 (by decide) (hts _ (List.mem_of_getElem? (i := 3) rfl)) (fun _ h9 => h9) rfl dX4_judge_9 ?_
  refine kMiN hx hb hml hown hts hK hP hD hA hS gX4_judge_X2_firstWrong_n333 (hK.2 _ (List.mem_of_getElem? (i := 115) rfl)) (hts _ (List.mem_of_getElem? (i := 5) rfl)) (hts _ (List.mem_of_getElem? (i := 4) rfl)) (hts _ (List.mem_of_getElem? (i := 6) rfl)) okX2_firstWrong (qX2_firstWrong l D cI cB g B T f tc (by show sn_ B ≤ 7; omega) (by omega)) [1, 2, 3, 4, 5, 6, 7, 8, 9, 10, 11, 12, 13, 14] rfl (by decide) (fun _ => rfl) rfl rfl rfl (by decide) hl.1 rfl rfl (Nat.le_of_ble_eq_true rfl) dX4_judge_12 (by decide) (fun r_1 u_2 H locs hw_3 hP hD hS => ?_)
  replace hw_3 : r_1 = oI_ (fx_ f B tc 0) := hw_3
  subst r_1
  replace hP : va_P D vwCl (xO g hi tc ++ miO g ++ bW cI g 4 B ++ bW cI g 10 u_2 ++ [(g 16, .inl (cI, 12, .inl f))]) H := (va_P.m [false, true, true, true, true, true, true, true, true, true, true, true, true, true, true] [] hP)
  replace hD : va_D A (xO g hi tc ++ miO g ++ bW cI g 4 B ++ bW cI g 10 u_2 ++ [(g 16, .inl (cI, 12, .inl f))]) := (va_D.m [false, true, true, true, true, true, true, true, true, true, true, true, true, true, true] [] hD)
  refine lv_istore_n (lv' := [(1, .int (oI_ (fx_ f B tc 0))), (0, .ref (g 0))]) hx hb dX4_judge_15 rfl hl (by decide) rfl (fun ls hl => ?_)
  refine lv_aload_n hx hb dX4_judge_16 rfl (lv_at hl 1 rfl) ?_
  refine lv_iconst (v := 0) hx hb dX4_judge_17 (by decide) ?_
  refine va_put (ci := 4) (ty := .int) (C := RX4) (T := TX4) (N := 9) hx hb hts hinX4 tyX4 tyX4_ok nmX4 hown hK.1 hP hD hS 0 rfl rfl 7 (by decide) (hts _ (List.mem_of_getElem? (i := 3) rfl)) (fun _ h9 => h9) rfl (by decide +kernel) (rfl) (rfl) (Nat.le_of_ble_eq_true rfl) dX4_judge_18 (fun H locs hP hD hS => ?_)
  replace hP : va_P D vwCl (xO g hi 0 ++ miO g ++ bW cI g 4 B ++ bW cI g 10 u_2 ++ [(g 16, .inl (cI, 12, .inl f))]) H := hP
  replace hD : va_D A (xO g hi 0 ++ miO g ++ bW cI g 4 B ++ bW cI g 10 u_2 ++ [(g 16, .inl (cI, 12, .inl f))]) := hD
  refine lv_iload_n hx hb dX4_judge_21 rfl (lv_at hl 0 rfl) ?_
  refine rMi hx hb hr hlk hS u_2 hP ?_ dX4_judge_22
  rfl

theorem okX4_which : jok yX4_which wsX4_which cX4_which 4 (some .int) 2 := ⟨⟨_, rfl⟩, by decide +kernel, by decide +kernel⟩
set_option maxHeartbeats 1000000 in
set_option maxRecDepth 100000 in
theorem qX4_which (l : Launch) (D : va_G) (cI cB : ClassId) (g : Nat → Nat) (hi : Int32) (tc : Nat) (B : BayT) (T : BayT) (rf : Nat → Int32) (f : Nat → Int32) (a : Int32) (q : Int32) (hn7 : sn_ B ≤ 7) (htc : tc ≤ 12) : jMi D cI cB l yX4_which wsX4_which 6 [.ref (g 0), .int a, .int q] (xO g hi tc ++ miO g ++ bW cI g 4 B ++ bW cI g 10 T ++ rW cI g rf ++ [(g 16, .inl (cI, 12, .inl f))]) (S := BayT × (Nat → Int32)) (fun r u => r = (if f2_ (nb_ a (nI (sn_ B))) (uk_ q 2) = 0 then gbX_ B (tn_ a) q f tc else f2_ (nb_ a (nI (sn_ B))) (uk_ q 2)) ∧ u.2 = rfx_ rf (f2_ (nb_ a (nI (sn_ B))) (uk_ q 2))) (fun u => xO g hi tc ++ miO g ++ bW cI g 4 B ++ bW cI g 10 u.1 ++ rW cI g u.2 ++ [(g 16, .inl (cI, 12, .inl f))]) := by
  refine jMi.of (cc := cX4_which) (maxL := 4) (ret := (some .int)) okX4_which (Nat.le_of_ble_eq_true rfl) ?_
  intro p e s m below meth c ls A hx hb hr hts hown hlk hml hP hK hD hA hS hl
  replace hown : s.vm.findClass RX4 = some m.cls := hown
  replace hl : lv_has ls 4 [(0, .ref (g 0)), (1, .int a), (2, .int q)] := hl
  have hinX0 : ∀ w ∈ wsX00, w ∈ wsX4_which := by decide +kernel
  have hinX4 : ∀ w ∈ wsX40, w ∈ wsX4_which := by decide +kernel
  refine lv_iload_n hx hb dX4_which_0 rfl (lv_at hl 1 rfl) ?_
  refine lv_aload_n hx hb dX4_which_1 rfl (lv_at hl 0 rfl) ?_
  refine va_get (ci := 4) (C := RX4) (T := TX4) (N := 9) hx hb hts hinX4 hown hK.1 hP 0 rfl rfl 1 (by decide) (hts _ (List.mem_of_getElem? (i := 1) rfl)) (fun _ h9 => h9) rfl dX4_which_2 ?_
  refine va_getN (ci := 0) (C := RX0) (T := TX0) (N := 11) hx hb hts hinX0 hown hK.1 hP 2 rfl rfl 6 (by decide) (va_Nw.use rfl (hK.2 _ (List.mem_of_getElem? (i := 13) rfl))) (fun _ h9 => h9) rfl dX4_which_5 ?_
  refine kSiS hx hb hml hown hts hK hP gX4_which_X4_nobody okX4_nobody (qX4_nobody l D cI cB a (nI (sn_ B)) ) [] rfl (by decide) hl.1 rfl rfl (Nat.le_of_ble_eq_true rfl) dX4_which_8 (by decide) (fun r_1 hr_2 => ?_)
  replace hr_2 : r_1 = nb_ a (nI (sn_ B)) := hr_2
  subst r_1
  refine lv_iload_n hx hb dX4_which_11 rfl (lv_at hl 2 rfl) ?_
  refine lv_iconst (v := 2) hx hb dX4_which_12 (by decide) ?_
  refine kSiS hx hb hml hown hts hK hP gX4_which_X4_unknown okX4_unknown (qX4_unknown l D cI cB q 2 ) [] rfl (by decide) hl.1 rfl rfl (Nat.le_of_ble_eq_true rfl) dX4_which_13 (by decide) (fun r_3 hr_4 => ?_)
  replace hr_4 : r_3 = uk_ q 2 := hr_4
  subst r_3
  refine kSiS hx hb hml hown hts hK hP gX4_which_X4_firstOf okX4_firstOf (qX4_firstOf l D cI cB (nb_ a (nI (sn_ B))) (uk_ q 2) ) [] rfl (by decide) hl.1 rfl rfl (Nat.le_of_ble_eq_true rfl) dX4_which_16 (by decide) (fun r_5 hr_6 => ?_)
  replace hr_6 : r_5 = f2_ (nb_ a (nI (sn_ B))) (uk_ q 2) := hr_6
  subst r_5
  refine lv_istore_n (lv' := [(3, .int (f2_ (nb_ a (nI (sn_ B))) (uk_ q 2))), (0, .ref (g 0)), (1, .int a), (2, .int q)]) hx hb dX4_which_19 rfl hl (by decide) rfl (fun ls hl => ?_)
  refine lv_iload_n hx hb dX4_which_20 rfl (lv_at hl 0 rfl) ?_
  refine lv_if_eq (tgt := 30) hx hb dX4_which_21 (by decide) (fun c_21 => ?_) (fun c_21 => ?_)
  · skip
    have w0 := c_21
    simp only [wS_, wSN_, wSNW_, wNW_, wTh_, f2_0, nb_0, ob_0, uk_0, lo_0, hi_0] at w0
    obtain ⟨a_, ha_, rfl⟩ := pl_lt (n := sn_ B) (by omega) w0.1
    replace hl : lv_has ls 4 [(3, .int (f2_ (nb_ (nI a_) (nI (sn_ B))) (uk_ q 2))), (0, .ref (g 0)), (1, .int (nI a_)), (2, .int q)] := hl
    refine lv_iload_n hx hb dX4_which_30 rfl (lv_at hl 3 rfl) ?_
    by_cases c_31_0 : q = 0
    · refine lv_lookup (off := 25) (tgt := 56) hx hb dX4_which_31 (by decide) (by rw [c_31_0]; rfl) (by decide) ?_
      refine lv_aload_n hx hb dX4_which_56 rfl (lv_at hl 1 rfl) ?_
      refine va_get (ci := 4) (C := RX4) (T := TX4) (N := 9) hx hb hts hinX4 hown hK.1 hP 0 rfl rfl 0 (by decide) (hts _ (List.mem_of_getElem? (i := 2) rfl)) (fun _ h9 => h9) rfl dX4_which_57 ?_
      refine lv_iload_n hx hb dX4_which_60 rfl (lv_at hl 2 rfl) ?_
      refine lv_iload_n hx hb dX4_which_61 rfl (lv_at hl 3 rfl) ?_
      refine lv_iconst (v := 5) hx hb dX4_which_62 (by decide) ?_
      refine lv_aload_n hx hb dX4_which_63 rfl (lv_at hl 1 rfl) ?_
      refine va_get (ci := 4) (C := RX4) (T := TX4) (N := 9) hx hb hts hinX4 hown hK.1 hP 0 rfl rfl 6 (by decide) (hts _ (List.mem_of_getElem? (i := 3) rfl)) (fun _ h9 => h9) rfl dX4_which_64 ?_
      refine lv_aload_n hx hb dX4_which_67 rfl (lv_at hl 1 rfl) ?_
      refine va_get (ci := 4) (C := RX4) (T := TX4) (N := 9) hx hb hts hinX4 hown hK.1 hP 0 rfl rfl 7 (by decide) (hts _ (List.mem_of_getElem? (i := 4) rfl)) (fun _ h9 => h9) rfl dX4_which_68 ?_
      refine kMiN hx hb hml hown hts hK hP hD hA hS gX4_which_X2_guessBits_n337 (hK.2 _ (List.mem_of_getElem? (i := 117) rfl)) (hts _ (List.mem_of_getElem? (i := 21) rfl)) (hts _ (List.mem_of_getElem? (i := 20) rfl)) (hts _ (List.mem_of_getElem? (i := 22) rfl)) okX2_guessBits (qX2_guessBits l D cI cB g B T f a_ q 5 tc (by show sn_ B ≤ 7; omega) (by omega) (by omega) (by omega)) [1, 2, 3, 4, 5, 6, 7, 8, 9, 10, 11, 12, 13, 15] rfl (by decide) (fun _ => rfl) rfl rfl rfl (by decide) hl.1 rfl rfl (Nat.le_of_ble_eq_true rfl) dX4_which_71 (by decide) (fun r_7 u_8 H locs hw_9 hP hD hS => ?_)
      replace hw_9 : r_7 = gb_ B a_ q f tc (g0_ q) (5 + 1 - g0_ q) := hw_9
      subst r_7
      replace hP : va_P D vwCl (xO g hi tc ++ miO g ++ bW cI g 4 B ++ bW cI g 10 u_8 ++ rW cI g rf ++ [(g 16, .inl (cI, 12, .inl f))]) H := (va_P.m [false, true, true, true, true, true, true, true, true, true, true, true, true, true, false, true] [] hP)
      replace hD : va_D A (xO g hi tc ++ miO g ++ bW cI g 4 B ++ bW cI g 10 u_8 ++ rW cI g rf ++ [(g 16, .inl (cI, 12, .inl f))]) := (va_D.m [false, true, true, true, true, true, true, true, true, true, true, true, true, true, false, true] [] hD)
      refine rMi hx hb hr hlk hS (u_8, rf) hP ?_ dX4_which_74
      first | exact ⟨(if_neg c_21).symm, rfl⟩ | (refine ⟨?_, rfx_0 c_21⟩; rw [if_pos c_21]; simp only [tn_n (show a_ < 2147483648 by omega)]; unfold gbX_; first | (rw [if_pos c_31_0, c_31_0]; done) | (rw [if_neg c_31_0, if_pos c_31_1, c_31_1]; done) | (rw [if_neg c_31_0, if_neg c_31_1]; done))
    by_cases c_31_1 : q = 1
    · refine lv_lookup (off := 44) (tgt := 75) hx hb dX4_which_31 (by decide) (by rw [c_31_1]; rfl) (by decide) ?_
      refine lv_aload_n hx hb dX4_which_75 rfl (lv_at hl 1 rfl) ?_
      refine va_get (ci := 4) (C := RX4) (T := TX4) (N := 9) hx hb hts hinX4 hown hK.1 hP 0 rfl rfl 0 (by decide) (hts _ (List.mem_of_getElem? (i := 2) rfl)) (fun _ h9 => h9) rfl dX4_which_76 ?_
      refine lv_iload_n hx hb dX4_which_79 rfl (lv_at hl 2 rfl) ?_
      refine lv_iload_n hx hb dX4_which_80 rfl (lv_at hl 3 rfl) ?_
      refine lv_bipush (v := 9) hx hb dX4_which_81 (by decide) ?_
      refine lv_aload_n hx hb dX4_which_83 rfl (lv_at hl 1 rfl) ?_
      refine va_get (ci := 4) (C := RX4) (T := TX4) (N := 9) hx hb hts hinX4 hown hK.1 hP 0 rfl rfl 6 (by decide) (hts _ (List.mem_of_getElem? (i := 3) rfl)) (fun _ h9 => h9) rfl dX4_which_84 ?_
      refine lv_aload_n hx hb dX4_which_87 rfl (lv_at hl 1 rfl) ?_
      refine va_get (ci := 4) (C := RX4) (T := TX4) (N := 9) hx hb hts hinX4 hown hK.1 hP 0 rfl rfl 7 (by decide) (hts _ (List.mem_of_getElem? (i := 4) rfl)) (fun _ h9 => h9) rfl dX4_which_88 ?_
      refine kMiN hx hb hml hown hts hK hP hD hA hS gX4_which_X2_guessBits_n337 (hK.2 _ (List.mem_of_getElem? (i := 117) rfl)) (hts _ (List.mem_of_getElem? (i := 21) rfl)) (hts _ (List.mem_of_getElem? (i := 20) rfl)) (hts _ (List.mem_of_getElem? (i := 22) rfl)) okX2_guessBits (qX2_guessBits l D cI cB g B T f a_ q 9 tc (by show sn_ B ≤ 7; omega) (by omega) (by omega) (by omega)) [1, 2, 3, 4, 5, 6, 7, 8, 9, 10, 11, 12, 13, 15] rfl (by decide) (fun _ => rfl) rfl rfl rfl (by decide) hl.1 rfl rfl (Nat.le_of_ble_eq_true rfl) dX4_which_91 (by decide) (fun r_10 u_11 H locs hw_12 hP hD hS => ?_)
      replace hw_12 : r_10 = gb_ B a_ q f tc (g0_ q) (9 + 1 - g0_ q) := hw_12
      subst r_10
      replace hP : va_P D vwCl (xO g hi tc ++ miO g ++ bW cI g 4 B ++ bW cI g 10 u_11 ++ rW cI g rf ++ [(g 16, .inl (cI, 12, .inl f))]) H := (va_P.m [false, true, true, true, true, true, true, true, true, true, true, true, true, true, false, true] [] hP)
      replace hD : va_D A (xO g hi tc ++ miO g ++ bW cI g 4 B ++ bW cI g 10 u_11 ++ rW cI g rf ++ [(g 16, .inl (cI, 12, .inl f))]) := (va_D.m [false, true, true, true, true, true, true, true, true, true, true, true, true, true, false, true] [] hD)
      refine rMi hx hb hr hlk hS (u_11, rf) hP ?_ dX4_which_94
      first | exact ⟨(if_neg c_21).symm, rfl⟩ | (refine ⟨?_, rfx_0 c_21⟩; rw [if_pos c_21]; simp only [tn_n (show a_ < 2147483648 by omega)]; unfold gbX_; first | (rw [if_pos c_31_0, c_31_0]; done) | (rw [if_neg c_31_0, if_pos c_31_1, c_31_1]; done) | (rw [if_neg c_31_0, if_neg c_31_1]; done))
    refine lv_lookup (off := 64) (tgt := 95) hx hb dX4_which_31 (by decide) (by rw [lv_osw c_31_0 (by decide)]; rw [lv_osw c_31_1 (by decide)]; rfl) (by decide) ?_
    refine lv_aload_n hx hb dX4_which_95 rfl (lv_at hl 1 rfl) ?_
    refine va_get (ci := 4) (C := RX4) (T := TX4) (N := 9) hx hb hts hinX4 hown hK.1 hP 0 rfl rfl 0 (by decide) (hts _ (List.mem_of_getElem? (i := 2) rfl)) (fun _ h9 => h9) rfl dX4_which_96 ?_
    refine lv_iload_n hx hb dX4_which_99 rfl (lv_at hl 2 rfl) ?_
    refine lv_iload_n hx hb dX4_which_100 rfl (lv_at hl 3 rfl) ?_
    refine lv_iconst (v := 5) hx hb dX4_which_101 (by decide) ?_
    refine lv_aload_n hx hb dX4_which_102 rfl (lv_at hl 1 rfl) ?_
    refine va_get (ci := 4) (C := RX4) (T := TX4) (N := 9) hx hb hts hinX4 hown hK.1 hP 0 rfl rfl 6 (by decide) (hts _ (List.mem_of_getElem? (i := 3) rfl)) (fun _ h9 => h9) rfl dX4_which_103 ?_
    refine lv_aload_n hx hb dX4_which_106 rfl (lv_at hl 1 rfl) ?_
    refine va_get (ci := 4) (C := RX4) (T := TX4) (N := 9) hx hb hts hinX4 hown hK.1 hP 0 rfl rfl 7 (by decide) (hts _ (List.mem_of_getElem? (i := 4) rfl)) (fun _ h9 => h9) rfl dX4_which_107 ?_
    refine kMiN hx hb hml hown hts hK hP hD hA hS gX4_which_X2_guessBits_n337 (hK.2 _ (List.mem_of_getElem? (i := 117) rfl)) (hts _ (List.mem_of_getElem? (i := 21) rfl)) (hts _ (List.mem_of_getElem? (i := 20) rfl)) (hts _ (List.mem_of_getElem? (i := 22) rfl)) okX2_guessBits (qX2_guessBits l D cI cB g B T f a_ q 5 tc (by show sn_ B ≤ 7; omega) (by omega) (by omega) (by omega)) [1, 2, 3, 4, 5, 6, 7, 8, 9, 10, 11, 12, 13, 15] rfl (by decide) (fun _ => rfl) rfl rfl rfl (by decide) hl.1 rfl rfl (Nat.le_of_ble_eq_true rfl) dX4_which_110 (by decide) (fun r_13 u_14 H locs hw_15 hP hD hS => ?_)
    replace hw_15 : r_13 = gb_ B a_ q f tc (g0_ q) (5 + 1 - g0_ q) := hw_15
    subst r_13
    replace hP : va_P D vwCl (xO g hi tc ++ miO g ++ bW cI g 4 B ++ bW cI g 10 u_14 ++ rW cI g rf ++ [(g 16, .inl (cI, 12, .inl f))]) H := (va_P.m [false, true, true, true, true, true, true, true, true, true, true, true, true, true, false, true] [] hP)
    replace hD : va_D A (xO g hi tc ++ miO g ++ bW cI g 4 B ++ bW cI g 10 u_14 ++ rW cI g rf ++ [(g 16, .inl (cI, 12, .inl f))]) := (va_D.m [false, true, true, true, true, true, true, true, true, true, true, true, true, true, false, true] [] hD)
    refine rMi hx hb hr hlk hS (u_14, rf) hP ?_ dX4_which_113
    first | exact ⟨(if_neg c_21).symm, rfl⟩ | (refine ⟨?_, rfx_0 c_21⟩; rw [if_pos c_21]; simp only [tn_n (show a_ < 2147483648 by omega)]; unfold gbX_; first | (rw [if_pos c_31_0, c_31_0]; done) | (rw [if_neg c_31_0, if_pos c_31_1, c_31_1]; done) | (rw [if_neg c_31_0, if_neg c_31_1]; done))
  · skip
    refine lv_aload_n hx hb dX4_which_24 rfl (lv_at hl 1 rfl) ?_
    refine lv_iload_n hx hb dX4_which_25 rfl (lv_at hl 0 rfl) ?_
    refine kMiV hx hb hml hown hts hK hP hD hA hS gX4_which_X4_refuse okX4_refuse (qX4_refuse l D cI cB g hi tc rf (f2_ (nb_ a (nI (sn_ B))) (uk_ q 2)) (rc0_n (by first | exact rc0_wS _ _ | exact rc0_wSN _ _ _ | exact rc0_wSNW _ _ _ _ | exact rc0_wNW _ _ | exact rc0_wTh _ _ _ _ _ | exact rc0_nb _ _ | exact rc0_uk _ _ | exact rc0_ob _ _ _ | exact rc0_f2 (rc0_nb _ _) (rc0_nb _ _) | exact rc0_f2 (rc0_nb _ _) (rc0_uk _ _) | exact rc0_f2 (rc0_ob _ _ _) (rc0_uk _ _) | exact rc0_f2 (rc0_uk _ _) (rc0_f2 (rc0_uk _ _) (rc0_ob _ _ _)) | exact rc0_f2 (rc0_f2 (rc0_nb _ _) (rc0_nb _ _)) (rc0_if (Or.inr (Or.inl rfl)) (rc0_uk _ _))) c_21)) [0, 14] rfl (by decide) (fun _ => rfl) rfl rfl rfl (by decide) hl.1 rfl rfl (Nat.le_of_ble_eq_true rfl) dX4_which_26 (by decide) (fun r_16 u_17 H locs hw_18 hP hD hS => ?_)
    replace hw_18 : r_16 = f2_ (nb_ a (nI (sn_ B))) (uk_ q 2) ∧ u_17 = rfx_ rf (f2_ (nb_ a (nI (sn_ B))) (uk_ q 2)) := hw_18
    obtain ⟨hw_18a, hw_18b⟩ := hw_18
    subst r_16
    subst u_17
    replace hP : va_P D vwCl (xO g hi tc ++ miO g ++ bW cI g 4 B ++ bW cI g 10 T ++ rW cI g (rfx_ rf (f2_ (nb_ a (nI (sn_ B))) (uk_ q 2))) ++ [(g 16, .inl (cI, 12, .inl f))]) H := (va_P.m [true, false, false, false, false, false, false, false, false, false, false, false, false, false, true] [] hP)
    replace hD : va_D A (xO g hi tc ++ miO g ++ bW cI g 4 B ++ bW cI g 10 T ++ rW cI g (rfx_ rf (f2_ (nb_ a (nI (sn_ B))) (uk_ q 2))) ++ [(g 16, .inl (cI, 12, .inl f))]) := (va_D.m [true, false, false, false, false, false, false, false, false, false, false, false, false, false, true] [] hD)
    refine rMi hx hb hr hlk hS (T, (rfx_ rf (f2_ (nb_ a (nI (sn_ B))) (uk_ q 2)))) hP ?_ dX4_which_29
    first | exact ⟨(if_neg c_21).symm, rfl⟩ | (refine ⟨?_, rfx_0 c_21⟩; rw [if_pos c_21]; simp only [tn_n (show a_ < 2147483648 by omega)]; unfold gbX_; first | (rw [if_pos c_31_0, c_31_0]; done) | (rw [if_neg c_31_0, if_pos c_31_1, c_31_1]; done) | (rw [if_neg c_31_0, if_neg c_31_1]; done))

theorem okX4_count : jok yX4_count wsX4_count cX4_count 2 (some .int) 1 := ⟨⟨_, rfl⟩, by decide +kernel, by decide +kernel⟩
set_option maxHeartbeats 1000000 in
set_option maxRecDepth 100000 in
theorem qX4_count (l : Launch) (D : va_G) (cI cB : ClassId) (g : Nat → Nat) (hi : Int32) (tc : Nat) (B : BayT) (L : Nat → Int32) (ln : Nat) (la : Nat) (ct : Nat) (rf : Nat → Int32) (q : Int32) (hn7 : sn_ B ≤ 7) : jSi D cI cB l yX4_count wsX4_count 1 [.ref (g 0), .int q] (xO g hi tc ++ bW cI g 4 B ++ lW cI g L ln ++ pW cB g la ct ++ rW cI g rf) (fun r => r = cnX_ B ln tc ct rf q) := by
  refine jSi.of (cc := cX4_count) (maxL := 2) (ret := (some .int)) okX4_count (Nat.le_of_ble_eq_true rfl) ?_
  intro p e s m below meth c ls hx hb hr hts hown hlk hml hP hK hl
  replace hown : s.vm.findClass RX4 = some m.cls := hown
  replace hl : lv_has ls 2 [(0, .ref (g 0)), (1, .int q)] := hl
  have hinX0 : ∀ w ∈ wsX00, w ∈ wsX4_count := by decide +kernel
  have hinX1 : ∀ w ∈ wsX10, w ∈ wsX4_count := by decide +kernel
  have hinX3 : ∀ w ∈ wsX30, w ∈ wsX4_count := by decide +kernel
  have hinX4 : ∀ w ∈ wsX40, w ∈ wsX4_count := by decide +kernel
  refine lv_iload_n hx hb dX4_count_0 rfl (lv_at hl 1 rfl) ?_
  by_cases c_1_0 : q = 0
  · refine lv_tableIn (off := 51) (tgt := 52) hx hb dX4_count_1 (by rw [c_1_0]; decide) (by rw [c_1_0]; decide) (by rw [c_1_0]; rfl) (by decide) ?_
    refine lv_aload_n hx hb dX4_count_52 rfl (lv_at hl 0 rfl) ?_
    refine va_get (ci := 4) (C := RX4) (T := TX4) (N := 9) hx hb hts hinX4 hown hK.1 hP 0 rfl rfl 1 (by decide) (hts _ (List.mem_of_getElem? (i := 1) rfl)) (fun _ h9 => h9) rfl dX4_count_53 ?_
    refine va_getN (ci := 0) (C := RX0) (T := TX0) (N := 11) hx hb hts hinX0 hown hK.1 hP 1 rfl rfl 6 (by decide) (va_Nw.use rfl (hK.2 _ (List.mem_of_getElem? (i := 13) rfl))) (fun _ h9 => h9) rfl dX4_count_56 ?_
    refine rSi hx hb hr hlk ?_ dX4_count_59
    show (nI (sn_ B)) = _
    first | (rw [c_1_0]; rfl) | (rw [c_1_1]; rfl) | (rw [c_1_2]; rfl) | (rw [c_1_3]; rfl) | (rw [c_1_4]; rfl) | (rw [c_1_5]; rfl) | (rw [c_1_6]; rfl) | (rw [c_1_7]; rfl) | (rw [c_1_8]; rfl) | (unfold cnX_; rw [if_neg c_1_0, if_neg c_1_1, if_neg c_1_2, if_neg c_1_3, if_neg c_1_4, if_neg c_1_5, if_neg c_1_6, if_neg c_1_7, if_neg c_1_8]; first | exact (if_pos ⟨d_124, d_130⟩).symm | exact (if_neg (fun q9 => absurd q9.1 d_124)).symm | exact (if_neg (fun q9 => absurd q9.2 d_130)).symm)
  by_cases c_1_1 : q = 1
  · refine lv_tableIn (off := 59) (tgt := 60) hx hb dX4_count_1 (by rw [c_1_1]; decide) (by rw [c_1_1]; decide) (by rw [c_1_1]; rfl) (by decide) ?_
    refine lv_aload_n hx hb dX4_count_60 rfl (lv_at hl 0 rfl) ?_
    refine va_get (ci := 4) (C := RX4) (T := TX4) (N := 9) hx hb hts hinX4 hown hK.1 hP 0 rfl rfl 1 (by decide) (hts _ (List.mem_of_getElem? (i := 1) rfl)) (fun _ h9 => h9) rfl dX4_count_61 ?_
    refine va_getN (ci := 0) (C := RX0) (T := TX0) (N := 11) hx hb hts hinX0 hown hK.1 hP 1 rfl rfl 9 (by decide) (va_Nw.use rfl (hK.2 _ (List.mem_of_getElem? (i := 20) rfl))) (fun _ h9 => h9) rfl dX4_count_64 ?_
    refine rSi hx hb hr hlk ?_ dX4_count_67
    show (ho_ B) = _
    first | (rw [c_1_0]; rfl) | (rw [c_1_1]; rfl) | (rw [c_1_2]; rfl) | (rw [c_1_3]; rfl) | (rw [c_1_4]; rfl) | (rw [c_1_5]; rfl) | (rw [c_1_6]; rfl) | (rw [c_1_7]; rfl) | (rw [c_1_8]; rfl) | (unfold cnX_; rw [if_neg c_1_0, if_neg c_1_1, if_neg c_1_2, if_neg c_1_3, if_neg c_1_4, if_neg c_1_5, if_neg c_1_6, if_neg c_1_7, if_neg c_1_8]; first | exact (if_pos ⟨d_124, d_130⟩).symm | exact (if_neg (fun q9 => absurd q9.1 d_124)).symm | exact (if_neg (fun q9 => absurd q9.2 d_130)).symm)
  by_cases c_1_2 : q = 2
  · refine lv_tableIn (off := 67) (tgt := 68) hx hb dX4_count_1 (by rw [c_1_2]; decide) (by rw [c_1_2]; decide) (by rw [c_1_2]; rfl) (by decide) ?_
    refine lv_aload_n hx hb dX4_count_68 rfl (lv_at hl 0 rfl) ?_
    refine va_get (ci := 4) (C := RX4) (T := TX4) (N := 9) hx hb hts hinX4 hown hK.1 hP 0 rfl rfl 1 (by decide) (hts _ (List.mem_of_getElem? (i := 1) rfl)) (fun _ h9 => h9) rfl dX4_count_69 ?_
    refine va_getN (ci := 0) (C := RX0) (T := TX0) (N := 11) hx hb hts hinX0 hown hK.1 hP 1 rfl rfl 10 (by decide) (va_Nw.use rfl (hK.2 _ (List.mem_of_getElem? (i := 21) rfl))) (fun _ h9 => h9) rfl dX4_count_72 ?_
    refine rSi hx hb hr hlk ?_ dX4_count_75
    show (dy_ B) = _
    first | (rw [c_1_0]; rfl) | (rw [c_1_1]; rfl) | (rw [c_1_2]; rfl) | (rw [c_1_3]; rfl) | (rw [c_1_4]; rfl) | (rw [c_1_5]; rfl) | (rw [c_1_6]; rfl) | (rw [c_1_7]; rfl) | (rw [c_1_8]; rfl) | (unfold cnX_; rw [if_neg c_1_0, if_neg c_1_1, if_neg c_1_2, if_neg c_1_3, if_neg c_1_4, if_neg c_1_5, if_neg c_1_6, if_neg c_1_7, if_neg c_1_8]; first | exact (if_pos ⟨d_124, d_130⟩).symm | exact (if_neg (fun q9 => absurd q9.1 d_124)).symm | exact (if_neg (fun q9 => absurd q9.2 d_130)).symm)
  by_cases c_1_3 : q = 3
  · refine lv_tableIn (off := 75) (tgt := 76) hx hb dX4_count_1 (by rw [c_1_3]; decide) (by rw [c_1_3]; decide) (by rw [c_1_3]; rfl) (by decide) ?_
    refine lv_aload_n hx hb dX4_count_76 rfl (lv_at hl 0 rfl) ?_
    refine va_get (ci := 4) (C := RX4) (T := TX4) (N := 9) hx hb hts hinX4 hown hK.1 hP 0 rfl rfl 1 (by decide) (hts _ (List.mem_of_getElem? (i := 1) rfl)) (fun _ h9 => h9) rfl dX4_count_77 ?_
    refine va_getN (ci := 0) (C := RX0) (T := TX0) (N := 11) hx hb hts hinX0 hown hK.1 hP 1 rfl rfl 5 (by decide) (va_Nw.use rfl (hK.2 _ (List.mem_of_getElem? (i := 11) rfl))) (fun _ h9 => h9) rfl dX4_count_80 ?_
    refine rSi hx hb hr hlk ?_ dX4_count_83
    show (qt_ B) = _
    first | (rw [c_1_0]; rfl) | (rw [c_1_1]; rfl) | (rw [c_1_2]; rfl) | (rw [c_1_3]; rfl) | (rw [c_1_4]; rfl) | (rw [c_1_5]; rfl) | (rw [c_1_6]; rfl) | (rw [c_1_7]; rfl) | (rw [c_1_8]; rfl) | (unfold cnX_; rw [if_neg c_1_0, if_neg c_1_1, if_neg c_1_2, if_neg c_1_3, if_neg c_1_4, if_neg c_1_5, if_neg c_1_6, if_neg c_1_7, if_neg c_1_8]; first | exact (if_pos ⟨d_124, d_130⟩).symm | exact (if_neg (fun q9 => absurd q9.1 d_124)).symm | exact (if_neg (fun q9 => absurd q9.2 d_130)).symm)
  by_cases c_1_4 : q = 4
  · refine lv_tableIn (off := 83) (tgt := 84) hx hb dX4_count_1 (by rw [c_1_4]; decide) (by rw [c_1_4]; decide) (by rw [c_1_4]; rfl) (by decide) ?_
    refine lv_aload_n hx hb dX4_count_84 rfl (lv_at hl 0 rfl) ?_
    refine va_get (ci := 4) (C := RX4) (T := TX4) (N := 9) hx hb hts hinX4 hown hK.1 hP 0 rfl rfl 1 (by decide) (hts _ (List.mem_of_getElem? (i := 1) rfl)) (fun _ h9 => h9) rfl dX4_count_85 ?_
    refine kSiN hx hb hml hown hts hK hP gX4_count_X0_joyTogether_n158 (hK.2 _ (List.mem_of_getElem? (i := 56) rfl)) (hts _ (List.mem_of_getElem? (i := 7) rfl)) (hts _ (List.mem_of_getElem? (i := 6) rfl)) (hts _ (List.mem_of_getElem? (i := 8) rfl)) okX0_joyTogether (qX0_joyTogether l D cI cB g 4 B (by show sn_ B ≤ 7; omega)) [1, 2, 3, 4, 5, 6] rfl rfl rfl rfl (by decide) hl.1 rfl rfl (Nat.le_of_ble_eq_true rfl) dX4_count_88 (by decide) (fun r_1 hr_2 => ?_)
    replace hr_2 : r_1 = su_ (jy_ B) (sn_ B) := hr_2
    subst r_1
    refine rSi hx hb hr hlk ?_ dX4_count_91
    show (su_ (jy_ B) (sn_ B)) = _
    first | (rw [c_1_0]; rfl) | (rw [c_1_1]; rfl) | (rw [c_1_2]; rfl) | (rw [c_1_3]; rfl) | (rw [c_1_4]; rfl) | (rw [c_1_5]; rfl) | (rw [c_1_6]; rfl) | (rw [c_1_7]; rfl) | (rw [c_1_8]; rfl) | (unfold cnX_; rw [if_neg c_1_0, if_neg c_1_1, if_neg c_1_2, if_neg c_1_3, if_neg c_1_4, if_neg c_1_5, if_neg c_1_6, if_neg c_1_7, if_neg c_1_8]; first | exact (if_pos ⟨d_124, d_130⟩).symm | exact (if_neg (fun q9 => absurd q9.1 d_124)).symm | exact (if_neg (fun q9 => absurd q9.2 d_130)).symm)
  by_cases c_1_5 : q = 5
  · refine lv_tableIn (off := 91) (tgt := 92) hx hb dX4_count_1 (by rw [c_1_5]; decide) (by rw [c_1_5]; decide) (by rw [c_1_5]; rfl) (by decide) ?_
    refine lv_aload_n hx hb dX4_count_92 rfl (lv_at hl 0 rfl) ?_
    refine va_get (ci := 4) (C := RX4) (T := TX4) (N := 9) hx hb hts hinX4 hown hK.1 hP 0 rfl rfl 1 (by decide) (hts _ (List.mem_of_getElem? (i := 1) rfl)) (fun _ h9 => h9) rfl dX4_count_93 ?_
    refine kSiN hx hb hml hown hts hK hP gX4_count_X0_powderTogether_n161 (hK.2 _ (List.mem_of_getElem? (i := 57) rfl)) (hts _ (List.mem_of_getElem? (i := 7) rfl)) (hts _ (List.mem_of_getElem? (i := 12) rfl)) (hts _ (List.mem_of_getElem? (i := 13) rfl)) okX0_powderTogether (qX0_powderTogether l D cI cB g 4 B (by show sn_ B ≤ 7; omega)) [1, 2, 3, 4, 5, 6] rfl rfl rfl rfl (by decide) hl.1 rfl rfl (Nat.le_of_ble_eq_true rfl) dX4_count_96 (by decide) (fun r_3 hr_4 => ?_)
    replace hr_4 : r_3 = su_ (pw_ B) (sn_ B) := hr_4
    subst r_3
    refine rSi hx hb hr hlk ?_ dX4_count_99
    show (su_ (pw_ B) (sn_ B)) = _
    first | (rw [c_1_0]; rfl) | (rw [c_1_1]; rfl) | (rw [c_1_2]; rfl) | (rw [c_1_3]; rfl) | (rw [c_1_4]; rfl) | (rw [c_1_5]; rfl) | (rw [c_1_6]; rfl) | (rw [c_1_7]; rfl) | (rw [c_1_8]; rfl) | (unfold cnX_; rw [if_neg c_1_0, if_neg c_1_1, if_neg c_1_2, if_neg c_1_3, if_neg c_1_4, if_neg c_1_5, if_neg c_1_6, if_neg c_1_7, if_neg c_1_8]; first | exact (if_pos ⟨d_124, d_130⟩).symm | exact (if_neg (fun q9 => absurd q9.1 d_124)).symm | exact (if_neg (fun q9 => absurd q9.2 d_130)).symm)
  by_cases c_1_6 : q = 6
  · refine lv_tableIn (off := 99) (tgt := 100) hx hb dX4_count_1 (by rw [c_1_6]; decide) (by rw [c_1_6]; decide) (by rw [c_1_6]; rfl) (by decide) ?_
    refine lv_aload_n hx hb dX4_count_100 rfl (lv_at hl 0 rfl) ?_
    refine va_get (ci := 4) (C := RX4) (T := TX4) (N := 9) hx hb hts hinX4 hown hK.1 hP 0 rfl rfl 5 (by decide) (hts _ (List.mem_of_getElem? (i := 2) rfl)) (fun _ h9 => h9) rfl dX4_count_101 ?_
    refine va_getN (ci := 1) (C := RX1) (T := TX1) (N := 2) hx hb hts hinX1 hown hK.1 hP 7 rfl rfl 1 (by decide) (va_Nw.use rfl (hK.2 _ (List.mem_of_getElem? (i := 28) rfl))) (fun _ h9 => h9) rfl dX4_count_104 ?_
    refine rSi hx hb hr hlk ?_ dX4_count_107
    show (nI ln) = _
    first | (rw [c_1_0]; rfl) | (rw [c_1_1]; rfl) | (rw [c_1_2]; rfl) | (rw [c_1_3]; rfl) | (rw [c_1_4]; rfl) | (rw [c_1_5]; rfl) | (rw [c_1_6]; rfl) | (rw [c_1_7]; rfl) | (rw [c_1_8]; rfl) | (unfold cnX_; rw [if_neg c_1_0, if_neg c_1_1, if_neg c_1_2, if_neg c_1_3, if_neg c_1_4, if_neg c_1_5, if_neg c_1_6, if_neg c_1_7, if_neg c_1_8]; first | exact (if_pos ⟨d_124, d_130⟩).symm | exact (if_neg (fun q9 => absurd q9.1 d_124)).symm | exact (if_neg (fun q9 => absurd q9.2 d_130)).symm)
  by_cases c_1_7 : q = 7
  · refine lv_tableIn (off := 107) (tgt := 108) hx hb dX4_count_1 (by rw [c_1_7]; decide) (by rw [c_1_7]; decide) (by rw [c_1_7]; rfl) (by decide) ?_
    refine lv_aload_n hx hb dX4_count_108 rfl (lv_at hl 0 rfl) ?_
    refine va_get (ci := 4) (C := RX4) (T := TX4) (N := 9) hx hb hts hinX4 hown hK.1 hP 0 rfl rfl 7 (by decide) (hts _ (List.mem_of_getElem? (i := 3) rfl)) (fun _ h9 => h9) rfl dX4_count_109 ?_
    refine rSi hx hb hr hlk ?_ dX4_count_112
    show (nI tc) = _
    first | (rw [c_1_0]; rfl) | (rw [c_1_1]; rfl) | (rw [c_1_2]; rfl) | (rw [c_1_3]; rfl) | (rw [c_1_4]; rfl) | (rw [c_1_5]; rfl) | (rw [c_1_6]; rfl) | (rw [c_1_7]; rfl) | (rw [c_1_8]; rfl) | (unfold cnX_; rw [if_neg c_1_0, if_neg c_1_1, if_neg c_1_2, if_neg c_1_3, if_neg c_1_4, if_neg c_1_5, if_neg c_1_6, if_neg c_1_7, if_neg c_1_8]; first | exact (if_pos ⟨d_124, d_130⟩).symm | exact (if_neg (fun q9 => absurd q9.1 d_124)).symm | exact (if_neg (fun q9 => absurd q9.2 d_130)).symm)
  by_cases c_1_8 : q = 8
  · refine lv_tableIn (off := 112) (tgt := 113) hx hb dX4_count_1 (by rw [c_1_8]; decide) (by rw [c_1_8]; decide) (by rw [c_1_8]; rfl) (by decide) ?_
    refine lv_aload_n hx hb dX4_count_113 rfl (lv_at hl 0 rfl) ?_
    refine va_get (ci := 4) (C := RX4) (T := TX4) (N := 9) hx hb hts hinX4 hown hK.1 hP 0 rfl rfl 4 (by decide) (hts _ (List.mem_of_getElem? (i := 4) rfl)) (fun _ h9 => h9) rfl dX4_count_114 ?_
    refine va_getN (ci := 3) (C := RX3) (T := TX3) (N := 3) hx hb hts hinX3 hown hK.1 hP 9 rfl rfl 2 (by decide) (va_Nw.use rfl (hK.2 _ (List.mem_of_getElem? (i := 26) rfl))) (fun _ h9 => h9) rfl dX4_count_117 ?_
    refine rSi hx hb hr hlk ?_ dX4_count_120
    show (nI ct) = _
    first | (rw [c_1_0]; rfl) | (rw [c_1_1]; rfl) | (rw [c_1_2]; rfl) | (rw [c_1_3]; rfl) | (rw [c_1_4]; rfl) | (rw [c_1_5]; rfl) | (rw [c_1_6]; rfl) | (rw [c_1_7]; rfl) | (rw [c_1_8]; rfl) | (unfold cnX_; rw [if_neg c_1_0, if_neg c_1_1, if_neg c_1_2, if_neg c_1_3, if_neg c_1_4, if_neg c_1_5, if_neg c_1_6, if_neg c_1_7, if_neg c_1_8]; first | exact (if_pos ⟨d_124, d_130⟩).symm | exact (if_neg (fun q9 => absurd q9.1 d_124)).symm | exact (if_neg (fun q9 => absurd q9.2 d_130)).symm)
  refine lv_tableOut (tgt := 121) hx hb dX4_count_1 (by have t0 := lv_neT c_1_0 (a := 0) (by decide); have t1 := lv_neT c_1_1 (a := 1) (by decide); have t2 := lv_neT c_1_2 (a := 2) (by decide); have t3 := lv_neT c_1_3 (a := 3) (by decide); have t4 := lv_neT c_1_4 (a := 4) (by decide); have t5 := lv_neT c_1_5 (a := 5) (by decide); have t6 := lv_neT c_1_6 (a := 6) (by decide); have t7 := lv_neT c_1_7 (a := 7) (by decide); have t8 := lv_neT c_1_8 (a := 8) (by decide); omega) (by decide) ?_
  refine lv_iload_n hx hb dX4_count_121 rfl (lv_at hl 1 rfl) ?_
  refine lv_bipush (v := 11) hx hb dX4_count_122 (by decide) ?_
  refine lv_icmp_lt (tgt := 145) hx hb dX4_count_124 (by decide) (fun c_124 => ?_) (fun c_124 => ?_)
  · have d_124 := Int32.not_le.mpr c_124
    refine lv_bipush (v := (-9)) hx hb dX4_count_145 (by decide) ?_
    refine rSi hx hb hr hlk ?_ dX4_count_147
    show (-9) = _
    first | (rw [c_1_0]; rfl) | (rw [c_1_1]; rfl) | (rw [c_1_2]; rfl) | (rw [c_1_3]; rfl) | (rw [c_1_4]; rfl) | (rw [c_1_5]; rfl) | (rw [c_1_6]; rfl) | (rw [c_1_7]; rfl) | (rw [c_1_8]; rfl) | (unfold cnX_; rw [if_neg c_1_0, if_neg c_1_1, if_neg c_1_2, if_neg c_1_3, if_neg c_1_4, if_neg c_1_5, if_neg c_1_6, if_neg c_1_7, if_neg c_1_8]; first | exact (if_pos ⟨d_124, d_130⟩).symm | exact (if_neg (fun q9 => absurd q9.1 d_124)).symm | exact (if_neg (fun q9 => absurd q9.2 d_130)).symm)
  · have d_124 := Int32.not_lt.mp c_124
    refine lv_iload_n hx hb dX4_count_127 rfl (lv_at hl 1 rfl) ?_
    refine lv_bipush (v := 16) hx hb dX4_count_128 (by decide) ?_
    refine lv_icmp_gt (tgt := 145) hx hb dX4_count_130 (by decide) (fun c_130 => ?_) (fun c_130 => ?_)
    · have d_130 := Int32.not_le.mpr c_130
      refine lv_bipush (v := (-9)) hx hb dX4_count_145 (by decide) ?_
      refine rSi hx hb hr hlk ?_ dX4_count_147
      show (-9) = _
      first | (rw [c_1_0]; rfl) | (rw [c_1_1]; rfl) | (rw [c_1_2]; rfl) | (rw [c_1_3]; rfl) | (rw [c_1_4]; rfl) | (rw [c_1_5]; rfl) | (rw [c_1_6]; rfl) | (rw [c_1_7]; rfl) | (rw [c_1_8]; rfl) | (unfold cnX_; rw [if_neg c_1_0, if_neg c_1_1, if_neg c_1_2, if_neg c_1_3, if_neg c_1_4, if_neg c_1_5, if_neg c_1_6, if_neg c_1_7, if_neg c_1_8]; first | exact (if_pos ⟨d_124, d_130⟩).symm | exact (if_neg (fun q9 => absurd q9.1 d_124)).symm | exact (if_neg (fun q9 => absurd q9.2 d_130)).symm)
    · have d_130 := Int32.not_lt.mp c_130
      refine lv_aload_n hx hb dX4_count_133 rfl (lv_at hl 0 rfl) ?_
      refine va_get (ci := 4) (C := RX4) (T := TX4) (N := 9) hx hb hts hinX4 hown hK.1 hP 0 rfl rfl 8 (by decide) (hts _ (List.mem_of_getElem? (i := 5) rfl)) (fun _ h9 => h9) rfl dX4_count_134 ?_
      refine lv_iload_n hx hb dX4_count_137 rfl (lv_at hl 1 rfl) ?_
      refine lv_bipush (v := 10) hx hb dX4_count_138 (by decide) ?_
      refine lv_isub hx hb dX4_count_140 ?_
      refine jald hx hb hK.1 hP 11 0 (tn_ q - 10) rfl rfl ((cn_i d_124 d_130).1) ((cn_i d_124 d_130).2) (Nat.le_of_ble_eq_true rfl) dX4_count_141 ?_
      refine lv_goto (tgt := 147) hx hb dX4_count_142 (by decide) ?_
      refine rSi hx hb hr hlk ?_ dX4_count_147
      show (rf (tn_ q - 10)) = _
      first | (rw [c_1_0]; rfl) | (rw [c_1_1]; rfl) | (rw [c_1_2]; rfl) | (rw [c_1_3]; rfl) | (rw [c_1_4]; rfl) | (rw [c_1_5]; rfl) | (rw [c_1_6]; rfl) | (rw [c_1_7]; rfl) | (rw [c_1_8]; rfl) | (unfold cnX_; rw [if_neg c_1_0, if_neg c_1_1, if_neg c_1_2, if_neg c_1_3, if_neg c_1_4, if_neg c_1_5, if_neg c_1_6, if_neg c_1_7, if_neg c_1_8]; first | exact (if_pos ⟨d_124, d_130⟩).symm | exact (if_neg (fun q9 => absurd q9.1 d_124)).symm | exact (if_neg (fun q9 => absurd q9.2 d_130)).symm)

theorem okX4_tryLetters : jok yX4_tryLetters wsX4_tryLetters cX4_tryLetters 4 (some .int) 0 := ⟨⟨_, rfl⟩, by decide +kernel, by decide +kernel⟩
set_option maxHeartbeats 1000000 in
set_option maxRecDepth 100000 in
theorem qX4_tryLetters (l : Launch) (D : va_G) (cI cB : ClassId) (g : Nat → Nat) (hi : Int32) (tc : Nat) (B : BayT) (T : BayT) (L : Nat → Int32) (ln : Nat) (la : Nat) (ct : Nat) (hn7 : sn_ B ≤ 7) (hln : ln ≤ 96) : jMi D cI cB l yX4_tryLetters wsX4_tryLetters 6 [.ref (g 0)] (xO g hi tc ++ miO g ++ bW cI g 4 B ++ bW cI g 10 T ++ lW cI g L ln ++ pW cB g la ct) (S := BayT) (fun r u => r = tv_ (tl_ L ln 97 0 0 B)) (fun u => xO g hi tc ++ miO g ++ bW cI g 4 (tb_ B (tl_ L ln 97 0 0 B)) ++ bW cI g 10 u ++ lW cI g L ln ++ pW cB g la (tc8_ ct (tl_ L ln 97 0 0 B))) := by
  refine jMi.of (cc := cX4_tryLetters) (maxL := 4) (ret := (some .int)) okX4_tryLetters (Nat.le_of_ble_eq_true rfl) ?_
  intro p e s m below meth c ls A hx hb hr hts hown hlk hml hP hK hD hA hS hl
  replace hown : s.vm.findClass RX4 = some m.cls := hown
  replace hl : lv_has ls 4 [(0, .ref (g 0))] := hl
  have hinX1 : ∀ w ∈ wsX10, w ∈ wsX4_tryLetters := by decide +kernel
  have hinX3 : ∀ w ∈ wsX30, w ∈ wsX4_tryLetters := by decide +kernel
  have hinX4 : ∀ w ∈ wsX40, w ∈ wsX4_tryLetters := by decide +kernel
  refine lv_aload_n hx hb dX4_tryLetters_0 rfl (lv_at hl 0 rfl) ?_
  refine va_get (ci := 4) (C := RX4) (T := TX4) (N := 9) hx hb hts hinX4 hown hK.1 hP 0 rfl rfl 0 (by decide) (hts _ (List.mem_of_getElem? (i := 1) rfl)) (fun _ h9 => h9) rfl dX4_tryLetters_1 ?_
  refine kMrN hx hb hml hown hts hK hP hD hA hS gX4_tryLetters_X2_asNow_n93 (hK.2 _ (List.mem_of_getElem? (i := 32) rfl)) (hts _ (List.mem_of_getElem? (i := 6) rfl)) (hts _ (List.mem_of_getElem? (i := 5) rfl)) (hts _ (List.mem_of_getElem? (i := 7) rfl)) okX2_asNow (qX2_asNow l D cI cB g B T ) [1, 2, 3, 4, 5, 6, 7, 8, 9, 10, 11, 12, 13] rfl (by decide) (fun _ => rfl) rfl rfl rfl (by decide) hl.1 rfl rfl (Nat.le_of_ble_eq_true rfl) dX4_tryLetters_4 (by decide) (fun u_2 H locs hw_3 hP hD hS => ?_)
  replace hw_3 : u_2 = B := hw_3
  subst u_2
  replace hP : va_P D vwCl (xO g hi tc ++ miO g ++ bW cI g 4 B ++ bW cI g 10 (B) ++ lW cI g L ln ++ pW cB g la ct) H := (va_P.m [false, true, true, true, true, true, true, true, true, true, true, true, true, true] [] hP)
  replace hD : va_D A (xO g hi tc ++ miO g ++ bW cI g 4 B ++ bW cI g 10 (B) ++ lW cI g L ln ++ pW cB g la ct) := (va_D.m [false, true, true, true, true, true, true, true, true, true, true, true, true, true] [] hD)
  refine lv_astore_n (lv' := [(1, .ref (g 10)), (0, .ref (g 0))]) hx hb dX4_tryLetters_7 rfl hl (by decide) rfl (fun ls hl => ?_)
  refine lv_iconst (v := 0) hx hb dX4_tryLetters_8 (by decide) ?_
  refine lv_istore_n (lv' := [(2, .int 0), (1, .ref (g 10)), (0, .ref (g 0))]) hx hb dX4_tryLetters_9 rfl hl (by decide) rfl (fun ls hl => ?_)
  refine lv_iconst (v := 0) hx hb dX4_tryLetters_10 (by decide) ?_
  refine lv_istore_n (lv' := [(3, .int 0), (2, .int 0), (1, .ref (g 10)), (0, .ref (g 0))]) hx hb dX4_tryLetters_11 rfl hl (by decide) rfl (fun ls hl => ?_)
  have lp_12 : ∀ (fu_12 : Nat) (k : Nat) (i : Nat) (m9 : Nat) (x2_12 : Int32) (x3_12 : Int32) (T2 : BayT), (x2_12 = nI k) → (x3_12 = nI i) → (k ≤ ln) → (i ≤ 102) → (i + m9 ≥ 97) → (sn_ T2 ≤ 7) → (tl_ L ln m9 k i T2 = tl_ L ln 97 0 0 B) → 97 - i < fu_12 → ∀ (H : Heap) (locs : List Loc), va_P D vwCl (xO g hi tc ++ miO g ++ bW cI g 4 B ++ bW cI g 10 T2 ++ lW cI g L ln ++ pW cB g la ct) H → va_D A (xO g hi tc ++ miO g ++ bW cI g 4 B ++ bW cI g 10 T2 ++ lW cI g L ln ++ pW cB g la ct) → va_S A s.heap H locs → ∀ ls : Array Slot, lv_has ls 4 [(3, .int x3_12), (2, .int x2_12), (1, .ref (g 10)), (0, .ref (g 0))] → W p l e (jR 6) s m ([.ref (g 0)] : List Value).toArray below meth c H locs 0 0 (MQ below (va_Qi (S := BayT) (fun r u => r = tv_ (tl_ L ln 97 0 0 B)) (fun u t => va_P D vwCl ((fun u => xO g hi tc ++ miO g ++ bW cI g 4 (tb_ B (tl_ L ln 97 0 0 B)) ++ bW cI g 10 u ++ lW cI g L ln ++ pW cB g la (tc8_ ct (tl_ L ln 97 0 0 B))) u) t.heap) A) ([.ref (g 0)] : List Value).toArray s 0 0 A) (F0 m 12 ls []) := by
    intro fu_12
    induction fu_12 with
    | zero => intro k i m9 x2_12 x3_12 T2 hx2_12 hx3_12 hk9 hi9 hm9 hT7 hre hfu; exact absurd hfu (Nat.not_lt_zero _)
    | succ fu_12 ih_12 =>
      intro k i m9 x2_12 x3_12 T2 hx2_12 hx3_12 hk9 hi9 hm9 hT7 hre hfu_12 H locs hP hD hS ls hl
      subst x2_12
      subst x3_12
      replace hl : lv_has ls 4 [(3, .int (nI i)), (2, .int (nI k)), (1, .ref (g 10)), (0, .ref (g 0))] := hl
      replace hP : va_P D vwCl (xO g hi tc ++ miO g ++ bW cI g 4 B ++ bW cI g 10 T2 ++ lW cI g L ln ++ pW cB g la ct) H := hP
      replace hD : va_D A (xO g hi tc ++ miO g ++ bW cI g 4 B ++ bW cI g 10 T2 ++ lW cI g L ln ++ pW cB g la ct) := hD
      have h4 := db_4 (la_ L ln i)
      refine lv_iload_n hx hb dX4_tryLetters_12 rfl (lv_at hl 0 rfl) ?_
      refine lv_aload_n hx hb dX4_tryLetters_13 rfl (lv_at hl 3 rfl) ?_
      refine va_get (ci := 4) (C := RX4) (T := TX4) (N := 9) hx hb hts hinX4 hown hK.1 hP 0 rfl rfl 5 (by decide) (hts _ (List.mem_of_getElem? (i := 2) rfl)) (fun _ h9 => h9) rfl dX4_tryLetters_14 ?_
      refine va_getN (ci := 1) (C := RX1) (T := TX1) (N := 2) hx hb hts hinX1 hown hK.1 hP 14 rfl rfl 1 (by decide) (va_Nw.use rfl (hK.2 _ (List.mem_of_getElem? (i := 28) rfl))) (fun _ h9 => h9) rfl dX4_tryLetters_17 ?_
      refine lv_icmp_ge (tgt := 78) hx hb dX4_tryLetters_20 (by decide) (fun c_20 => ?_) (fun c_20 => ?_)
      · replace c_20 : nI ln ≤ nI i := c_20
        rw [jle (by omega) (by omega)] at c_20
        rw [tl_c (by omega)] at hre
        rw [← hre]
        refine lv_aload_n hx hb dX4_tryLetters_78 rfl (lv_at hl 3 rfl) ?_
        refine va_get (ci := 4) (C := RX4) (T := TX4) (N := 9) hx hb hts hinX4 hown hK.1 hP 0 rfl rfl 1 (by decide) (hts _ (List.mem_of_getElem? (i := 3) rfl)) (fun _ h9 => h9) rfl dX4_tryLetters_79 ?_
        refine lv_aload_n hx hb dX4_tryLetters_82 rfl (lv_at hl 2 rfl) ?_
        refine kMvN hx hb hml hown hts hK hP hD hA hS gX4_tryLetters_X0_become_n108 (hK.2 _ (List.mem_of_getElem? (i := 51) rfl)) (hts _ (List.mem_of_getElem? (i := 12) rfl)) (hts _ (List.mem_of_getElem? (i := 11) rfl)) (hts _ (List.mem_of_getElem? (i := 13) rfl)) okX0_become (qX0_become l D cI cB g 4 10 B T2 ) [2, 3, 4, 5, 6, 7, 8, 9, 10, 11, 12, 13] rfl (by decide) (fun _ => rfl) rfl rfl rfl (by decide) hl.1 rfl rfl (Nat.le_of_ble_eq_true rfl) dX4_tryLetters_83 (by decide) (fun u_5 H locs hw_6 hP hD hS => ?_)
        replace hw_6 : u_5 = T2 := hw_6
        subst u_5
        replace hP : va_P D vwCl (xO g hi tc ++ miO g ++ bW cI g 4 T2 ++ bW cI g 10 T2 ++ lW cI g L ln ++ pW cB g la ct) H := (va_P.m [false, false, true, true, true, true, true, true, true, true, true, true, true, true] [] hP)
        replace hD : va_D A (xO g hi tc ++ miO g ++ bW cI g 4 T2 ++ bW cI g 10 T2 ++ lW cI g L ln ++ pW cB g la ct) := (va_D.m [false, false, true, true, true, true, true, true, true, true, true, true, true, true] [] hD)
        refine lv_aload_n hx hb dX4_tryLetters_86 rfl (lv_at hl 3 rfl) ?_
        refine va_get (ci := 4) (C := RX4) (T := TX4) (N := 9) hx hb hts hinX4 hown hK.1 hP 0 rfl rfl 4 (by decide) (hts _ (List.mem_of_getElem? (i := 4) rfl)) (fun _ h9 => h9) rfl dX4_tryLetters_87 ?_
        refine lv_iconst (v := 0) hx hb dX4_tryLetters_90 (by decide) ?_
        refine va_putN (ci := 3) (ty := .int) (C := RX3) (T := TX3) (N := 3) hx hb hts hinX3 tyX3 tyX3_ok nmX3 hown hK.1 hP hD hS 16 rfl rfl 2 (by decide) (va_Nw.use rfl (hK.2 _ (List.mem_of_getElem? (i := 26) rfl))) (fun _ h9 => h9) rfl (by decide +kernel) (rfl) (rfl) (Nat.le_of_ble_eq_true rfl) dX4_tryLetters_91 (fun H locs hP hD hS => ?_)
        replace hP : va_P D vwCl (xO g hi tc ++ miO g ++ bW cI g 4 T2 ++ bW cI g 10 T2 ++ lW cI g L ln ++ pW cB g la 0) H := hP
        replace hD : va_D A (xO g hi tc ++ miO g ++ bW cI g 4 T2 ++ bW cI g 10 T2 ++ lW cI g L ln ++ pW cB g la 0) := hD
        refine lv_iload_n hx hb dX4_tryLetters_94 rfl (lv_at hl 1 rfl) ?_
        refine rMi hx hb hr hlk hS T2 hP ?_ dX4_tryLetters_95
        rfl
      · replace c_20 : ¬ nI ln ≤ nI i := c_20
        rw [jle (by omega) (by omega)] at c_20
        refine lv_iload_n hx hb dX4_tryLetters_23 rfl (lv_at hl 1 rfl) ?_
        refine lv_aload_n hx hb dX4_tryLetters_24 rfl (lv_at hl 3 rfl) ?_
        refine va_get (ci := 4) (C := RX4) (T := TX4) (N := 9) hx hb hts hinX4 hown hK.1 hP 0 rfl rfl 5 (by decide) (hts _ (List.mem_of_getElem? (i := 2) rfl)) (fun _ h9 => h9) rfl dX4_tryLetters_25 ?_
        refine va_getN (ci := 1) (C := RX1) (T := TX1) (N := 2) hx hb hts hinX1 hown hK.1 hP 14 rfl rfl 1 (by decide) (va_Nw.use rfl (hK.2 _ (List.mem_of_getElem? (i := 28) rfl))) (fun _ h9 => h9) rfl dX4_tryLetters_28 ?_
        refine lv_icmp_ge (tgt := 78) hx hb dX4_tryLetters_31 (by decide) (fun c_31 => ?_) (fun c_31 => ?_)
        · replace c_31 : nI ln ≤ nI k := c_31
          rw [jle (by omega) (by omega)] at c_31
          rw [tl_c (by omega)] at hre
          rw [← hre]
          refine lv_aload_n hx hb dX4_tryLetters_78 rfl (lv_at hl 3 rfl) ?_
          refine va_get (ci := 4) (C := RX4) (T := TX4) (N := 9) hx hb hts hinX4 hown hK.1 hP 0 rfl rfl 1 (by decide) (hts _ (List.mem_of_getElem? (i := 3) rfl)) (fun _ h9 => h9) rfl dX4_tryLetters_79 ?_
          refine lv_aload_n hx hb dX4_tryLetters_82 rfl (lv_at hl 2 rfl) ?_
          refine kMvN hx hb hml hown hts hK hP hD hA hS gX4_tryLetters_X0_become_n108 (hK.2 _ (List.mem_of_getElem? (i := 51) rfl)) (hts _ (List.mem_of_getElem? (i := 12) rfl)) (hts _ (List.mem_of_getElem? (i := 11) rfl)) (hts _ (List.mem_of_getElem? (i := 13) rfl)) okX0_become (qX0_become l D cI cB g 4 10 B T2 ) [2, 3, 4, 5, 6, 7, 8, 9, 10, 11, 12, 13] rfl (by decide) (fun _ => rfl) rfl rfl rfl (by decide) hl.1 rfl rfl (Nat.le_of_ble_eq_true rfl) dX4_tryLetters_83 (by decide) (fun u_8 H locs hw_9 hP hD hS => ?_)
          replace hw_9 : u_8 = T2 := hw_9
          subst u_8
          replace hP : va_P D vwCl (xO g hi tc ++ miO g ++ bW cI g 4 T2 ++ bW cI g 10 T2 ++ lW cI g L ln ++ pW cB g la ct) H := (va_P.m [false, false, true, true, true, true, true, true, true, true, true, true, true, true] [] hP)
          replace hD : va_D A (xO g hi tc ++ miO g ++ bW cI g 4 T2 ++ bW cI g 10 T2 ++ lW cI g L ln ++ pW cB g la ct) := (va_D.m [false, false, true, true, true, true, true, true, true, true, true, true, true, true] [] hD)
          refine lv_aload_n hx hb dX4_tryLetters_86 rfl (lv_at hl 3 rfl) ?_
          refine va_get (ci := 4) (C := RX4) (T := TX4) (N := 9) hx hb hts hinX4 hown hK.1 hP 0 rfl rfl 4 (by decide) (hts _ (List.mem_of_getElem? (i := 4) rfl)) (fun _ h9 => h9) rfl dX4_tryLetters_87 ?_
          refine lv_iconst (v := 0) hx hb dX4_tryLetters_90 (by decide) ?_
          refine va_putN (ci := 3) (ty := .int) (C := RX3) (T := TX3) (N := 3) hx hb hts hinX3 tyX3 tyX3_ok nmX3 hown hK.1 hP hD hS 16 rfl rfl 2 (by decide) (va_Nw.use rfl (hK.2 _ (List.mem_of_getElem? (i := 26) rfl))) (fun _ h9 => h9) rfl (by decide +kernel) (rfl) (rfl) (Nat.le_of_ble_eq_true rfl) dX4_tryLetters_91 (fun H locs hP hD hS => ?_)
          replace hP : va_P D vwCl (xO g hi tc ++ miO g ++ bW cI g 4 T2 ++ bW cI g 10 T2 ++ lW cI g L ln ++ pW cB g la 0) H := hP
          replace hD : va_D A (xO g hi tc ++ miO g ++ bW cI g 4 T2 ++ bW cI g 10 T2 ++ lW cI g L ln ++ pW cB g la 0) := hD
          refine lv_iload_n hx hb dX4_tryLetters_94 rfl (lv_at hl 1 rfl) ?_
          refine rMi hx hb hr hlk hS T2 hP ?_ dX4_tryLetters_95
          rfl
        · replace c_31 : ¬ nI ln ≤ nI k := c_31
          rw [jle (by omega) (by omega)] at c_31
          refine lv_aload_n hx hb dX4_tryLetters_34 rfl (lv_at hl 3 rfl) ?_
          refine va_get (ci := 4) (C := RX4) (T := TX4) (N := 9) hx hb hts hinX4 hown hK.1 hP 0 rfl rfl 5 (by decide) (hts _ (List.mem_of_getElem? (i := 2) rfl)) (fun _ h9 => h9) rfl dX4_tryLetters_35 ?_
          refine lv_iload_n hx hb dX4_tryLetters_38 rfl (lv_at hl 0 rfl) ?_
          refine lv_aload_n hx hb dX4_tryLetters_39 rfl (lv_at hl 2 rfl) ?_
          refine kSiN hx hb hml hown hts hK hP gX4_tryLetters_X1_refusalOfStatement_n97 (hK.2 _ (List.mem_of_getElem? (i := 34) rfl)) (hts _ (List.mem_of_getElem? (i := 31) rfl)) (hts _ (List.mem_of_getElem? (i := 30) rfl)) (hts _ (List.mem_of_getElem? (i := 32) rfl)) okX1_refusalOfStatement (qX1_refusalOfStatement l D cI cB g L ln T2 i (by omega) hT7 (by omega)) [14, 15, 8, 9, 10, 11, 12, 13] rfl rfl rfl rfl (by decide) hl.1 rfl rfl (Nat.le_of_ble_eq_true rfl) dX4_tryLetters_40 (by decide) (fun r_10 hr_11 => ?_)
          replace hr_11 : r_10 = rst_ L ln i T2 := hr_11
          subst r_10
          refine lv_if_eq (tgt := 52) hx hb dX4_tryLetters_43 (by decide) (fun c_43 => ?_) (fun c_43 => ?_)
          · skip
            refine lv_aload_n hx hb dX4_tryLetters_52 rfl (lv_at hl 3 rfl) ?_
            refine va_get (ci := 4) (C := RX4) (T := TX4) (N := 9) hx hb hts hinX4 hown hK.1 hP 0 rfl rfl 5 (by decide) (hts _ (List.mem_of_getElem? (i := 2) rfl)) (fun _ h9 => h9) rfl dX4_tryLetters_53 ?_
            refine lv_iload_n hx hb dX4_tryLetters_56 rfl (lv_at hl 0 rfl) ?_
            refine lv_aload_n hx hb dX4_tryLetters_57 rfl (lv_at hl 2 rfl) ?_
            refine kMvN hx hb hml hown hts hK hP hD hA hS gX4_tryLetters_X1_carryOut_n101 (hK.2 _ (List.mem_of_getElem? (i := 44) rfl)) (hts _ (List.mem_of_getElem? (i := 31) rfl)) (hts _ (List.mem_of_getElem? (i := 76) rfl)) (hts _ (List.mem_of_getElem? (i := 77) rfl)) okX1_carryOut (qX1_carryOut l D cI cB g L ln T2 i (by omega) hT7 (by omega) c_43) [14, 15, 8, 9, 10, 11, 12, 13] rfl (by decide) (fun _ => rfl) rfl rfl rfl (by decide) hl.1 rfl rfl (Nat.le_of_ble_eq_true rfl) dX4_tryLetters_58 (by decide) (fun u_13 H locs hw_14 hP hD hS => ?_)
            replace hw_14 : u_13 = cst_ L ln i T2 := hw_14
            subst u_13
            replace hP : va_P D vwCl (xO g hi tc ++ miO g ++ bW cI g 4 B ++ bW cI g 10 (cst_ L ln i T2) ++ lW cI g L ln ++ pW cB g la ct) H := (va_P.m [false, false, false, false, false, false, false, false, true, true, true, true, true, true] [] (va_P.m [false, false, false, false, false, false, false, false, false, false, false, false, false, false, true, true] [8, 9, 10, 11, 12, 13] hP))
            replace hD : va_D A (xO g hi tc ++ miO g ++ bW cI g 4 B ++ bW cI g 10 (cst_ L ln i T2) ++ lW cI g L ln ++ pW cB g la ct) := (va_D.m [false, false, false, false, false, false, false, false, true, true, true, true, true, true] [] (va_D.m [false, false, false, false, false, false, false, false, false, false, false, false, false, false, true, true] [8, 9, 10, 11, 12, 13] hD))
            refine lv_iload_n hx hb dX4_tryLetters_61 rfl (lv_at hl 0 rfl) ?_
            refine lv_aload_n hx hb dX4_tryLetters_62 rfl (lv_at hl 3 rfl) ?_
            refine va_get (ci := 4) (C := RX4) (T := TX4) (N := 9) hx hb hts hinX4 hown hK.1 hP 0 rfl rfl 5 (by decide) (hts _ (List.mem_of_getElem? (i := 2) rfl)) (fun _ h9 => h9) rfl dX4_tryLetters_63 ?_
            refine lv_iload_n hx hb dX4_tryLetters_66 rfl (lv_at hl 0 rfl) ?_
            refine kSiN hx hb hml hown hts hK hP gX4_tryLetters_X1_lengthAt_n105 (hK.2 _ (List.mem_of_getElem? (i := 50) rfl)) (hts _ (List.mem_of_getElem? (i := 31) rfl)) (hts _ (List.mem_of_getElem? (i := 152) rfl)) (hts _ (List.mem_of_getElem? (i := 153) rfl)) okX1_lengthAt (qX1_lengthAt l D cI cB g L ln i (by omega) (by omega)) [14, 15] rfl rfl rfl rfl (by decide) hl.1 rfl rfl (Nat.le_of_ble_eq_true rfl) dX4_tryLetters_67 (by decide) (fun r_15 hr_16 => ?_)
            replace hr_16 : r_15 = nI (db_ (la_ L ln i) + 2) := hr_16
            subst r_15
            refine lv_iadd hx hb dX4_tryLetters_70 ?_
            refine lv_istore_n (lv' := [(3, .int ((nI i) + (nI (db_ (la_ L ln i) + 2)))), (2, .int (nI k)), (1, .ref (g 10)), (0, .ref (g 0))]) hx hb dX4_tryLetters_71 rfl hl (by decide) rfl (fun ls hl => ?_)
            refine lv_iinc (v := (nI k) + 1) (lv' := [(2, .int ((nI k) + 1)), (3, .int ((nI i) + (nI (db_ (la_ L ln i) + 2)))), (1, .ref (g 10)), (0, .ref (g 0))]) hx hb dX4_tryLetters_72 hl (k := 1) rfl (by first | rfl | decide) (by decide) rfl (fun ls hl => ?_)
            refine lv_goto (tgt := 12) hx hb dX4_tryLetters_75 (by decide) ?_
            exact ih_12 (k + 1) (i + (db_ (la_ L ln i) + 2)) (m9 - 1) ((nI k) + 1) ((nI i) + (nI (db_ (la_ L ln i) + 2))) (cst_ L ln i T2) (nI_1 _) (nI_add _ _) (by omega) (by omega) (by omega) (sn_cst hT7) ((tl_a (by omega) (by omega) (by omega) c_43).symm.trans hre) (by omega) _ _ hP hD hS ls (lv_sub hl [1, 0, 2, 3] rfl)
          · skip
            refine lv_sipush (v := (-2000)) hx hb dX4_tryLetters_46 (by decide) ?_
            refine lv_iload_n hx hb dX4_tryLetters_49 rfl (lv_at hl 0 rfl) ?_
            refine lv_isub hx hb dX4_tryLetters_50 ?_
            rw [tl_b (by omega) (by omega) (by omega) c_43] at hre
            rw [← hre]
            refine rMi hx hb hr hlk hS T2 hP ?_ dX4_tryLetters_51
            rfl
  exact lp_12 (97 + 1) 0 0 97 0 0 (B) (by first | rfl | exact nI_0.symm) (by first | rfl | exact nI_0.symm) (by omega) (by omega) (by omega) (hn7) (rfl) (by omega) _ _ hP hD hS ls (lv_sub hl [0, 1, 2, 3] rfl)

theorem okX4_bay : jok yX4_bay wsX4_bay cX4_bay 2 (some .int) 0 := ⟨⟨_, rfl⟩, by decide +kernel, by decide +kernel⟩
set_option maxHeartbeats 1000000 in
set_option maxRecDepth 100000 in
theorem qX4_bay (l : Launch) (D : va_G) (cI cB : ClassId) (g : Nat → Nat) (hi : Int32) (tc : Nat) (B : BayT) (T : BayT) (L : Nat → Int32) (ln : Nat) (la : Nat) (ct : Nat) (hn7 : sn_ B ≤ 7) (hln : ln ≤ 96) : jMi D cI cB l yX4_bay wsX4_bay 7 [.ref (g 0)] (xO g hi tc ++ miO g ++ bW cI g 4 B ++ bW cI g 10 T ++ lW cI g L ln ++ pW cB g la ct) (S := BayT × Nat × BayT) (fun r u => r = bv_ (fa_ L ln 97 0) (tl_ L ln 97 0 0 B) ∧ u.2.1 = bC_ (fa_ L ln 97 0) ct (tl_ L ln 97 0 0 B) ∧ u.2.2 = bB_ (fa_ L ln 97 0) B (tl_ L ln 97 0 0 B)) (fun u => xO g hi tc ++ miO g ++ bW cI g 4 u.2.2 ++ bW cI g 10 u.1 ++ lW cI g L 0 ++ pW cB g la u.2.1) := by
  refine jMi.of (cc := cX4_bay) (maxL := 2) (ret := (some .int)) okX4_bay (Nat.le_of_ble_eq_true rfl) ?_
  intro p e s m below meth c ls A hx hb hr hts hown hlk hml hP hK hD hA hS hl
  replace hown : s.vm.findClass RX4 = some m.cls := hown
  replace hl : lv_has ls 2 [(0, .ref (g 0))] := hl
  have hinX1 : ∀ w ∈ wsX10, w ∈ wsX4_bay := by decide +kernel
  have hinX4 : ∀ w ∈ wsX40, w ∈ wsX4_bay := by decide +kernel
  refine lv_aload_n hx hb dX4_bay_0 rfl (lv_at hl 0 rfl) ?_
  refine va_get (ci := 4) (C := RX4) (T := TX4) (N := 9) hx hb hts hinX4 hown hK.1 hP 0 rfl rfl 5 (by decide) (hts _ (List.mem_of_getElem? (i := 1) rfl)) (fun _ h9 => h9) rfl dX4_bay_1 ?_
  refine kSiN hx hb hml hown hts hK hP gX4_bay_X1_fault_n83 (hK.2 _ (List.mem_of_getElem? (i := 31) rfl)) (hts _ (List.mem_of_getElem? (i := 3) rfl)) (hts _ (List.mem_of_getElem? (i := 2) rfl)) (hts _ (List.mem_of_getElem? (i := 4) rfl)) okX1_fault (qX1_fault l D cI cB g L ln (by omega)) [14, 15] rfl rfl rfl rfl (by decide) hl.1 rfl rfl (Nat.le_of_ble_eq_true rfl) dX4_bay_4 (by decide) (fun r_1 hr_2 => ?_)
  replace hr_2 : r_1 = fv_ (fa_ L ln 97 0) := hr_2
  subst r_1
  refine lv_istore_n (lv' := [(1, .int (fv_ (fa_ L ln 97 0))), (0, .ref (g 0))]) hx hb dX4_bay_7 rfl hl (by decide) rfl (fun ls hl => ?_)
  refine lv_iload_n hx hb dX4_bay_8 rfl (lv_at hl 0 rfl) ?_
  refine lv_if_ne (tgt := 17) hx hb dX4_bay_9 (by decide) (fun c_9 => ?_) (fun c_9 => ?_)
  · rw [fv_z hln] at c_9
    refine lv_aload_n hx hb dX4_bay_17 rfl (lv_at hl 1 rfl) ?_
    refine va_get (ci := 4) (C := RX4) (T := TX4) (N := 9) hx hb hts hinX4 hown hK.1 hP 0 rfl rfl 5 (by decide) (hts _ (List.mem_of_getElem? (i := 1) rfl)) (fun _ h9 => h9) rfl dX4_bay_18 ?_
    refine lv_iconst (v := 0) hx hb dX4_bay_21 (by decide) ?_
    refine sti (x := 0) (y := nI 0) (rfl) ?_
    refine va_putN (ci := 1) (ty := .int) (C := RX1) (T := TX1) (N := 2) hx hb hts hinX1 tyX1 tyX1_ok nmX1 hown hK.1 hP hD hS 14 rfl rfl 1 (by decide) (va_Nw.use rfl (hK.2 _ (List.mem_of_getElem? (i := 28) rfl))) (fun _ h9 => h9) rfl (by decide +kernel) (rfl) (rfl) (Nat.le_of_ble_eq_true rfl) dX4_bay_22 (fun H locs hP hD hS => ?_)
    replace hP : va_P D vwCl (xO g hi tc ++ miO g ++ bW cI g 4 B ++ bW cI g 10 T ++ lW cI g L 0 ++ pW cB g la ct) H := hP
    replace hD : va_D A (xO g hi tc ++ miO g ++ bW cI g 4 B ++ bW cI g 10 T ++ lW cI g L 0 ++ pW cB g la ct) := hD
    refine lv_iload_n hx hb dX4_bay_25 rfl (lv_at hl 0 rfl) ?_
    refine rMi hx hb hr hlk hS (T, ct, B) hP ?_ dX4_bay_26
    first | (rw [c_9]; exact ⟨rfl, rfl, rfl⟩) | (cases hF : fa_ L ln 97 0 with | none => exact absurd hF c_9 | some q9 => exact ⟨rfl, rfl, rfl⟩)
  · rw [fv_z hln] at c_9
    refine lv_aload_n hx hb dX4_bay_12 rfl (lv_at hl 1 rfl) ?_
    refine kMiV hx hb hml hown hts hK hP hD hA hS gX4_bay_X4_tryLetters okX4_tryLetters (qX4_tryLetters l D cI cB g hi tc B T L ln la ct (by omega) (by omega)) [0, 1, 2, 3, 4, 5, 6, 7, 8, 9, 10, 11, 12, 13, 14, 15, 16, 17] rfl (by decide) (fun _ => rfl) rfl rfl rfl (by decide) hl.1 rfl rfl (Nat.le_of_ble_eq_true rfl) dX4_bay_13 (by decide) (fun r_3 u_4 H locs hw_5 hP hD hS => ?_)
    replace hw_5 : r_3 = tv_ (tl_ L ln 97 0 0 B) := hw_5
    subst r_3
    replace hP : va_P D vwCl (xO g hi tc ++ miO g ++ bW cI g 4 (tb_ B (tl_ L ln 97 0 0 B)) ++ bW cI g 10 u_4 ++ lW cI g L ln ++ pW cB g la (tc8_ ct (tl_ L ln 97 0 0 B))) H := (va_P.m [true, true, true, true, true, true, true, true, true, true, true, true, true, true, true, true, true, true] [] hP)
    replace hD : va_D A (xO g hi tc ++ miO g ++ bW cI g 4 (tb_ B (tl_ L ln 97 0 0 B)) ++ bW cI g 10 u_4 ++ lW cI g L ln ++ pW cB g la (tc8_ ct (tl_ L ln 97 0 0 B))) := (va_D.m [true, true, true, true, true, true, true, true, true, true, true, true, true, true, true, true, true, true] [] hD)
    refine lv_istore_n (lv' := [(1, .int (tv_ (tl_ L ln 97 0 0 B))), (0, .ref (g 0))]) hx hb dX4_bay_16 rfl hl (by decide) rfl (fun ls hl => ?_)
    refine lv_aload_n hx hb dX4_bay_17 rfl (lv_at hl 1 rfl) ?_
    refine va_get (ci := 4) (C := RX4) (T := TX4) (N := 9) hx hb hts hinX4 hown hK.1 hP 0 rfl rfl 5 (by decide) (hts _ (List.mem_of_getElem? (i := 1) rfl)) (fun _ h9 => h9) rfl dX4_bay_18 ?_
    refine lv_iconst (v := 0) hx hb dX4_bay_21 (by decide) ?_
    refine sti (x := 0) (y := nI 0) (rfl) ?_
    refine va_putN (ci := 1) (ty := .int) (C := RX1) (T := TX1) (N := 2) hx hb hts hinX1 tyX1 tyX1_ok nmX1 hown hK.1 hP hD hS 14 rfl rfl 1 (by decide) (va_Nw.use rfl (hK.2 _ (List.mem_of_getElem? (i := 28) rfl))) (fun _ h9 => h9) rfl (by decide +kernel) (rfl) (rfl) (Nat.le_of_ble_eq_true rfl) dX4_bay_22 (fun H locs hP hD hS => ?_)
    replace hP : va_P D vwCl (xO g hi tc ++ miO g ++ bW cI g 4 (tb_ B (tl_ L ln 97 0 0 B)) ++ bW cI g 10 u_4 ++ lW cI g L 0 ++ pW cB g la (tc8_ ct (tl_ L ln 97 0 0 B))) H := hP
    replace hD : va_D A (xO g hi tc ++ miO g ++ bW cI g 4 (tb_ B (tl_ L ln 97 0 0 B)) ++ bW cI g 10 u_4 ++ lW cI g L 0 ++ pW cB g la (tc8_ ct (tl_ L ln 97 0 0 B))) := hD
    refine lv_iload_n hx hb dX4_bay_25 rfl (lv_at hl 0 rfl) ?_
    refine rMi hx hb hr hlk hS (u_4, (tc8_ ct (tl_ L ln 97 0 0 B)), (tb_ B (tl_ L ln 97 0 0 B))) hP ?_ dX4_bay_26
    first | (rw [c_9]; exact ⟨rfl, rfl, rfl⟩) | (cases hF : fa_ L ln 97 0 with | none => exact absurd hF c_9 | some q9 => exact ⟨rfl, rfl, rfl⟩)
