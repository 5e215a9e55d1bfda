theorem okX5_noise : jok yX5_noise wsX5_noise cX5_noise 3 (some .int) 2 := ⟨⟨_, rfl⟩, by decide +kernel, by decide +kernel⟩
set_option maxHeartbeats 2000000 in
set_option maxRecDepth 100000 in
theorem qX5_noise (l : Launch) (D : va_G) (cI cB : ClassId) (r : Nat → Nat) (B : BayT) (M : MT) (a : Int32) (h : Int32) (hI : bI_ B) : jMi D cI cB l yX5_noise wsX5_noise 3 [.ref (r 0), .int a, .int h] (mW cI r B M) (S := MT) (fun r u => r = (if f2_ (nb_ a (nI (sn_ B))) (nb_ h 24) = 0 then no_ B (tn_ a) h else f2_ (nb_ a (nI (sn_ B))) (nb_ h 24)) ∧ oQ_ M u (f2_ (nb_ a (nI (sn_ B))) (nb_ h 24))) (fun u => mW cI r B u) := by
  refine jMi.of (cc := cX5_noise) (maxL := 3) (ret := (some .int)) okX5_noise (Nat.le_of_ble_eq_true rfl) ?_
  intro p e s m below meth c ls A hx hb hr hts hown hlk hml hP hK hD hA hS hl
  replace hown : s.vm.findClass RX5 = some m.cls := hown
  replace hl : lv_has ls 3 [(0, .ref (r 0)), (1, .int a), (2, .int h)] := hl
  have hD0 := hD
  have hn7 := hI.1
  refine lv_aload_n hx hb dX5_noise_0 rfl (lv_at hl 0 rfl) ?_
  refine lv_iload_n hx hb dX5_noise_1 rfl (lv_at hl 1 rfl) ?_
  refine kSiV hx hb hml hown hts hK hP gX5_noise_X5_isShore okX5_isShore (qX5_isShore l D cI cB r B M a (by show sn_ B ≤ 7; omega)) [0, 1, 2, 3, 4, 5, 6, 7, 8, 9, 10, 11, 12, 13, 14, 15] rfl rfl rfl rfl (by decide) hl.1 rfl rfl (Nat.le_of_ble_eq_true rfl) dX5_noise_2 (by decide) (fun r_1 hr_2 => ?_)
  replace hr_2 : r_1 = b1 (0 ≤ a ∧ a < nI (sn_ B)) := hr_2
  subst r_1
  refine lv_if_eq (tgt := 27) hx hb dX5_noise_5 (by decide) (fun c_5 => ?_) (fun c_5 => ?_)
  · replace c_5 := b1_z c_5
    refine lv_aload_n hx hb dX5_noise_27 rfl (lv_at hl 0 rfl) ?_
    refine lv_iconst (v := (-1)) hx hb dX5_noise_28 (by decide) ?_
    refine kMiV hx hb hml hown hts hK hP (va_D.adr hD0 (mW_adE rfl)) hA hS gX5_noise_X5_no okX5_no (qX5_no l D cI cB r B M (-1) (Or.inl rfl)) [0, 1, 2, 3, 4, 5, 6, 7, 8, 9, 10, 11, 12, 13, 14, 15] rfl (by decide) (fun _ => mW_adr _ _ _ _ _ _) rfl rfl rfl (by decide) hl.1 rfl rfl (Nat.le_of_ble_eq_true rfl) dX5_noise_29 (by decide) (fun r_3 u_4 H locs hw_5 hP hD hS => ?_)
    replace hw_5 : r_3 = (-1) ∧ u_4 = (rfm_ M (-1)) := hw_5
    obtain ⟨hw_5a, hw_5b⟩ := hw_5
    subst r_3
    subst u_4
    replace hP : va_P D vwCl ([(r 0, .inr (5, [.ref (r 1), .ref (r 2), .ref (r 3), .ref (r 4), .ref (r 5), .ref (r 6), .int (nI (sn_ B)), .int (qt_ B), .int (il_ B), .int (pa_ B), .int (ho_ B), .int (dy_ B), .ref (r 13), .ref (r 14), .ref (r 15), .ref (r 16), .int (nI (mtn_ M)), .int (nI (mrd_ M)), .int (nI (msm_ M)), .ref (r 20), .int (mhi_ M), .int (mik_ M), .int (nI (mcu_ M)), .int (nI (mbk_ M)), .ref (r 25), .ref (r 26), .int (mlw_ M), .int (mhg_ M), .int (msl_ M), .ref (r 30), .int (nI (mrm_ M)), .ref (r 32), .int (mlo_ M)])), (r 1, .inl (cI, 7, .inl (rfx_ (mrf_ M) (-1)))), (r 2, .inl (cI, 7, .inl (kd_ B))), (r 3, .inl (cI, 7, .inl (fg_ B))), (r 4, .inl (cI, 7, .inl (pl_ B))), (r 5, .inl (cI, 7, .inl (pw_ B))), (r 6, .inl (cI, 7, .inl (jy_ B))), (r 13, .inl (cI, 96, .inl (mtp_ M))), (r 14, .inl (cI, 48, .inl (mlt_ M))), (r 15, .inl (cI, 48, .inl (mla_ M))), (r 16, .inl (cI, 144, .inl (mtd_ M))), (r 20, .inl (cI, 451, .inl (flatK (mkp_ M)))), (r 25, .inl (cI, 7, .inl (mof_ M))), (r 26, .inl (cI, 7, .inl (mfa_ M))), (r 30, .inl (cI, 12, .inl (mrw_ M))), (r 32, .inl (cI, 8, .inl (mhb_ M)))]) H := hP
    refine rMi hx hb hr hlk hS (rfm_ M (-1)) hP ?_ dX5_noise_32
    first | (have hW : f2_ (nb_ _ (nI (sn_ B))) (nb_ h 24) = -1 := (f2_a (by rw [nb_o c_5]; decide)).trans (nb_o c_5); rw [hW]; exact ⟨(if_neg (by decide)).symm, oQ_n _ _⟩) | (have hW : f2_ (nb_ _ (nI (sn_ B))) (nb_ h 24) = -1 := (f2_b (nb_i c_5)).trans (nb_o (fun q => c_15 (h23.mpr q))); rw [hW]; exact ⟨(if_neg (by decide)).symm, oQ_n _ _⟩) | (have hW : f2_ (nb_ _ (nI (sn_ B))) (nb_ h 24) = 0 := (f2_b (nb_i c_5)).trans (nb_i (h23.mp c_15)); rw [hW]; exact ⟨by (rw [if_pos rfl]; simp only [tn_n (show a_ < 2147483648 by omega)]), oQ_0 rfl (by (first | exact (oN_mk (by assumption)).m | exact oM_.rf _ | exact (oN_pp _ _).m | exact (oN_fo _ _ _ _).m | assumption | (apply oN_.m; assumption) | exact oM_.tr (by assumption) (by assumption)))⟩)
  · replace c_5 := b1_n c_5
    refine lv_iload_n hx hb dX5_noise_8 rfl (lv_at hl 2 rfl) ?_
    refine lv_iconst (v := 0) hx hb dX5_noise_9 (by decide) ?_
    refine lv_bipush (v := 23) hx hb dX5_noise_10 (by decide) ?_
    refine kSiS hx hb hml hown hts hK hP gX5_noise_X5_isIn okX5_isIn (qX5_isIn l D cI cB h 0 23 ) [] rfl (by decide) hl.1 rfl rfl (Nat.le_of_ble_eq_true rfl) dX5_noise_12 (by decide) (fun r_6 hr_7 => ?_)
    replace hr_7 : r_6 = b1 (0 ≤ h ∧ h ≤ 23) := hr_7
    subst r_6
    refine lv_if_eq (tgt := 27) hx hb dX5_noise_15 (by decide) (fun c_15 => ?_) (fun c_15 => ?_)
    · replace c_15 := b1_z c_15
      refine lv_aload_n hx hb dX5_noise_27 rfl (lv_at hl 0 rfl) ?_
      refine lv_iconst (v := (-1)) hx hb dX5_noise_28 (by decide) ?_
      refine kMiV hx hb hml hown hts hK hP (va_D.adr hD0 (mW_adE rfl)) hA hS gX5_noise_X5_no okX5_no (qX5_no l D cI cB r B M (-1) (Or.inl rfl)) [0, 1, 2, 3, 4, 5, 6, 7, 8, 9, 10, 11, 12, 13, 14, 15] rfl (by decide) (fun _ => mW_adr _ _ _ _ _ _) rfl rfl rfl (by decide) hl.1 rfl rfl (Nat.le_of_ble_eq_true rfl) dX5_noise_29 (by decide) (fun r_8 u_9 H locs hw_10 hP hD hS => ?_)
      replace hw_10 : r_8 = (-1) ∧ u_9 = (rfm_ M (-1)) := hw_10
      obtain ⟨hw_10a, hw_10b⟩ := hw_10
      subst r_8
      subst u_9
      replace hP : va_P D vwCl ([(r 0, .inr (5, [.ref (r 1), .ref (r 2), .ref (r 3), .ref (r 4), .ref (r 5), .ref (r 6), .int (nI (sn_ B)), .int (qt_ B), .int (il_ B), .int (pa_ B), .int (ho_ B), .int (dy_ B), .ref (r 13), .ref (r 14), .ref (r 15), .ref (r 16), .int (nI (mtn_ M)), .int (nI (mrd_ M)), .int (nI (msm_ M)), .ref (r 20), .int (mhi_ M), .int (mik_ M), .int (nI (mcu_ M)), .int (nI (mbk_ M)), .ref (r 25), .ref (r 26), .int (mlw_ M), .int (mhg_ M), .int (msl_ M), .ref (r 30), .int (nI (mrm_ M)), .ref (r 32), .int (mlo_ M)])), (r 1, .inl (cI, 7, .inl (rfx_ (mrf_ M) (-1)))), (r 2, .inl (cI, 7, .inl (kd_ B))), (r 3, .inl (cI, 7, .inl (fg_ B))), (r 4, .inl (cI, 7, .inl (pl_ B))), (r 5, .inl (cI, 7, .inl (pw_ B))), (r 6, .inl (cI, 7, .inl (jy_ B))), (r 13, .inl (cI, 96, .inl (mtp_ M))), (r 14, .inl (cI, 48, .inl (mlt_ M))), (r 15, .inl (cI, 48, .inl (mla_ M))), (r 16, .inl (cI, 144, .inl (mtd_ M))), (r 20, .inl (cI, 451, .inl (flatK (mkp_ M)))), (r 25, .inl (cI, 7, .inl (mof_ M))), (r 26, .inl (cI, 7, .inl (mfa_ M))), (r 30, .inl (cI, 12, .inl (mrw_ M))), (r 32, .inl (cI, 8, .inl (mhb_ M)))]) H := hP
      refine rMi hx hb hr hlk hS (rfm_ M (-1)) hP ?_ dX5_noise_32
      first | (have hW : f2_ (nb_ _ (nI (sn_ B))) (nb_ h 24) = -1 := (f2_a (by rw [nb_o c_5]; decide)).trans (nb_o c_5); rw [hW]; exact ⟨(if_neg (by decide)).symm, oQ_n _ _⟩) | (have hW : f2_ (nb_ _ (nI (sn_ B))) (nb_ h 24) = -1 := (f2_b (nb_i c_5)).trans (nb_o (fun q => c_15 (h23.mpr q))); rw [hW]; exact ⟨(if_neg (by decide)).symm, oQ_n _ _⟩) | (have hW : f2_ (nb_ _ (nI (sn_ B))) (nb_ h 24) = 0 := (f2_b (nb_i c_5)).trans (nb_i (h23.mp c_15)); rw [hW]; exact ⟨by (rw [if_pos rfl]; simp only [tn_n (show a_ < 2147483648 by omega)]), oQ_0 rfl (by (first | exact (oN_mk (by assumption)).m | exact oM_.rf _ | exact (oN_pp _ _).m | exact (oN_fo _ _ _ _).m | assumption | (apply oN_.m; assumption) | exact oM_.tr (by assumption) (by assumption)))⟩)
    · replace c_15 := b1_n c_15
      obtain ⟨a_, ha_, rfl⟩ := pl_lt (n := sn_ B) (by omega) c_5
      replace hl : lv_has ls 3 [(0, .ref (r 0)), (1, .int (nI a_)), (2, .int h)] := hl
      refine lv_aload_n hx hb dX5_noise_18 rfl (lv_at hl 0 rfl) ?_
      refine lv_iload_n hx hb dX5_noise_19 rfl (lv_at hl 1 rfl) ?_
      refine lv_iload_n hx hb dX5_noise_20 rfl (lv_at hl 2 rfl) ?_
      refine kSiV hx hb hml hown hts hK hP gX5_noise_X5_noiseOf okX5_noiseOf (qX5_noiseOf l D cI cB r B M a_ h (by omega) (hI.2.1 a_ ha_).1) [0, 1, 2, 3, 4, 5, 6, 7, 8, 9, 10, 11, 12, 13, 14, 15] rfl rfl rfl rfl (by decide) hl.1 rfl rfl (Nat.le_of_ble_eq_true rfl) dX5_noise_21 (by decide) (fun r_11 hr_12 => ?_)
      replace hr_12 : r_11 = no_ B a_ h := hr_12
      subst r_11
      refine lv_goto (tgt := 32) hx hb dX5_noise_24 (by decide) ?_
      refine rMi hx hb hr hlk hS M hP ?_ dX5_noise_32
      first | (have hW : f2_ (nb_ _ (nI (sn_ B))) (nb_ h 24) = -1 := (f2_a (by rw [nb_o c_5]; decide)).trans (nb_o c_5); rw [hW]; exact ⟨(if_neg (by decide)).symm, oQ_n _ _⟩) | (have hW : f2_ (nb_ _ (nI (sn_ B))) (nb_ h 24) = -1 := (f2_b (nb_i c_5)).trans (nb_o (fun q => c_15 (h23.mpr q))); rw [hW]; exact ⟨(if_neg (by decide)).symm, oQ_n _ _⟩) | (have hW : f2_ (nb_ _ (nI (sn_ B))) (nb_ h 24) = 0 := (f2_b (nb_i c_5)).trans (nb_i (h23.mp c_15)); rw [hW]; exact ⟨by (rw [if_pos rfl]; simp only [tn_n (show a_ < 2147483648 by omega)]), oQ_0 rfl (by (first | exact (oN_mk (by assumption)).m | exact oM_.rf _ | exact (oN_pp _ _).m | exact (oN_fo _ _ _ _).m | assumption | (apply oN_.m; assumption) | exact oM_.tr (by assumption) (by assumption)))⟩)

theorem okX5_shoreOf : jok yX5_shoreOf wsX5_shoreOf cX5_shoreOf 3 (some .int) 2 := ⟨⟨_, rfl⟩, by decide +kernel, by decide +kernel⟩
set_option maxHeartbeats 2000000 in
set_option maxRecDepth 100000 in
theorem qX5_shoreOf (l : Launch) (D : va_G) (cI cB : ClassId) (r : Nat → Nat) (B : BayT) (M : MT) (a : Int32) (q : Int32) (hI : bI_ B) : jMi D cI cB l yX5_shoreOf wsX5_shoreOf 1 [.ref (r 0), .int a, .int q] (mW cI r B M) (S := MT) (fun r u => r = (if f2_ (nb_ a (nI (sn_ B))) (uk_ q 7) = 0 then soX_ B (tn_ a) q else f2_ (nb_ a (nI (sn_ B))) (uk_ q 7)) ∧ oQ_ M u (f2_ (nb_ a (nI (sn_ B))) (uk_ q 7))) (fun u => mW cI r B u) := by
  refine jMi.of (cc := cX5_shoreOf) (maxL := 3) (ret := (some .int)) okX5_shoreOf (Nat.le_of_ble_eq_true rfl) ?_
  intro p e s m below meth c ls A hx hb hr hts hown hlk hml hP hK hD hA hS hl
  replace hown : s.vm.findClass RX5 = some m.cls := hown
  replace hl : lv_has ls 3 [(0, .ref (r 0)), (1, .int a), (2, .int q)] := hl
  have hD0 := hD
  have hn7 := hI.1
  have hinX5 : ∀ w ∈ wsX50, w ∈ wsX5_shoreOf := by decide +kernel
  refine lv_aload_n hx hb dX5_shoreOf_0 rfl (lv_at hl 0 rfl) ?_
  refine lv_iload_n hx hb dX5_shoreOf_1 rfl (lv_at hl 1 rfl) ?_
  refine kSiV hx hb hml hown hts hK hP gX5_shoreOf_X5_isShore okX5_isShore (qX5_isShore l D cI cB r B M a (by show sn_ B ≤ 7; omega)) [0, 1, 2, 3, 4, 5, 6, 7, 8, 9, 10, 11, 12, 13, 14, 15] rfl rfl rfl rfl (by decide) hl.1 rfl rfl (Nat.le_of_ble_eq_true rfl) dX5_shoreOf_2 (by decide) (fun r_1 hr_2 => ?_)
  replace hr_2 : r_1 = b1 (0 ≤ a ∧ a < nI (sn_ B)) := hr_2
  subst r_1
  refine lv_if_ne (tgt := 14) hx hb dX5_shoreOf_5 (by decide) (fun c_5 => ?_) (fun c_5 => ?_)
  · replace c_5 := b1_n c_5
    obtain ⟨a_, ha_, rfl⟩ := pl_lt (n := sn_ B) (by omega) c_5
    replace hl : lv_has ls 3 [(0, .ref (r 0)), (1, .int (nI a_)), (2, .int q)] := hl
    refine lv_iload_n hx hb dX5_shoreOf_14 rfl (lv_at hl 2 rfl) ?_
    by_cases c_15_0 : q = 0
    · refine lv_tableIn (off := 45) (tgt := 60) hx hb dX5_shoreOf_15 (by rw [c_15_0]; decide) (by rw [c_15_0]; decide) (by rw [c_15_0]; rfl) (by decide) ?_
      refine lv_aload_n hx hb dX5_shoreOf_60 rfl (lv_at hl 0 rfl) ?_
      refine va_get (ci := 5) (C := RX5) (T := TX5) (N := 33) hx hb hts hinX5 hown hK.1 hP 0 rfl rfl 1 (by decide) (hts _ (List.mem_of_getElem? (i := 1) rfl)) (fun _ h9 => h9) rfl dX5_shoreOf_61 ?_
      refine lv_iload_n hx hb dX5_shoreOf_64 rfl (lv_at hl 1 rfl) ?_
      refine jald hx hb hK.1 hP 2 0 a_ rfl rfl rfl (by omega) (Nat.le_of_ble_eq_true rfl) dX5_shoreOf_65 ?_
      refine rMi hx hb hr hlk hS M hP ?_ dX5_shoreOf_66
      first | (have hW : f2_ (nb_ _ (nI (sn_ B))) (uk_ q 7) = -1 := (f2_a (by rw [nb_o c_5]; decide)).trans (nb_o c_5); rw [hW]; exact ⟨(if_neg (by decide)).symm, oQ_n _ _⟩) | (have hW : f2_ (nb_ _ (nI (sn_ B))) (uk_ q 7) = 0 := (f2_b (nb_i c_5)).trans (by rw [c_15_0]; decide); rw [hW]; refine ⟨?_, oQ_0 rfl (oM_.rf _)⟩; rw [if_pos rfl]; simp only [tn_n (show a_ < 2147483648 by omega)]; rw [c_15_0]; rfl) | (have hW : f2_ (nb_ _ (nI (sn_ B))) (uk_ q 7) = 0 := (f2_b (nb_i c_5)).trans (by rw [c_15_1]; decide); rw [hW]; refine ⟨?_, oQ_0 rfl (oM_.rf _)⟩; rw [if_pos rfl]; simp only [tn_n (show a_ < 2147483648 by omega)]; rw [c_15_1]; rfl) | (have hW : f2_ (nb_ _ (nI (sn_ B))) (uk_ q 7) = 0 := (f2_b (nb_i c_5)).trans (by rw [c_15_2]; decide); rw [hW]; refine ⟨?_, oQ_0 rfl (oM_.rf _)⟩; rw [if_pos rfl]; simp only [tn_n (show a_ < 2147483648 by omega)]; rw [c_15_2]; rfl) | (have hW : f2_ (nb_ _ (nI (sn_ B))) (uk_ q 7) = 0 := (f2_b (nb_i c_5)).trans (by rw [c_15_3]; decide); rw [hW]; refine ⟨?_, oQ_0 rfl (oM_.rf _)⟩; rw [if_pos rfl]; simp only [tn_n (show a_ < 2147483648 by omega)]; rw [c_15_3]; rfl) | (have hW : f2_ (nb_ _ (nI (sn_ B))) (uk_ q 7) = 0 := (f2_b (nb_i c_5)).trans (by rw [c_15_4]; decide); rw [hW]; refine ⟨?_, oQ_0 rfl (oM_.rf _)⟩; rw [if_pos rfl]; simp only [tn_n (show a_ < 2147483648 by omega)]; rw [c_15_4]; exact (qb_b1 _ _).symm) | (have hW : f2_ (nb_ _ (nI (sn_ B))) (uk_ q 7) = 0 := (f2_b (nb_i c_5)).trans (by rw [c_15_5]; decide); rw [hW]; refine ⟨?_, oQ_0 rfl (oM_.rf _)⟩; rw [if_pos rfl]; simp only [tn_n (show a_ < 2147483648 by omega)]; rw [c_15_5]; rfl) | (have hW : f2_ (nb_ _ (nI (sn_ B))) (uk_ q 7) = 0 := (f2_b (nb_i c_5)).trans (by rw [c_15_6]; decide); rw [hW]; refine ⟨?_, oQ_0 rfl (oM_.rf _)⟩; rw [if_pos rfl]; simp only [tn_n (show a_ < 2147483648 by omega)]; rw [c_15_6]; rfl) | (have hW : f2_ (nb_ _ (nI (sn_ B))) (uk_ q 7) = 0 := (f2_b (nb_i c_5)).trans (by rw [c_15_7]; decide); rw [hW]; refine ⟨?_, oQ_0 rfl (oM_.rf _)⟩; rw [if_pos rfl]; simp only [tn_n (show a_ < 2147483648 by omega)]; rw [c_15_7]; first | exact (b1_t c_120).symm | exact (b1_f c_120).symm) | (have hW : f2_ (nb_ _ (nI (sn_ B))) (uk_ q 7) = -2 := (f2_b (nb_i c_5)).trans (uk_8 c_15_0 c_15_1 c_15_2 c_15_3 c_15_4 c_15_5 c_15_6 c_15_7); rw [hW]; exact ⟨(if_neg (by decide)).symm, oQ_n _ _⟩)
    by_cases c_15_1 : q = 1
    · refine lv_tableIn (off := 52) (tgt := 67) hx hb dX5_shoreOf_15 (by rw [c_15_1]; decide) (by rw [c_15_1]; decide) (by rw [c_15_1]; rfl) (by decide) ?_
      refine lv_aload_n hx hb dX5_shoreOf_67 rfl (lv_at hl 0 rfl) ?_
      refine va_get (ci := 5) (C := RX5) (T := TX5) (N := 33) hx hb hts hinX5 hown hK.1 hP 0 rfl rfl 2 (by decide) (hts _ (List.mem_of_getElem? (i := 2) rfl)) (fun _ h9 => h9) rfl dX5_shoreOf_68 ?_
      refine lv_iload_n hx hb dX5_shoreOf_71 rfl (lv_at hl 1 rfl) ?_
      refine jald hx hb hK.1 hP 3 0 a_ rfl rfl rfl (by omega) (Nat.le_of_ble_eq_true rfl) dX5_shoreOf_72 ?_
      refine rMi hx hb hr hlk hS M hP ?_ dX5_shoreOf_73
      first | (have hW : f2_ (nb_ _ (nI (sn_ B))) (uk_ q 7) = -1 := (f2_a (by rw [nb_o c_5]; decide)).trans (nb_o c_5); rw [hW]; exact ⟨(if_neg (by decide)).symm, oQ_n _ _⟩) | (have hW : f2_ (nb_ _ (nI (sn_ B))) (uk_ q 7) = 0 := (f2_b (nb_i c_5)).trans (by rw [c_15_0]; decide); rw [hW]; refine ⟨?_, oQ_0 rfl (oM_.rf _)⟩; rw [if_pos rfl]; simp only [tn_n (show a_ < 2147483648 by omega)]; rw [c_15_0]; rfl) | (have hW : f2_ (nb_ _ (nI (sn_ B))) (uk_ q 7) = 0 := (f2_b (nb_i c_5)).trans (by rw [c_15_1]; decide); rw [hW]; refine ⟨?_, oQ_0 rfl (oM_.rf _)⟩; rw [if_pos rfl]; simp only [tn_n (show a_ < 2147483648 by omega)]; rw [c_15_1]; rfl) | (have hW : f2_ (nb_ _ (nI (sn_ B))) (uk_ q 7) = 0 := (f2_b (nb_i c_5)).trans (by rw [c_15_2]; decide); rw [hW]; refine ⟨?_, oQ_0 rfl (oM_.rf _)⟩; rw [if_pos rfl]; simp only [tn_n (show a_ < 2147483648 by omega)]; rw [c_15_2]; rfl) | (have hW : f2_ (nb_ _ (nI (sn_ B))) (uk_ q 7) = 0 := (f2_b (nb_i c_5)).trans (by rw [c_15_3]; decide); rw [hW]; refine ⟨?_, oQ_0 rfl (oM_.rf _)⟩; rw [if_pos rfl]; simp only [tn_n (show a_ < 2147483648 by omega)]; rw [c_15_3]; rfl) | (have hW : f2_ (nb_ _ (nI (sn_ B))) (uk_ q 7) = 0 := (f2_b (nb_i c_5)).trans (by rw [c_15_4]; decide); rw [hW]; refine ⟨?_, oQ_0 rfl (oM_.rf _)⟩; rw [if_pos rfl]; simp only [tn_n (show a_ < 2147483648 by omega)]; rw [c_15_4]; exact (qb_b1 _ _).symm) | (have hW : f2_ (nb_ _ (nI (sn_ B))) (uk_ q 7) = 0 := (f2_b (nb_i c_5)).trans (by rw [c_15_5]; decide); rw [hW]; refine ⟨?_, oQ_0 rfl (oM_.rf _)⟩; rw [if_pos rfl]; simp only [tn_n (show a_ < 2147483648 by omega)]; rw [c_15_5]; rfl) | (have hW : f2_ (nb_ _ (nI (sn_ B))) (uk_ q 7) = 0 := (f2_b (nb_i c_5)).trans (by rw [c_15_6]; decide); rw [hW]; refine ⟨?_, oQ_0 rfl (oM_.rf _)⟩; rw [if_pos rfl]; simp only [tn_n (show a_ < 2147483648 by omega)]; rw [c_15_6]; rfl) | (have hW : f2_ (nb_ _ (nI (sn_ B))) (uk_ q 7) = 0 := (f2_b (nb_i c_5)).trans (by rw [c_15_7]; decide); rw [hW]; refine ⟨?_, oQ_0 rfl (oM_.rf _)⟩; rw [if_pos rfl]; simp only [tn_n (show a_ < 2147483648 by omega)]; rw [c_15_7]; first | exact (b1_t c_120).symm | exact (b1_f c_120).symm) | (have hW : f2_ (nb_ _ (nI (sn_ B))) (uk_ q 7) = -2 := (f2_b (nb_i c_5)).trans (uk_8 c_15_0 c_15_1 c_15_2 c_15_3 c_15_4 c_15_5 c_15_6 c_15_7); rw [hW]; exact ⟨(if_neg (by decide)).symm, oQ_n _ _⟩)
    by_cases c_15_2 : q = 2
    · refine lv_tableIn (off := 59) (tgt := 74) hx hb dX5_shoreOf_15 (by rw [c_15_2]; decide) (by rw [c_15_2]; decide) (by rw [c_15_2]; rfl) (by decide) ?_
      refine lv_aload_n hx hb dX5_shoreOf_74 rfl (lv_at hl 0 rfl) ?_
      refine va_get (ci := 5) (C := RX5) (T := TX5) (N := 33) hx hb hts hinX5 hown hK.1 hP 0 rfl rfl 3 (by decide) (hts _ (List.mem_of_getElem? (i := 3) rfl)) (fun _ h9 => h9) rfl dX5_shoreOf_75 ?_
      refine lv_iload_n hx hb dX5_shoreOf_78 rfl (lv_at hl 1 rfl) ?_
      refine jald hx hb hK.1 hP 4 0 a_ rfl rfl rfl (by omega) (Nat.le_of_ble_eq_true rfl) dX5_shoreOf_79 ?_
      refine rMi hx hb hr hlk hS M hP ?_ dX5_shoreOf_80
      first | (have hW : f2_ (nb_ _ (nI (sn_ B))) (uk_ q 7) = -1 := (f2_a (by rw [nb_o c_5]; decide)).trans (nb_o c_5); rw [hW]; exact ⟨(if_neg (by decide)).symm, oQ_n _ _⟩) | (have hW : f2_ (nb_ _ (nI (sn_ B))) (uk_ q 7) = 0 := (f2_b (nb_i c_5)).trans (by rw [c_15_0]; decide); rw [hW]; refine ⟨?_, oQ_0 rfl (oM_.rf _)⟩; rw [if_pos rfl]; simp only [tn_n (show a_ < 2147483648 by omega)]; rw [c_15_0]; rfl) | (have hW : f2_ (nb_ _ (nI (sn_ B))) (uk_ q 7) = 0 := (f2_b (nb_i c_5)).trans (by rw [c_15_1]; decide); rw [hW]; refine ⟨?_, oQ_0 rfl (oM_.rf _)⟩; rw [if_pos rfl]; simp only [tn_n (show a_ < 2147483648 by omega)]; rw [c_15_1]; rfl) | (have hW : f2_ (nb_ _ (nI (sn_ B))) (uk_ q 7) = 0 := (f2_b (nb_i c_5)).trans (by rw [c_15_2]; decide); rw [hW]; refine ⟨?_, oQ_0 rfl (oM_.rf _)⟩; rw [if_pos rfl]; simp only [tn_n (show a_ < 2147483648 by omega)]; rw [c_15_2]; rfl) | (have hW : f2_ (nb_ _ (nI (sn_ B))) (uk_ q 7) = 0 := (f2_b (nb_i c_5)).trans (by rw [c_15_3]; decide); rw [hW]; refine ⟨?_, oQ_0 rfl (oM_.rf _)⟩; rw [if_pos rfl]; simp only [tn_n (show a_ < 2147483648 by omega)]; rw [c_15_3]; rfl) | (have hW : f2_ (nb_ _ (nI (sn_ B))) (uk_ q 7) = 0 := (f2_b (nb_i c_5)).trans (by rw [c_15_4]; decide); rw [hW]; refine ⟨?_, oQ_0 rfl (oM_.rf _)⟩; rw [if_pos rfl]; simp only [tn_n (show a_ < 2147483648 by omega)]; rw [c_15_4]; exact (qb_b1 _ _).symm) | (have hW : f2_ (nb_ _ (nI (sn_ B))) (uk_ q 7) = 0 := (f2_b (nb_i c_5)).trans (by rw [c_15_5]; decide); rw [hW]; refine ⟨?_, oQ_0 rfl (oM_.rf _)⟩; rw [if_pos rfl]; simp only [tn_n (show a_ < 2147483648 by omega)]; rw [c_15_5]; rfl) | (have hW : f2_ (nb_ _ (nI (sn_ B))) (uk_ q 7) = 0 := (f2_b (nb_i c_5)).trans (by rw [c_15_6]; decide); rw [hW]; refine ⟨?_, oQ_0 rfl (oM_.rf _)⟩; rw [if_pos rfl]; simp only [tn_n (show a_ < 2147483648 by omega)]; rw [c_15_6]; rfl) | (have hW : f2_ (nb_ _ (nI (sn_ B))) (uk_ q 7) = 0 := (f2_b (nb_i c_5)).trans (by rw [c_15_7]; decide); rw [hW]; refine ⟨?_, oQ_0 rfl (oM_.rf _)⟩; rw [if_pos rfl]; simp only [tn_n (show a_ < 2147483648 by omega)]; rw [c_15_7]; first | exact (b1_t c_120).symm | exact (b1_f c_120).symm) | (have hW : f2_ (nb_ _ (nI (sn_ B))) (uk_ q 7) = -2 := (f2_b (nb_i c_5)).trans (uk_8 c_15_0 c_15_1 c_15_2 c_15_3 c_15_4 c_15_5 c_15_6 c_15_7); rw [hW]; exact ⟨(if_neg (by decide)).symm, oQ_n _ _⟩)
    by_cases c_15_3 : q = 3
    · refine lv_tableIn (off := 66) (tgt := 81) hx hb dX5_shoreOf_15 (by rw [c_15_3]; decide) (by rw [c_15_3]; decide) (by rw [c_15_3]; rfl) (by decide) ?_
      refine lv_aload_n hx hb dX5_shoreOf_81 rfl (lv_at hl 0 rfl) ?_
      refine va_get (ci := 5) (C := RX5) (T := TX5) (N := 33) hx hb hts hinX5 hown hK.1 hP 0 rfl rfl 4 (by decide) (hts _ (List.mem_of_getElem? (i := 4) rfl)) (fun _ h9 => h9) rfl dX5_shoreOf_82 ?_
      refine lv_iload_n hx hb dX5_shoreOf_85 rfl (lv_at hl 1 rfl) ?_
      refine jald hx hb hK.1 hP 5 0 a_ rfl rfl rfl (by omega) (Nat.le_of_ble_eq_true rfl) dX5_shoreOf_86 ?_
      refine rMi hx hb hr hlk hS M hP ?_ dX5_shoreOf_87
      first | (have hW : f2_ (nb_ _ (nI (sn_ B))) (uk_ q 7) = -1 := (f2_a (by rw [nb_o c_5]; decide)).trans (nb_o c_5); rw [hW]; exact ⟨(if_neg (by decide)).symm, oQ_n _ _⟩) | (have hW : f2_ (nb_ _ (nI (sn_ B))) (uk_ q 7) = 0 := (f2_b (nb_i c_5)).trans (by rw [c_15_0]; decide); rw [hW]; refine ⟨?_, oQ_0 rfl (oM_.rf _)⟩; rw [if_pos rfl]; simp only [tn_n (show a_ < 2147483648 by omega)]; rw [c_15_0]; rfl) | (have hW : f2_ (nb_ _ (nI (sn_ B))) (uk_ q 7) = 0 := (f2_b (nb_i c_5)).trans (by rw [c_15_1]; decide); rw [hW]; refine ⟨?_, oQ_0 rfl (oM_.rf _)⟩; rw [if_pos rfl]; simp only [tn_n (show a_ < 2147483648 by omega)]; rw [c_15_1]; rfl) | (have hW : f2_ (nb_ _ (nI (sn_ B))) (uk_ q 7) = 0 := (f2_b (nb_i c_5)).trans (by rw [c_15_2]; decide); rw [hW]; refine ⟨?_, oQ_0 rfl (oM_.rf _)⟩; rw [if_pos rfl]; simp only [tn_n (show a_ < 2147483648 by omega)]; rw [c_15_2]; rfl) | (have hW : f2_ (nb_ _ (nI (sn_ B))) (uk_ q 7) = 0 := (f2_b (nb_i c_5)).trans (by rw [c_15_3]; decide); rw [hW]; refine ⟨?_, oQ_0 rfl (oM_.rf _)⟩; rw [if_pos rfl]; simp only [tn_n (show a_ < 2147483648 by omega)]; rw [c_15_3]; rfl) | (have hW : f2_ (nb_ _ (nI (sn_ B))) (uk_ q 7) = 0 := (f2_b (nb_i c_5)).trans (by rw [c_15_4]; decide); rw [hW]; refine ⟨?_, oQ_0 rfl (oM_.rf _)⟩; rw [if_pos rfl]; simp only [tn_n (show a_ < 2147483648 by omega)]; rw [c_15_4]; exact (qb_b1 _ _).symm) | (have hW : f2_ (nb_ _ (nI (sn_ B))) (uk_ q 7) = 0 := (f2_b (nb_i c_5)).trans (by rw [c_15_5]; decide); rw [hW]; refine ⟨?_, oQ_0 rfl (oM_.rf _)⟩; rw [if_pos rfl]; simp only [tn_n (show a_ < 2147483648 by omega)]; rw [c_15_5]; rfl) | (have hW : f2_ (nb_ _ (nI (sn_ B))) (uk_ q 7) = 0 := (f2_b (nb_i c_5)).trans (by rw [c_15_6]; decide); rw [hW]; refine ⟨?_, oQ_0 rfl (oM_.rf _)⟩; rw [if_pos rfl]; simp only [tn_n (show a_ < 2147483648 by omega)]; rw [c_15_6]; rfl) | (have hW : f2_ (nb_ _ (nI (sn_ B))) (uk_ q 7) = 0 := (f2_b (nb_i c_5)).trans (by rw [c_15_7]; decide); rw [hW]; refine ⟨?_, oQ_0 rfl (oM_.rf _)⟩; rw [if_pos rfl]; simp only [tn_n (show a_ < 2147483648 by omega)]; rw [c_15_7]; first | exact (b1_t c_120).symm | exact (b1_f c_120).symm) | (have hW : f2_ (nb_ _ (nI (sn_ B))) (uk_ q 7) = -2 := (f2_b (nb_i c_5)).trans (uk_8 c_15_0 c_15_1 c_15_2 c_15_3 c_15_4 c_15_5 c_15_6 c_15_7); rw [hW]; exact ⟨(if_neg (by decide)).symm, oQ_n _ _⟩)
    by_cases c_15_4 : q = 4
    · refine lv_tableIn (off := 73) (tgt := 88) hx hb dX5_shoreOf_15 (by rw [c_15_4]; decide) (by rw [c_15_4]; decide) (by rw [c_15_4]; rfl) (by decide) ?_
      refine lv_aload_n hx hb dX5_shoreOf_88 rfl (lv_at hl 0 rfl) ?_
      refine va_get (ci := 5) (C := RX5) (T := TX5) (N := 33) hx hb hts hinX5 hown hK.1 hP 0 rfl rfl 7 (by decide) (hts _ (List.mem_of_getElem? (i := 5) rfl)) (fun _ h9 => h9) rfl dX5_shoreOf_89 ?_
      refine lv_iload_n hx hb dX5_shoreOf_92 rfl (lv_at hl 1 rfl) ?_
      refine lv_ishr hx hb dX5_shoreOf_93 ?_
      refine lv_iconst (v := 1) hx hb dX5_shoreOf_94 (by decide) ?_
      refine lv_iand hx hb dX5_shoreOf_95 ?_
      refine rMi hx hb hr hlk hS M hP ?_ dX5_shoreOf_96
      first | (have hW : f2_ (nb_ _ (nI (sn_ B))) (uk_ q 7) = -1 := (f2_a (by rw [nb_o c_5]; decide)).trans (nb_o c_5); rw [hW]; exact ⟨(if_neg (by decide)).symm, oQ_n _ _⟩) | (have hW : f2_ (nb_ _ (nI (sn_ B))) (uk_ q 7) = 0 := (f2_b (nb_i c_5)).trans (by rw [c_15_0]; decide); rw [hW]; refine ⟨?_, oQ_0 rfl (oM_.rf _)⟩; rw [if_pos rfl]; simp only [tn_n (show a_ < 2147483648 by omega)]; rw [c_15_0]; rfl) | (have hW : f2_ (nb_ _ (nI (sn_ B))) (uk_ q 7) = 0 := (f2_b (nb_i c_5)).trans (by rw [c_15_1]; decide); rw [hW]; refine ⟨?_, oQ_0 rfl (oM_.rf _)⟩; rw [if_pos rfl]; simp only [tn_n (show a_ < 2147483648 by omega)]; rw [c_15_1]; rfl) | (have hW : f2_ (nb_ _ (nI (sn_ B))) (uk_ q 7) = 0 := (f2_b (nb_i c_5)).trans (by rw [c_15_2]; decide); rw [hW]; refine ⟨?_, oQ_0 rfl (oM_.rf _)⟩; rw [if_pos rfl]; simp only [tn_n (show a_ < 2147483648 by omega)]; rw [c_15_2]; rfl) | (have hW : f2_ (nb_ _ (nI (sn_ B))) (uk_ q 7) = 0 := (f2_b (nb_i c_5)).trans (by rw [c_15_3]; decide); rw [hW]; refine ⟨?_, oQ_0 rfl (oM_.rf _)⟩; rw [if_pos rfl]; simp only [tn_n (show a_ < 2147483648 by omega)]; rw [c_15_3]; rfl) | (have hW : f2_ (nb_ _ (nI (sn_ B))) (uk_ q 7) = 0 := (f2_b (nb_i c_5)).trans (by rw [c_15_4]; decide); rw [hW]; refine ⟨?_, oQ_0 rfl (oM_.rf _)⟩; rw [if_pos rfl]; simp only [tn_n (show a_ < 2147483648 by omega)]; rw [c_15_4]; exact (qb_b1 _ _).symm) | (have hW : f2_ (nb_ _ (nI (sn_ B))) (uk_ q 7) = 0 := (f2_b (nb_i c_5)).trans (by rw [c_15_5]; decide); rw [hW]; refine ⟨?_, oQ_0 rfl (oM_.rf _)⟩; rw [if_pos rfl]; simp only [tn_n (show a_ < 2147483648 by omega)]; rw [c_15_5]; rfl) | (have hW : f2_ (nb_ _ (nI (sn_ B))) (uk_ q 7) = 0 := (f2_b (nb_i c_5)).trans (by rw [c_15_6]; decide); rw [hW]; refine ⟨?_, oQ_0 rfl (oM_.rf _)⟩; rw [if_pos rfl]; simp only [tn_n (show a_ < 2147483648 by omega)]; rw [c_15_6]; rfl) | (have hW : f2_ (nb_ _ (nI (sn_ B))) (uk_ q 7) = 0 := (f2_b (nb_i c_5)).trans (by rw [c_15_7]; decide); rw [hW]; refine ⟨?_, oQ_0 rfl (oM_.rf _)⟩; rw [if_pos rfl]; simp only [tn_n (show a_ < 2147483648 by omega)]; rw [c_15_7]; first | exact (b1_t c_120).symm | exact (b1_f c_120).symm) | (have hW : f2_ (nb_ _ (nI (sn_ B))) (uk_ q 7) = -2 := (f2_b (nb_i c_5)).trans (uk_8 c_15_0 c_15_1 c_15_2 c_15_3 c_15_4 c_15_5 c_15_6 c_15_7); rw [hW]; exact ⟨(if_neg (by decide)).symm, oQ_n _ _⟩)
    by_cases c_15_5 : q = 5
    · refine lv_tableIn (off := 82) (tgt := 97) hx hb dX5_shoreOf_15 (by rw [c_15_5]; decide) (by rw [c_15_5]; decide) (by rw [c_15_5]; rfl) (by decide) ?_
      refine lv_aload_n hx hb dX5_shoreOf_97 rfl (lv_at hl 0 rfl) ?_
      refine va_get (ci := 5) (C := RX5) (T := TX5) (N := 33) hx hb hts hinX5 hown hK.1 hP 0 rfl rfl 5 (by decide) (hts _ (List.mem_of_getElem? (i := 6) rfl)) (fun _ h9 => h9) rfl dX5_shoreOf_98 ?_
      refine lv_iload_n hx hb dX5_shoreOf_101 rfl (lv_at hl 1 rfl) ?_
      refine jald hx hb hK.1 hP 6 0 a_ rfl rfl rfl (by omega) (Nat.le_of_ble_eq_true rfl) dX5_shoreOf_102 ?_
      refine rMi hx hb hr hlk hS M hP ?_ dX5_shoreOf_103
      first | (have hW : f2_ (nb_ _ (nI (sn_ B))) (uk_ q 7) = -1 := (f2_a (by rw [nb_o c_5]; decide)).trans (nb_o c_5); rw [hW]; exact ⟨(if_neg (by decide)).symm, oQ_n _ _⟩) | (have hW : f2_ (nb_ _ (nI (sn_ B))) (uk_ q 7) = 0 := (f2_b (nb_i c_5)).trans (by rw [c_15_0]; decide); rw [hW]; refine ⟨?_, oQ_0 rfl (oM_.rf _)⟩; rw [if_pos rfl]; simp only [tn_n (show a_ < 2147483648 by omega)]; rw [c_15_0]; rfl) | (have hW : f2_ (nb_ _ (nI (sn_ B))) (uk_ q 7) = 0 := (f2_b (nb_i c_5)).trans (by rw [c_15_1]; decide); rw [hW]; refine ⟨?_, oQ_0 rfl (oM_.rf _)⟩; rw [if_pos rfl]; simp only [tn_n (show a_ < 2147483648 by omega)]; rw [c_15_1]; rfl) | (have hW : f2_ (nb_ _ (nI (sn_ B))) (uk_ q 7) = 0 := (f2_b (nb_i c_5)).trans (by rw [c_15_2]; decide); rw [hW]; refine ⟨?_, oQ_0 rfl (oM_.rf _)⟩; rw [if_pos rfl]; simp only [tn_n (show a_ < 2147483648 by omega)]; rw [c_15_2]; rfl) | (have hW : f2_ (nb_ _ (nI (sn_ B))) (uk_ q 7) = 0 := (f2_b (nb_i c_5)).trans (by rw [c_15_3]; decide); rw [hW]; refine ⟨?_, oQ_0 rfl (oM_.rf _)⟩; rw [if_pos rfl]; simp only [tn_n (show a_ < 2147483648 by omega)]; rw [c_15_3]; rfl) | (have hW : f2_ (nb_ _ (nI (sn_ B))) (uk_ q 7) = 0 := (f2_b (nb_i c_5)).trans (by rw [c_15_4]; decide); rw [hW]; refine ⟨?_, oQ_0 rfl (oM_.rf _)⟩; rw [if_pos rfl]; simp only [tn_n (show a_ < 2147483648 by omega)]; rw [c_15_4]; exact (qb_b1 _ _).symm) | (have hW : f2_ (nb_ _ (nI (sn_ B))) (uk_ q 7) = 0 := (f2_b (nb_i c_5)).trans (by rw [c_15_5]; decide); rw [hW]; refine ⟨?_, oQ_0 rfl (oM_.rf _)⟩; rw [if_pos rfl]; simp only [tn_n (show a_ < 2147483648 by omega)]; rw [c_15_5]; rfl) | (have hW : f2_ (nb_ _ (nI (sn_ B))) (uk_ q 7) = 0 := (f2_b (nb_i c_5)).trans (by rw [c_15_6]; decide); rw [hW]; refine ⟨?_, oQ_0 rfl (oM_.rf _)⟩; rw [if_pos rfl]; simp only [tn_n (show a_ < 2147483648 by omega)]; rw [c_15_6]; rfl) | (have hW : f2_ (nb_ _ (nI (sn_ B))) (uk_ q 7) = 0 := (f2_b (nb_i c_5)).trans (by rw [c_15_7]; decide); rw [hW]; refine ⟨?_, oQ_0 rfl (oM_.rf _)⟩; rw [if_pos rfl]; simp only [tn_n (show a_ < 2147483648 by omega)]; rw [c_15_7]; first | exact (b1_t c_120).symm | exact (b1_f c_120).symm) | (have hW : f2_ (nb_ _ (nI (sn_ B))) (uk_ q 7) = -2 := (f2_b (nb_i c_5)).trans (uk_8 c_15_0 c_15_1 c_15_2 c_15_3 c_15_4 c_15_5 c_15_6 c_15_7); rw [hW]; exact ⟨(if_neg (by decide)).symm, oQ_n _ _⟩)
    by_cases c_15_6 : q = 6
    · refine lv_tableIn (off := 89) (tgt := 104) hx hb dX5_shoreOf_15 (by rw [c_15_6]; decide) (by rw [c_15_6]; decide) (by rw [c_15_6]; rfl) (by decide) ?_
      refine lv_aload_n hx hb dX5_shoreOf_104 rfl (lv_at hl 0 rfl) ?_
      refine lv_iload_n hx hb dX5_shoreOf_105 rfl (lv_at hl 1 rfl) ?_
      refine kSiV hx hb hml hown hts hK hP gX5_shoreOf_X5_costsOf okX5_costsOf (qX5_costsOf l D cI cB r B M a_ (by omega)) [0, 1, 2, 3, 4, 5, 6, 7, 8, 9, 10, 11, 12, 13, 14, 15] rfl rfl rfl rfl (by decide) hl.1 rfl rfl (Nat.le_of_ble_eq_true rfl) dX5_shoreOf_106 (by decide) (fun r_3 hr_4 => ?_)
      replace hr_4 : r_3 = co_ (kd_ B a_) (fg_ B a_) := hr_4
      subst r_3
      refine rMi hx hb hr hlk hS M hP ?_ dX5_shoreOf_109
      first | (have hW : f2_ (nb_ _ (nI (sn_ B))) (uk_ q 7) = -1 := (f2_a (by rw [nb_o c_5]; decide)).trans (nb_o c_5); rw [hW]; exact ⟨(if_neg (by decide)).symm, oQ_n _ _⟩) | (have hW : f2_ (nb_ _ (nI (sn_ B))) (uk_ q 7) = 0 := (f2_b (nb_i c_5)).trans (by rw [c_15_0]; decide); rw [hW]; refine ⟨?_, oQ_0 rfl (oM_.rf _)⟩; rw [if_pos rfl]; simp only [tn_n (show a_ < 2147483648 by omega)]; rw [c_15_0]; rfl) | (have hW : f2_ (nb_ _ (nI (sn_ B))) (uk_ q 7) = 0 := (f2_b (nb_i c_5)).trans (by rw [c_15_1]; decide); rw [hW]; refine ⟨?_, oQ_0 rfl (oM_.rf _)⟩; rw [if_pos rfl]; simp only [tn_n (show a_ < 2147483648 by omega)]; rw [c_15_1]; rfl) | (have hW : f2_ (nb_ _ (nI (sn_ B))) (uk_ q 7) = 0 := (f2_b (nb_i c_5)).trans (by rw [c_15_2]; decide); rw [hW]; refine ⟨?_, oQ_0 rfl (oM_.rf _)⟩; rw [if_pos rfl]; simp only [tn_n (show a_ < 2147483648 by omega)]; rw [c_15_2]; rfl) | (have hW : f2_ (nb_ _ (nI (sn_ B))) (uk_ q 7) = 0 := (f2_b (nb_i c_5)).trans (by rw [c_15_3]; decide); rw [hW]; refine ⟨?_, oQ_0 rfl (oM_.rf _)⟩; rw [if_pos rfl]; simp only [tn_n (show a_ < 2147483648 by omega)]; rw [c_15_3]; rfl) | (have hW : f2_ (nb_ _ (nI (sn_ B))) (uk_ q 7) = 0 := (f2_b (nb_i c_5)).trans (by rw [c_15_4]; decide); rw [hW]; refine ⟨?_, oQ_0 rfl (oM_.rf _)⟩; rw [if_pos rfl]; simp only [tn_n (show a_ < 2147483648 by omega)]; rw [c_15_4]; exact (qb_b1 _ _).symm) | (have hW : f2_ (nb_ _ (nI (sn_ B))) (uk_ q 7) = 0 := (f2_b (nb_i c_5)).trans (by rw [c_15_5]; decide); rw [hW]; refine ⟨?_, oQ_0 rfl (oM_.rf _)⟩; rw [if_pos rfl]; simp only [tn_n (show a_ < 2147483648 by omega)]; rw [c_15_5]; rfl) | (have hW : f2_ (nb_ _ (nI (sn_ B))) (uk_ q 7) = 0 := (f2_b (nb_i c_5)).trans (by rw [c_15_6]; decide); rw [hW]; refine ⟨?_, oQ_0 rfl (oM_.rf _)⟩; rw [if_pos rfl]; simp only [tn_n (show a_ < 2147483648 by omega)]; rw [c_15_6]; rfl) | (have hW : f2_ (nb_ _ (nI (sn_ B))) (uk_ q 7) = 0 := (f2_b (nb_i c_5)).trans (by rw [c_15_7]; decide); rw [hW]; refine ⟨?_, oQ_0 rfl (oM_.rf _)⟩; rw [if_pos rfl]; simp only [tn_n (show a_ < 2147483648 by omega)]; rw [c_15_7]; first | exact (b1_t c_120).symm | exact (b1_f c_120).symm) | (have hW : f2_ (nb_ _ (nI (sn_ B))) (uk_ q 7) = -2 := (f2_b (nb_i c_5)).trans (uk_8 c_15_0 c_15_1 c_15_2 c_15_3 c_15_4 c_15_5 c_15_6 c_15_7); rw [hW]; exact ⟨(if_neg (by decide)).symm, oQ_n _ _⟩)
    by_cases c_15_7 : q = 7
    · refine lv_tableIn (off := 95) (tgt := 110) hx hb dX5_shoreOf_15 (by rw [c_15_7]; decide) (by rw [c_15_7]; decide) (by rw [c_15_7]; rfl) (by decide) ?_
      refine lv_aload_n hx hb dX5_shoreOf_110 rfl (lv_at hl 0 rfl) ?_
      refine va_get (ci := 5) (C := RX5) (T := TX5) (N := 33) hx hb hts hinX5 hown hK.1 hP 0 rfl rfl 3 (by decide) (hts _ (List.mem_of_getElem? (i := 3) rfl)) (fun _ h9 => h9) rfl dX5_shoreOf_111 ?_
      refine lv_iload_n hx hb dX5_shoreOf_114 rfl (lv_at hl 1 rfl) ?_
      refine jald hx hb hK.1 hP 4 0 a_ rfl rfl rfl (by omega) (Nat.le_of_ble_eq_true rfl) dX5_shoreOf_115 ?_
      refine lv_aload_n hx hb dX5_shoreOf_116 rfl (lv_at hl 0 rfl) ?_
      refine va_get (ci := 5) (C := RX5) (T := TX5) (N := 33) hx hb hts hinX5 hown hK.1 hP 0 rfl rfl 8 (by decide) (hts _ (List.mem_of_getElem? (i := 7) rfl)) (fun _ h9 => h9) rfl dX5_shoreOf_117 ?_
      refine lv_icmp_ne (tgt := 127) hx hb dX5_shoreOf_120 (by decide) (fun c_120 => ?_) (fun c_120 => ?_)
      · skip
        refine lv_iconst (v := 0) hx hb dX5_shoreOf_127 (by decide) ?_
        refine rMi hx hb hr hlk hS M hP ?_ dX5_shoreOf_128
        first | (have hW : f2_ (nb_ _ (nI (sn_ B))) (uk_ q 7) = -1 := (f2_a (by rw [nb_o c_5]; decide)).trans (nb_o c_5); rw [hW]; exact ⟨(if_neg (by decide)).symm, oQ_n _ _⟩) | (have hW : f2_ (nb_ _ (nI (sn_ B))) (uk_ q 7) = 0 := (f2_b (nb_i c_5)).trans (by rw [c_15_0]; decide); rw [hW]; refine ⟨?_, oQ_0 rfl (oM_.rf _)⟩; rw [if_pos rfl]; simp only [tn_n (show a_ < 2147483648 by omega)]; rw [c_15_0]; rfl) | (have hW : f2_ (nb_ _ (nI (sn_ B))) (uk_ q 7) = 0 := (f2_b (nb_i c_5)).trans (by rw [c_15_1]; decide); rw [hW]; refine ⟨?_, oQ_0 rfl (oM_.rf _)⟩; rw [if_pos rfl]; simp only [tn_n (show a_ < 2147483648 by omega)]; rw [c_15_1]; rfl) | (have hW : f2_ (nb_ _ (nI (sn_ B))) (uk_ q 7) = 0 := (f2_b (nb_i c_5)).trans (by rw [c_15_2]; decide); rw [hW]; refine ⟨?_, oQ_0 rfl (oM_.rf _)⟩; rw [if_pos rfl]; simp only [tn_n (show a_ < 2147483648 by omega)]; rw [c_15_2]; rfl) | (have hW : f2_ (nb_ _ (nI (sn_ B))) (uk_ q 7) = 0 := (f2_b (nb_i c_5)).trans (by rw [c_15_3]; decide); rw [hW]; refine ⟨?_, oQ_0 rfl (oM_.rf _)⟩; rw [if_pos rfl]; simp only [tn_n (show a_ < 2147483648 by omega)]; rw [c_15_3]; rfl) | (have hW : f2_ (nb_ _ (nI (sn_ B))) (uk_ q 7) = 0 := (f2_b (nb_i c_5)).trans (by rw [c_15_4]; decide); rw [hW]; refine ⟨?_, oQ_0 rfl (oM_.rf _)⟩; rw [if_pos rfl]; simp only [tn_n (show a_ < 2147483648 by omega)]; rw [c_15_4]; exact (qb_b1 _ _).symm) | (have hW : f2_ (nb_ _ (nI (sn_ B))) (uk_ q 7) = 0 := (f2_b (nb_i c_5)).trans (by rw [c_15_5]; decide); rw [hW]; refine ⟨?_, oQ_0 rfl (oM_.rf _)⟩; rw [if_pos rfl]; simp only [tn_n (show a_ < 2147483648 by omega)]; rw [c_15_5]; rfl) | (have hW : f2_ (nb_ _ (nI (sn_ B))) (uk_ q 7) = 0 := (f2_b (nb_i c_5)).trans (by rw [c_15_6]; decide); rw [hW]; refine ⟨?_, oQ_0 rfl (oM_.rf _)⟩; rw [if_pos rfl]; simp only [tn_n (show a_ < 2147483648 by omega)]; rw [c_15_6]; rfl) | (have hW : f2_ (nb_ _ (nI (sn_ B))) (uk_ q 7) = 0 := (f2_b (nb_i c_5)).trans (by rw [c_15_7]; decide); rw [hW]; refine ⟨?_, oQ_0 rfl (oM_.rf _)⟩; rw [if_pos rfl]; simp only [tn_n (show a_ < 2147483648 by omega)]; rw [c_15_7]; first | exact (b1_t c_120).symm | exact (b1_f c_120).symm) | (have hW : f2_ (nb_ _ (nI (sn_ B))) (uk_ q 7) = -2 := (f2_b (nb_i c_5)).trans (uk_8 c_15_0 c_15_1 c_15_2 c_15_3 c_15_4 c_15_5 c_15_6 c_15_7); rw [hW]; exact ⟨(if_neg (by decide)).symm, oQ_n _ _⟩)
      · skip
        refine lv_iconst (v := 1) hx hb dX5_shoreOf_123 (by decide) ?_
        refine lv_goto (tgt := 128) hx hb dX5_shoreOf_124 (by decide) ?_
        refine rMi hx hb hr hlk hS M hP ?_ dX5_shoreOf_128
        first | (have hW : f2_ (nb_ _ (nI (sn_ B))) (uk_ q 7) = -1 := (f2_a (by rw [nb_o c_5]; decide)).trans (nb_o c_5); rw [hW]; exact ⟨(if_neg (by decide)).symm, oQ_n _ _⟩) | (have hW : f2_ (nb_ _ (nI (sn_ B))) (uk_ q 7) = 0 := (f2_b (nb_i c_5)).trans (by rw [c_15_0]; decide); rw [hW]; refine ⟨?_, oQ_0 rfl (oM_.rf _)⟩; rw [if_pos rfl]; simp only [tn_n (show a_ < 2147483648 by omega)]; rw [c_15_0]; rfl) | (have hW : f2_ (nb_ _ (nI (sn_ B))) (uk_ q 7) = 0 := (f2_b (nb_i c_5)).trans (by rw [c_15_1]; decide); rw [hW]; refine ⟨?_, oQ_0 rfl (oM_.rf _)⟩; rw [if_pos rfl]; simp only [tn_n (show a_ < 2147483648 by omega)]; rw [c_15_1]; rfl) | (have hW : f2_ (nb_ _ (nI (sn_ B))) (uk_ q 7) = 0 := (f2_b (nb_i c_5)).trans (by rw [c_15_2]; decide); rw [hW]; refine ⟨?_, oQ_0 rfl (oM_.rf _)⟩; rw [if_pos rfl]; simp only [tn_n (show a_ < 2147483648 by omega)]; rw [c_15_2]; rfl) | (have hW : f2_ (nb_ _ (nI (sn_ B))) (uk_ q 7) = 0 := (f2_b (nb_i c_5)).trans (by rw [c_15_3]; decide); rw [hW]; refine ⟨?_, oQ_0 rfl (oM_.rf _)⟩; rw [if_pos rfl]; simp only [tn_n (show a_ < 2147483648 by omega)]; rw [c_15_3]; rfl) | (have hW : f2_ (nb_ _ (nI (sn_ B))) (uk_ q 7) = 0 := (f2_b (nb_i c_5)).trans (by rw [c_15_4]; decide); rw [hW]; refine ⟨?_, oQ_0 rfl (oM_.rf _)⟩; rw [if_pos rfl]; simp only [tn_n (show a_ < 2147483648 by omega)]; rw [c_15_4]; exact (qb_b1 _ _).symm) | (have hW : f2_ (nb_ _ (nI (sn_ B))) (uk_ q 7) = 0 := (f2_b (nb_i c_5)).trans (by rw [c_15_5]; decide); rw [hW]; refine ⟨?_, oQ_0 rfl (oM_.rf _)⟩; rw [if_pos rfl]; simp only [tn_n (show a_ < 2147483648 by omega)]; rw [c_15_5]; rfl) | (have hW : f2_ (nb_ _ (nI (sn_ B))) (uk_ q 7) = 0 := (f2_b (nb_i c_5)).trans (by rw [c_15_6]; decide); rw [hW]; refine ⟨?_, oQ_0 rfl (oM_.rf _)⟩; rw [if_pos rfl]; simp only [tn_n (show a_ < 2147483648 by omega)]; rw [c_15_6]; rfl) | (have hW : f2_ (nb_ _ (nI (sn_ B))) (uk_ q 7) = 0 := (f2_b (nb_i c_5)).trans (by rw [c_15_7]; decide); rw [hW]; refine ⟨?_, oQ_0 rfl (oM_.rf _)⟩; rw [if_pos rfl]; simp only [tn_n (show a_ < 2147483648 by omega)]; rw [c_15_7]; first | exact (b1_t c_120).symm | exact (b1_f c_120).symm) | (have hW : f2_ (nb_ _ (nI (sn_ B))) (uk_ q 7) = -2 := (f2_b (nb_i c_5)).trans (uk_8 c_15_0 c_15_1 c_15_2 c_15_3 c_15_4 c_15_5 c_15_6 c_15_7); rw [hW]; exact ⟨(if_neg (by decide)).symm, oQ_n _ _⟩)
    refine lv_tableOut (tgt := 129) hx hb dX5_shoreOf_15 (by have t0 := lv_neT c_15_0 (a := 0) (by decide); have t1 := lv_neT c_15_1 (a := 1) (by decide); have t2 := lv_neT c_15_2 (a := 2) (by decide); have t3 := lv_neT c_15_3 (a := 3) (by decide); have t4 := lv_neT c_15_4 (a := 4) (by decide); have t5 := lv_neT c_15_5 (a := 5) (by decide); have t6 := lv_neT c_15_6 (a := 6) (by decide); have t7 := lv_neT c_15_7 (a := 7) (by decide); omega) (by decide) ?_
    refine lv_aload_n hx hb dX5_shoreOf_129 rfl (lv_at hl 0 rfl) ?_
    refine lv_bipush (v := (-2)) hx hb dX5_shoreOf_130 (by decide) ?_
    refine kMiV hx hb hml hown hts hK hP (va_D.adr hD0 (mW_adE rfl)) hA hS gX5_shoreOf_X5_no okX5_no (qX5_no l D cI cB r B M (-2) (by first | exact Or.inl rfl | exact Or.inr (Or.inl rfl))) [0, 1, 2, 3, 4, 5, 6, 7, 8, 9, 10, 11, 12, 13, 14, 15] rfl (by decide) (fun _ => mW_adr _ _ _ _ _ _) rfl rfl rfl (by decide) hl.1 rfl rfl (Nat.le_of_ble_eq_true rfl) dX5_shoreOf_132 (by decide) (fun r_5 u_6 H locs hw_7 hP hD hS => ?_)
    replace hw_7 : r_5 = (-2) ∧ u_6 = (rfm_ M (-2)) := hw_7
    obtain ⟨hw_7a, hw_7b⟩ := hw_7
    subst r_5
    subst u_6
    replace hP : va_P D vwCl ([(r 0, .inr (5, [.ref (r 1), .ref (r 2), .ref (r 3), .ref (r 4), .ref (r 5), .ref (r 6), .int (nI (sn_ B)), .int (qt_ B), .int (il_ B), .int (pa_ B), .int (ho_ B), .int (dy_ B), .ref (r 13), .ref (r 14), .ref (r 15), .ref (r 16), .int (nI (mtn_ M)), .int (nI (mrd_ M)), .int (nI (msm_ M)), .ref (r 20), .int (mhi_ M), .int (mik_ M), .int (nI (mcu_ M)), .int (nI (mbk_ M)), .ref (r 25), .ref (r 26), .int (mlw_ M), .int (mhg_ M), .int (msl_ M), .ref (r 30), .int (nI (mrm_ M)), .ref (r 32), .int (mlo_ M)])), (r 1, .inl (cI, 7, .inl (rfx_ (mrf_ M) (-2)))), (r 2, .inl (cI, 7, .inl (kd_ B))), (r 3, .inl (cI, 7, .inl (fg_ B))), (r 4, .inl (cI, 7, .inl (pl_ B))), (r 5, .inl (cI, 7, .inl (pw_ B))), (r 6, .inl (cI, 7, .inl (jy_ B))), (r 13, .inl (cI, 96, .inl (mtp_ M))), (r 14, .inl (cI, 48, .inl (mlt_ M))), (r 15, .inl (cI, 48, .inl (mla_ M))), (r 16, .inl (cI, 144, .inl (mtd_ M))), (r 20, .inl (cI, 451, .inl (flatK (mkp_ M)))), (r 25, .inl (cI, 7, .inl (mof_ M))), (r 26, .inl (cI, 7, .inl (mfa_ M))), (r 30, .inl (cI, 12, .inl (mrw_ M))), (r 32, .inl (cI, 8, .inl (mhb_ M)))]) H := hP
    refine rMi hx hb hr hlk hS (rfm_ M (-2)) hP ?_ dX5_shoreOf_135
    first | (have hW : f2_ (nb_ _ (nI (sn_ B))) (uk_ q 7) = -1 := (f2_a (by rw [nb_o c_5]; decide)).trans (nb_o c_5); rw [hW]; exact ⟨(if_neg (by decide)).symm, oQ_n _ _⟩) | (have hW : f2_ (nb_ _ (nI (sn_ B))) (uk_ q 7) = 0 := (f2_b (nb_i c_5)).trans (by rw [c_15_0]; decide); rw [hW]; refine ⟨?_, oQ_0 rfl (oM_.rf _)⟩; rw [if_pos rfl]; simp only [tn_n (show a_ < 2147483648 by omega)]; rw [c_15_0]; rfl) | (have hW : f2_ (nb_ _ (nI (sn_ B))) (uk_ q 7) = 0 := (f2_b (nb_i c_5)).trans (by rw [c_15_1]; decide); rw [hW]; refine ⟨?_, oQ_0 rfl (oM_.rf _)⟩; rw [if_pos rfl]; simp only [tn_n (show a_ < 2147483648 by omega)]; rw [c_15_1]; rfl) | (have hW : f2_ (nb_ _ (nI (sn_ B))) (uk_ q 7) = 0 := (f2_b (nb_i c_5)).trans (by rw [c_15_2]; decide); rw [hW]; refine ⟨?_, oQ_0 rfl (oM_.rf _)⟩; rw [if_pos rfl]; simp only [tn_n (show a_ < 2147483648 by omega)]; rw [c_15_2]; rfl) | (have hW : f2_ (nb_ _ (nI (sn_ B))) (uk_ q 7) = 0 := (f2_b (nb_i c_5)).trans (by rw [c_15_3]; decide); rw [hW]; refine ⟨?_, oQ_0 rfl (oM_.rf _)⟩; rw [if_pos rfl]; simp only [tn_n (show a_ < 2147483648 by omega)]; rw [c_15_3]; rfl) | (have hW : f2_ (nb_ _ (nI (sn_ B))) (uk_ q 7) = 0 := (f2_b (nb_i c_5)).trans (by rw [c_15_4]; decide); rw [hW]; refine ⟨?_, oQ_0 rfl (oM_.rf _)⟩; rw [if_pos rfl]; simp only [tn_n (show a_ < 2147483648 by omega)]; rw [c_15_4]; exact (qb_b1 _ _).symm) | (have hW : f2_ (nb_ _ (nI (sn_ B))) (uk_ q 7) = 0 := (f2_b (nb_i c_5)).trans (by rw [c_15_5]; decide); rw [hW]; refine ⟨?_, oQ_0 rfl (oM_.rf _)⟩; rw [if_pos rfl]; simp only [tn_n (show a_ < 2147483648 by omega)]; rw [c_15_5]; rfl) | (have hW : f2_ (nb_ _ (nI (sn_ B))) (uk_ q 7) = 0 := (f2_b (nb_i c_5)).trans (by rw [c_15_6]; decide); rw [hW]; refine ⟨?_, oQ_0 rfl (oM_.rf _)⟩; rw [if_pos rfl]; simp only [tn_n (show a_ < 2147483648 by omega)]; rw [c_15_6]; rfl) | (have hW : f2_ (nb_ _ (nI (sn_ B))) (uk_ q 7) = 0 := (f2_b (nb_i c_5)).trans (by rw [c_15_7]; decide); rw [hW]; refine ⟨?_, oQ_0 rfl (oM_.rf _)⟩; rw [if_pos rfl]; simp only [tn_n (show a_ < 2147483648 by omega)]; rw [c_15_7]; first | exact (b1_t c_120).symm | exact (b1_f c_120).symm) | (have hW : f2_ (nb_ _ (nI (sn_ B))) (uk_ q 7) = -2 := (f2_b (nb_i c_5)).trans (uk_8 c_15_0 c_15_1 c_15_2 c_15_3 c_15_4 c_15_5 c_15_6 c_15_7); rw [hW]; exact ⟨(if_neg (by decide)).symm, oQ_n _ _⟩)
  · replace c_5 := b1_z c_5
    refine lv_aload_n hx hb dX5_shoreOf_8 rfl (lv_at hl 0 rfl) ?_
    refine lv_iconst (v := (-1)) hx hb dX5_shoreOf_9 (by decide) ?_
    refine kMiV hx hb hml hown hts hK hP (va_D.adr hD0 (mW_adE rfl)) hA hS gX5_shoreOf_X5_no okX5_no (qX5_no l D cI cB r B M (-1) (by first | exact Or.inl rfl | exact Or.inr (Or.inl rfl))) [0, 1, 2, 3, 4, 5, 6, 7, 8, 9, 10, 11, 12, 13, 14, 15] rfl (by decide) (fun _ => mW_adr _ _ _ _ _ _) rfl rfl rfl (by decide) hl.1 rfl rfl (Nat.le_of_ble_eq_true rfl) dX5_shoreOf_10 (by decide) (fun r_8 u_9 H locs hw_10 hP hD hS => ?_)
    replace hw_10 : r_8 = (-1) ∧ u_9 = (rfm_ M (-1)) := hw_10
    obtain ⟨hw_10a, hw_10b⟩ := hw_10
    subst r_8
    subst u_9
    replace hP : va_P D vwCl ([(r 0, .inr (5, [.ref (r 1), .ref (r 2), .ref (r 3), .ref (r 4), .ref (r 5), .ref (r 6), .int (nI (sn_ B)), .int (qt_ B), .int (il_ B), .int (pa_ B), .int (ho_ B), .int (dy_ B), .ref (r 13), .ref (r 14), .ref (r 15), .ref (r 16), .int (nI (mtn_ M)), .int (nI (mrd_ M)), .int (nI (msm_ M)), .ref (r 20), .int (mhi_ M), .int (mik_ M), .int (nI (mcu_ M)), .int (nI (mbk_ M)), .ref (r 25), .ref (r 26), .int (mlw_ M), .int (mhg_ M), .int (msl_ M), .ref (r 30), .int (nI (mrm_ M)), .ref (r 32), .int (mlo_ M)])), (r 1, .inl (cI, 7, .inl (rfx_ (mrf_ M) (-1)))), (r 2, .inl (cI, 7, .inl (kd_ B))), (r 3, .inl (cI, 7, .inl (fg_ B))), (r 4, .inl (cI, 7, .inl (pl_ B))), (r 5, .inl (cI, 7, .inl (pw_ B))), (r 6, .inl (cI, 7, .inl (jy_ B))), (r 13, .inl (cI, 96, .inl (mtp_ M))), (r 14, .inl (cI, 48, .inl (mlt_ M))), (r 15, .inl (cI, 48, .inl (mla_ M))), (r 16, .inl (cI, 144, .inl (mtd_ M))), (r 20, .inl (cI, 451, .inl (flatK (mkp_ M)))), (r 25, .inl (cI, 7, .inl (mof_ M))), (r 26, .inl (cI, 7, .inl (mfa_ M))), (r 30, .inl (cI, 12, .inl (mrw_ M))), (r 32, .inl (cI, 8, .inl (mhb_ M)))]) H := hP
    refine rMi hx hb hr hlk hS (rfm_ M (-1)) hP ?_ dX5_shoreOf_13
    first | (have hW : f2_ (nb_ _ (nI (sn_ B))) (uk_ q 7) = -1 := (f2_a (by rw [nb_o c_5]; decide)).trans (nb_o c_5); rw [hW]; exact ⟨(if_neg (by decide)).symm, oQ_n _ _⟩) | (have hW : f2_ (nb_ _ (nI (sn_ B))) (uk_ q 7) = 0 := (f2_b (nb_i c_5)).trans (by rw [c_15_0]; decide); rw [hW]; refine ⟨?_, oQ_0 rfl (oM_.rf _)⟩; rw [if_pos rfl]; simp only [tn_n (show a_ < 2147483648 by omega)]; rw [c_15_0]; rfl) | (have hW : f2_ (nb_ _ (nI (sn_ B))) (uk_ q 7) = 0 := (f2_b (nb_i c_5)).trans (by rw [c_15_1]; decide); rw [hW]; refine ⟨?_, oQ_0 rfl (oM_.rf _)⟩; rw [if_pos rfl]; simp only [tn_n (show a_ < 2147483648 by omega)]; rw [c_15_1]; rfl) | (have hW : f2_ (nb_ _ (nI (sn_ B))) (uk_ q 7) = 0 := (f2_b (nb_i c_5)).trans (by rw [c_15_2]; decide); rw [hW]; refine ⟨?_, oQ_0 rfl (oM_.rf _)⟩; rw [if_pos rfl]; simp only [tn_n (show a_ < 2147483648 by omega)]; rw [c_15_2]; rfl) | (have hW : f2_ (nb_ _ (nI (sn_ B))) (uk_ q 7) = 0 := (f2_b (nb_i c_5)).trans (by rw [c_15_3]; decide); rw [hW]; refine ⟨?_, oQ_0 rfl (oM_.rf _)⟩; rw [if_pos rfl]; simp only [tn_n (show a_ < 2147483648 by omega)]; rw [c_15_3]; rfl) | (have hW : f2_ (nb_ _ (nI (sn_ B))) (uk_ q 7) = 0 := (f2_b (nb_i c_5)).trans (by rw [c_15_4]; decide); rw [hW]; refine ⟨?_, oQ_0 rfl (oM_.rf _)⟩; rw [if_pos rfl]; simp only [tn_n (show a_ < 2147483648 by omega)]; rw [c_15_4]; exact (qb_b1 _ _).symm) | (have hW : f2_ (nb_ _ (nI (sn_ B))) (uk_ q 7) = 0 := (f2_b (nb_i c_5)).trans (by rw [c_15_5]; decide); rw [hW]; refine ⟨?_, oQ_0 rfl (oM_.rf _)⟩; rw [if_pos rfl]; simp only [tn_n (show a_ < 2147483648 by omega)]; rw [c_15_5]; rfl) | (have hW : f2_ (nb_ _ (nI (sn_ B))) (uk_ q 7) = 0 := (f2_b (nb_i c_5)).trans (by rw [c_15_6]; decide); rw [hW]; refine ⟨?_, oQ_0 rfl (oM_.rf _)⟩; rw [if_pos rfl]; simp only [tn_n (show a_ < 2147483648 by omega)]; rw [c_15_6]; rfl) | (have hW : f2_ (nb_ _ (nI (sn_ B))) (uk_ q 7) = 0 := (f2_b (nb_i c_5)).trans (by rw [c_15_7]; decide); rw [hW]; refine ⟨?_, oQ_0 rfl (oM_.rf _)⟩; rw [if_pos rfl]; simp only [tn_n (show a_ < 2147483648 by omega)]; rw [c_15_7]; first | exact (b1_t c_120).symm | exact (b1_f c_120).symm) | (have hW : f2_ (nb_ _ (nI (sn_ B))) (uk_ q 7) = -2 := (f2_b (nb_i c_5)).trans (uk_8 c_15_0 c_15_1 c_15_2 c_15_3 c_15_4 c_15_5 c_15_6 c_15_7); rw [hW]; exact ⟨(if_neg (by decide)).symm, oQ_n _ _⟩)

theorem okX5_loudest : jok yX5_loudest wsX5_loudest cX5_loudest 4 (some .int) 2 := ⟨⟨_, rfl⟩, by decide +kernel, by decide +kernel⟩
set_option maxHeartbeats 2000000 in
set_option maxRecDepth 100000 in
theorem qX5_loudest (l : Launch) (D : va_G) (cI cB : ClassId) (r : Nat → Nat) (B : BayT) (M : MT) (h : Int32) (q : Int32) (hI : bI_ B) : jMi D cI cB l yX5_loudest wsX5_loudest 5 [.ref (r 0), .int h, .int q] (mW cI r B M) (S := MT) (fun r u => r = (if f2_ (nb_ h 24) (uk_ q 1) = 0 then (if q = 0 then oI_ (lt_ B h) else an_ B h) else f2_ (nb_ h 24) (uk_ q 1)) ∧ oQ_ M u (f2_ (nb_ h 24) (uk_ q 1))) (fun u => mW cI r B u) := by
  refine jMi.of (cc := cX5_loudest) (maxL := 4) (ret := (some .int)) okX5_loudest (Nat.le_of_ble_eq_true rfl) ?_
  intro p e s m below meth c ls A hx hb hr hts hown hlk hml hP hK hD hA hS hl
  replace hown : s.vm.findClass RX5 = some m.cls := hown
  replace hl : lv_has ls 4 [(0, .ref (r 0)), (1, .int h), (2, .int q)] := hl
  have hD0 := hD
  have hn7 := hI.1
  have jn_30 : ∀  (x3_30 : Int32) , (x3_30 = f2_ (nb_ h 24) (uk_ q 1)) → ∀ (H : Heap) (locs : List Loc), va_P D vwCl (mW cI r B M) H → va_D A (mW cI r B M) → va_S A s.heap H locs → ∀ ls : Array Slot, lv_has ls 4 [(3, .int x3_30), (0, .ref (r 0)), (1, .int h), (2, .int q)] → W p l e (jR 5) s m ([.ref (r 0), .int h, .int q] : List Value).toArray below meth c H locs 0 0 (MQ below (va_Qi (S := MT) (fun r u => r = (if f2_ (nb_ h 24) (uk_ q 1) = 0 then (if q = 0 then oI_ (lt_ B h) else an_ B h) else f2_ (nb_ h 24) (uk_ q 1)) ∧ oQ_ M u (f2_ (nb_ h 24) (uk_ q 1))) (fun u t => va_P D vwCl ((fun u => mW cI r B u) u) t.heap) A) ([.ref (r 0), .int h, .int q] : List Value).toArray s 0 0 A) (F0 m 30 ls []) := by
      intro x3_30 hx3_30 H locs hP hD hS ls hl
      subst x3_30
      replace hl : lv_has ls 4 [(3, .int (f2_ (nb_ h 24) (uk_ q 1))), (0, .ref (r 0)), (1, .int h), (2, .int q)] := hl
      replace hP : va_P D vwCl (mW cI r B M) H := hP
      refine lv_iload_n hx hb dX5_loudest_30 rfl (lv_at hl 0 rfl) ?_
      refine lv_if_eq (tgt := 40) hx hb dX5_loudest_31 (by decide) (fun c_31 => ?_) (fun c_31 => ?_)
      · skip
        refine lv_iload_n hx hb dX5_loudest_40 rfl (lv_at hl 3 rfl) ?_
        refine lv_if_ne (tgt := 52) hx hb dX5_loudest_41 (by decide) (fun c_41 => ?_) (fun c_41 => ?_)
        · skip
          refine lv_aload_n hx hb dX5_loudest_52 rfl (lv_at hl 1 rfl) ?_
          refine lv_iload_n hx hb dX5_loudest_53 rfl (lv_at hl 2 rfl) ?_
          refine kSiV hx hb hml hown hts hK hP gX5_loudest_X5_allNoise okX5_allNoise (qX5_allNoise l D cI cB r B M h hI) [0, 1, 2, 3, 4, 5, 6, 7, 8, 9, 10, 11, 12, 13, 14, 15] rfl rfl rfl rfl (by decide) hl.1 rfl rfl (Nat.le_of_ble_eq_true rfl) dX5_loudest_54 (by decide) (fun r_1 hr_2 => ?_)
          replace hr_2 : r_1 = an_ B h := hr_2
          subst r_1
          refine rMi hx hb hr hlk hS M hP ?_ dX5_loudest_57
          first | exact ⟨(if_neg c_31).symm, oQ_n _ _⟩ | exact ⟨by (rw [if_pos c_31]; first | (rw [if_pos c_41]; done) | (rw [if_neg c_41]; done) | (rw [if_pos c_41]; rfl) | (rw [if_neg c_41]; rfl)), oQ_0 c_31 (by (first | exact (oN_mk (by assumption)).m | exact oM_.rf _ | exact (oN_pp _ _).m | exact (oN_fo _ _ _ _).m | assumption | (apply oN_.m; assumption) | exact oM_.tr (by assumption) (by assumption)))⟩
        · skip
          refine lv_aload_n hx hb dX5_loudest_44 rfl (lv_at hl 1 rfl) ?_
          refine lv_iload_n hx hb dX5_loudest_45 rfl (lv_at hl 2 rfl) ?_
          refine kSiV hx hb hml hown hts hK hP gX5_loudest_X5_loudestAt okX5_loudestAt (qX5_loudestAt l D cI cB r B M h hI) [0, 1, 2, 3, 4, 5, 6, 7, 8, 9, 10, 11, 12, 13, 14, 15] rfl rfl rfl rfl (by decide) hl.1 rfl rfl (Nat.le_of_ble_eq_true rfl) dX5_loudest_46 (by decide) (fun r_3 hr_4 => ?_)
          replace hr_4 : r_3 = oI_ (lt_ B h) := hr_4
          subst r_3
          refine lv_goto (tgt := 57) hx hb dX5_loudest_49 (by decide) ?_
          refine rMi hx hb hr hlk hS M hP ?_ dX5_loudest_57
          first | exact ⟨(if_neg c_31).symm, oQ_n _ _⟩ | exact ⟨by (rw [if_pos c_31]; first | (rw [if_pos c_41]; done) | (rw [if_neg c_41]; done) | (rw [if_pos c_41]; rfl) | (rw [if_neg c_41]; rfl)), oQ_0 c_31 (by (first | exact (oN_mk (by assumption)).m | exact oM_.rf _ | exact (oN_pp _ _).m | exact (oN_fo _ _ _ _).m | assumption | (apply oN_.m; assumption) | exact oM_.tr (by assumption) (by assumption)))⟩
      · skip
        refine lv_aload_n hx hb dX5_loudest_34 rfl (lv_at hl 1 rfl) ?_
        refine lv_iload_n hx hb dX5_loudest_35 rfl (lv_at hl 0 rfl) ?_
        refine kMiV hx hb hml hown hts hK hP (va_D.adr hD0 (mW_adE rfl)) hA hS gX5_loudest_X5_no okX5_no (qX5_no l D cI cB r B M (f2_ (nb_ h 24) (uk_ q 1)) (rc0_n (by first | exact rc0_wS _ _ | exact rc0_wSN _ _ _ | exact rc0_wSNW _ _ _ _ | exact rc0_wNW _ _ | exact rc0_wTh _ _ _ _ _ | exact rc0_wTr _ _ _ _ | exact rc0_nb _ _ | exact rc0_uk _ _ | exact rc0_ob _ _ _ | exact rc0_f2 (rc0_nb _ _) (rc0_nb _ _) | exact rc0_f2 (rc0_nb _ _) (rc0_uk _ _) | exact rc0_f2 (rc0_ob _ _ _) (rc0_uk _ _) | exact rc0_f2 (rc0_uk _ _) (rc0_f2 (rc0_uk _ _) (rc0_ob _ _ _))) c_31)) [0, 1, 2, 3, 4, 5, 6, 7, 8, 9, 10, 11, 12, 13, 14, 15] rfl (by decide) (fun _ => mW_adr _ _ _ _ _ _) rfl rfl rfl (by decide) hl.1 rfl rfl (Nat.le_of_ble_eq_true rfl) dX5_loudest_36 (by decide) (fun r_5 u_6 H locs hw_7 hP hD hS => ?_)
        replace hw_7 : r_5 = f2_ (nb_ h 24) (uk_ q 1) ∧ u_6 = (rfm_ M (f2_ (nb_ h 24) (uk_ q 1))) := hw_7
        obtain ⟨hw_7a, hw_7b⟩ := hw_7
        subst r_5
        subst u_6
        replace hP : va_P D vwCl ([(r 0, .inr (5, [.ref (r 1), .ref (r 2), .ref (r 3), .ref (r 4), .ref (r 5), .ref (r 6), .int (nI (sn_ B)), .int (qt_ B), .int (il_ B), .int (pa_ B), .int (ho_ B), .int (dy_ B), .ref (r 13), .ref (r 14), .ref (r 15), .ref (r 16), .int (nI (mtn_ M)), .int (nI (mrd_ M)), .int (nI (msm_ M)), .ref (r 20), .int (mhi_ M), .int (mik_ M), .int (nI (mcu_ M)), .int (nI (mbk_ M)), .ref (r 25), .ref (r 26), .int (mlw_ M), .int (mhg_ M), .int (msl_ M), .ref (r 30), .int (nI (mrm_ M)), .ref (r 32), .int (mlo_ M)])), (r 1, .inl (cI, 7, .inl (rfx_ (mrf_ M) (f2_ (nb_ h 24) (uk_ q 1))))), (r 2, .inl (cI, 7, .inl (kd_ B))), (r 3, .inl (cI, 7, .inl (fg_ B))), (r 4, .inl (cI, 7, .inl (pl_ B))), (r 5, .inl (cI, 7, .inl (pw_ B))), (r 6, .inl (cI, 7, .inl (jy_ B))), (r 13, .inl (cI, 96, .inl (mtp_ M))), (r 14, .inl (cI, 48, .inl (mlt_ M))), (r 15, .inl (cI, 48, .inl (mla_ M))), (r 16, .inl (cI, 144, .inl (mtd_ M))), (r 20, .inl (cI, 451, .inl (flatK (mkp_ M)))), (r 25, .inl (cI, 7, .inl (mof_ M))), (r 26, .inl (cI, 7, .inl (mfa_ M))), (r 30, .inl (cI, 12, .inl (mrw_ M))), (r 32, .inl (cI, 8, .inl (mhb_ M)))]) H := hP
        refine rMi hx hb hr hlk hS (rfm_ M (f2_ (nb_ h 24) (uk_ q 1))) hP ?_ dX5_loudest_39
        first | exact ⟨(if_neg c_31).symm, oQ_n _ _⟩ | exact ⟨by (rw [if_pos c_31]; first | (rw [if_pos c_41]; done) | (rw [if_neg c_41]; done) | (rw [if_pos c_41]; rfl) | (rw [if_neg c_41]; rfl)), oQ_0 c_31 (by (first | exact (oN_mk (by assumption)).m | exact oM_.rf _ | exact (oN_pp _ _).m | exact (oN_fo _ _ _ _).m | assumption | (apply oN_.m; assumption) | exact oM_.tr (by assumption) (by assumption)))⟩
  refine lv_iload_n hx hb dX5_loudest_0 rfl (lv_at hl 1 rfl) ?_
  refine lv_iconst (v := 0) hx hb dX5_loudest_1 (by decide) ?_
  refine lv_bipush (v := 23) hx hb dX5_loudest_2 (by decide) ?_
  refine kSiS hx hb hml hown hts hK hP gX5_loudest_X5_isIn okX5_isIn (qX5_isIn l D cI cB h 0 23 ) [] rfl (by decide) hl.1 rfl rfl (Nat.le_of_ble_eq_true rfl) dX5_loudest_4 (by decide) (fun r_8 hr_9 => ?_)
  replace hr_9 : r_8 = b1 (0 ≤ h ∧ h ≤ 23) := hr_9
  subst r_8
  refine lv_if_ne (tgt := 14) hx hb dX5_loudest_7 (by decide) (fun c_7 => ?_) (fun c_7 => ?_)
  · replace c_7 := b1_n c_7
    refine lv_iload_n hx hb dX5_loudest_14 rfl (lv_at hl 2 rfl) ?_
    refine lv_iconst (v := 0) hx hb dX5_loudest_15 (by decide) ?_
    refine lv_iconst (v := 1) hx hb dX5_loudest_16 (by decide) ?_
    refine kSiS hx hb hml hown hts hK hP gX5_loudest_X5_isIn okX5_isIn (qX5_isIn l D cI cB q 0 1 ) [] rfl (by decide) hl.1 rfl rfl (Nat.le_of_ble_eq_true rfl) dX5_loudest_17 (by decide) (fun r_10 hr_11 => ?_)
    replace hr_11 : r_10 = b1 (0 ≤ q ∧ q ≤ 1) := hr_11
    subst r_10
    refine lv_if_ne (tgt := 28) hx hb dX5_loudest_20 (by decide) (fun c_20 => ?_) (fun c_20 => ?_)
    · replace c_20 := b1_n c_20
      refine lv_iconst (v := 0) hx hb dX5_loudest_28 (by decide) ?_
      refine lv_istore_n (lv' := [(3, .int 0), (0, .ref (r 0)), (1, .int h), (2, .int q)]) hx hb dX5_loudest_29 rfl hl (by decide) rfl (fun ls hl => ?_)
      exact jn_30  0  (by first | exact ((f2_a (by rw [nb_o (fun z => c_7 (h23.mpr z))]; decide)).trans (nb_o (fun z => c_7 (h23.mpr z)))).symm | exact ((f2_b (nb_i (h23.mp c_7))).trans (uk_o c_20)).symm | exact ((f2_b (nb_i (h23.mp c_7))).trans (uk_i c_20)).symm)   _ _ hP (va_D.adr hD0 (mW_adE rfl)) hS ls (lv_sub hl [0, 1, 2, 3] rfl)
    · replace c_20 := b1_z c_20
      refine lv_bipush (v := (-2)) hx hb dX5_loudest_23 (by decide) ?_
      refine lv_goto (tgt := 29) hx hb dX5_loudest_25 (by decide) ?_
      refine lv_istore_n (lv' := [(3, .int (-2)), (0, .ref (r 0)), (1, .int h), (2, .int q)]) hx hb dX5_loudest_29 rfl hl (by decide) rfl (fun ls hl => ?_)
      exact jn_30  (-2)  (by first | exact ((f2_a (by rw [nb_o (fun z => c_7 (h23.mpr z))]; decide)).trans (nb_o (fun z => c_7 (h23.mpr z)))).symm | exact ((f2_b (nb_i (h23.mp c_7))).trans (uk_o c_20)).symm | exact ((f2_b (nb_i (h23.mp c_7))).trans (uk_i c_20)).symm)   _ _ hP (va_D.adr hD0 (mW_adE rfl)) hS ls (lv_sub hl [0, 1, 2, 3] rfl)
  · replace c_7 := b1_z c_7
    refine lv_iconst (v := (-1)) hx hb dX5_loudest_10 (by decide) ?_
    refine lv_goto (tgt := 29) hx hb dX5_loudest_11 (by decide) ?_
    refine lv_istore_n (lv' := [(3, .int (-1)), (0, .ref (r 0)), (1, .int h), (2, .int q)]) hx hb dX5_loudest_29 rfl hl (by decide) rfl (fun ls hl => ?_)
    exact jn_30  (-1)  (by first | exact ((f2_a (by rw [nb_o (fun z => c_7 (h23.mpr z))]; decide)).trans (nb_o (fun z => c_7 (h23.mpr z)))).symm | exact ((f2_b (nb_i (h23.mp c_7))).trans (uk_o c_20)).symm | exact ((f2_b (nb_i (h23.mp c_7))).trans (uk_i c_20)).symm)   _ _ hP (va_D.adr hD0 (mW_adE rfl)) hS ls (lv_sub hl [0, 1, 2, 3] rfl)

theorem okX5_behind : jok yX5_behind wsX5_behind cX5_behind 5 (some .int) 2 := ⟨⟨_, rfl⟩, by decide +kernel, by decide +kernel⟩
set_option maxHeartbeats 2000000 in
set_option maxRecDepth 100000 in
theorem qX5_behind (l : Launch) (D : va_G) (cI cB : ClassId) (r : Nat → Nat) (B : BayT) (M : MT) (v : Int32) (q : Int32) (hI : bI_ B) : jMi D cI cB l yX5_behind wsX5_behind 7 [.ref (r 0), .int v, .int q] (mW cI r B M) (S := MT) (fun r u => r = (if wNW_ v q = 0 then (if q = 0 then il_ (hs_ (tn_ v) B) else oI_ (ow_ (hs_ (tn_ v) B))) else wNW_ v q) ∧ oQ_ M u (wNW_ v q)) (fun u => mW cI r B u) := by
  refine jMi.of (cc := cX5_behind) (maxL := 5) (ret := (some .int)) okX5_behind (Nat.le_of_ble_eq_true rfl) ?_
  intro p e s m below meth c ls A hx hb hr hts hown hlk hml hP hK hD hA hS hl
  replace hown : s.vm.findClass RX5 = some m.cls := hown
  replace hl : lv_has ls 5 [(0, .ref (r 0)), (1, .int v), (2, .int q)] := hl
  have hD0 := hD
  have hn7 := hI.1
  have hinX5 : ∀ w ∈ wsX50, w ∈ wsX5_behind := by decide +kernel
  refine lv_iload_n hx hb dX5_behind_0 rfl (lv_at hl 1 rfl) ?_
  refine kSiS hx hb hml hown hts hK hP gX5_behind_X5_notHours okX5_notHours (qX5_notHours l D cI cB v ) [] rfl (by decide) hl.1 rfl rfl (Nat.le_of_ble_eq_true rfl) dX5_behind_1 (by decide) (fun r_1 hr_2 => ?_)
  replace hr_2 : r_1 = ob_ v 0 99 := hr_2
  subst r_1
  refine lv_istore_n (lv' := [(3, .int (ob_ v 0 99)), (0, .ref (r 0)), (1, .int v), (2, .int q)]) hx hb dX5_behind_4 rfl hl (by decide) rfl (fun ls hl => ?_)
  have jn_21 : ∀  (x3_21 : Int32) , (x3_21 = wNW_ v q) → ∀ (H : Heap) (locs : List Loc), va_P D vwCl (mW cI r B M) H → va_D A (mW cI r B M) → va_S A s.heap H locs → ∀ ls : Array Slot, lv_has ls 5 [(3, .int x3_21), (0, .ref (r 0)), (1, .int v), (2, .int q)] → W p l e (jR 7) s m ([.ref (r 0), .int v, .int q] : List Value).toArray below meth c H locs 0 0 (MQ below (va_Qi (S := MT) (fun r u => r = (if wNW_ v q = 0 then (if q = 0 then il_ (hs_ (tn_ v) B) else oI_ (ow_ (hs_ (tn_ v) B))) else wNW_ v q) ∧ oQ_ M u (wNW_ v q)) (fun u t => va_P D vwCl ((fun u => mW cI r B u) u) t.heap) A) ([.ref (r 0), .int v, .int q] : List Value).toArray s 0 0 A) (F0 m 21 ls []) := by
      intro x3_21 hx3_21 H locs hP hD hS ls hl
      subst x3_21
      replace hl : lv_has ls 5 [(3, .int (wNW_ v q)), (0, .ref (r 0)), (1, .int v), (2, .int q)] := hl
      replace hP : va_P D vwCl (mW cI r B M) H := hP
      refine lv_iload_n hx hb dX5_behind_21 rfl (lv_at hl 0 rfl) ?_
      refine lv_if_eq (tgt := 31) hx hb dX5_behind_22 (by decide) (fun c_22 => ?_) (fun c_22 => ?_)
      · skip
        have w0 := c_22
        simp only [wS_, wSN_, wSNW_, wNW_, wTh_, wTr_, f2_0, nb_0, ob_0, uk_0, lo_0, hi_0] at w0
        obtain ⟨v_, hv_, rfl⟩ := pl_le (n := 99) (by decide) w0.1
        replace hl : lv_has ls 5 [(3, .int (wNW_ (nI v_) q)), (0, .ref (r 0)), (1, .int (nI v_)), (2, .int q)] := hl
        refine lv_aload_n hx hb dX5_behind_31 rfl (lv_at hl 1 rfl) ?_
        refine kMvV hx hb hml hown hts hK hP (va_D.adr hD0 (mW_adE rfl)) hA hS gX5_behind_X5_thinks okX5_thinks (qX5_thinksE l D cI cB r B M ) [0, 1, 2, 3, 4, 5, 6, 7, 8, 9, 10, 11, 12, 13, 14, 15] rfl (by decide) (fun _ => mW_adE rfl) rfl rfl rfl (by decide) hl.1 rfl rfl (Nat.le_of_ble_eq_true rfl) dX5_behind_32 (by decide) (fun u_4 H locs hw_5 hP hD hS => ?_)
        replace hP : va_P D vwCl ([(r 0, .inr (5, [.ref (r 1), .ref (r 2), .ref (r 3), .ref (r 4), .ref (r 5), .ref (r 6), .int (nI (sn_ B)), .int (qt_ B), .int (il_ B), .int (pa_ B), .int (ho_ B), .int (dy_ B), .ref (r 13), .ref (r 14), .ref (r 15), .ref (r 16), .int (nI (mtn_ M)), .int (nI (mrd_ M)), .int (nI (msm_ M)), .ref (r 20), .int (mhi_ M), .int (1), .int (nI (41 * 2 + 41)), .int (nI (mbk_ M)), .ref (r 25), .ref (r 26), .int (mlw_ M), .int (mhg_ M), .int (msl_ M), .ref (r 30), .int (nI (mrm_ M)), .ref (r 32), .int (mlo_ M)])), (r 1, .inl (cI, 7, .inl (mrf_ M))), (r 2, .inl (cI, 7, .inl (kd_ B))), (r 3, .inl (cI, 7, .inl (fg_ B))), (r 4, .inl (cI, 7, .inl (pl_ B))), (r 5, .inl (cI, 7, .inl (pw_ B))), (r 6, .inl (cI, 7, .inl (jy_ B))), (r 13, .inl (cI, 96, .inl (mtp_ M))), (r 14, .inl (cI, 48, .inl (mlt_ M))), (r 15, .inl (cI, 48, .inl (mla_ M))), (r 16, .inl (cI, 144, .inl (mtd_ M))), (r 20, .inl (cI, 451, .inl (flatK (va_up (mkp_ M) 2 B)))), (r 25, .inl (cI, 7, .inl (mof_ M))), (r 26, .inl (cI, 7, .inl (mfa_ M))), (r 30, .inl (cI, 12, .inl (mrw_ M))), (r 32, .inl (cI, 8, .inl (mhb_ M)))]) H := hP
        refine lv_aload_n hx hb dX5_behind_35 rfl (lv_at hl 1 rfl) ?_
        refine lv_iload_n hx hb dX5_behind_36 rfl (lv_at hl 2 rfl) ?_
        refine kMvV hx hb hml hown hts hK hP (va_D.adr hD0 (mW_adE rfl)) hA hS gX5_behind_X5_goes okX5_goes (qX5_goes l D cI cB r B (mkM (mrf_ M) (mtp_ M) (mlt_ M) (mla_ M) (mtd_ M) (va_up (mkp_ M) 2 B) (mof_ M) (mfa_ M) (mrw_ M) (mhb_ M) (mtn_ M) (mrd_ M) (msm_ M) (41 * 2 + 41) (mbk_ M) (mrm_ M) (mhi_ M) 1 (mlw_ M) (mhg_ M) (msl_ M) (mlo_ M)) v_ hI (by omega)) [0, 1, 2, 3, 4, 5, 6, 7, 8, 9, 10, 11, 12, 13, 14, 15] rfl (by decide) (fun _ => mW_adr _ _ _ _ _ _) rfl rfl rfl (by decide) hl.1 rfl rfl (Nat.le_of_ble_eq_true rfl) dX5_behind_37 (by decide) (fun u_7 H locs hw_8 hP hD hS => ?_)
        replace hw_8 : u_7 = hs_ v_ B := hw_8
        subst u_7
        replace hP : va_P D vwCl ([(r 0, .inr (5, [.ref (r 1), .ref (r 2), .ref (r 3), .ref (r 4), .ref (r 5), .ref (r 6), .int (nI (sn_ (hs_ v_ B))), .int (qt_ (hs_ v_ B)), .int (il_ (hs_ v_ B)), .int (pa_ (hs_ v_ B)), .int (ho_ (hs_ v_ B)), .int (dy_ (hs_ v_ B)), .ref (r 13), .ref (r 14), .ref (r 15), .ref (r 16), .int (nI (mtn_ M)), .int (nI (mrd_ M)), .int (nI (msm_ M)), .ref (r 20), .int (mhi_ M), .int (1), .int (nI (41 * 2 + 41)), .int (nI (mbk_ M)), .ref (r 25), .ref (r 26), .int (mlw_ M), .int (mhg_ M), .int (msl_ M), .ref (r 30), .int (nI (mrm_ M)), .ref (r 32), .int (mlo_ M)])), (r 1, .inl (cI, 7, .inl (mrf_ M))), (r 2, .inl (cI, 7, .inl (kd_ (hs_ v_ B)))), (r 3, .inl (cI, 7, .inl (fg_ (hs_ v_ B)))), (r 4, .inl (cI, 7, .inl (pl_ (hs_ v_ B)))), (r 5, .inl (cI, 7, .inl (pw_ (hs_ v_ B)))), (r 6, .inl (cI, 7, .inl (jy_ (hs_ v_ B)))), (r 13, .inl (cI, 96, .inl (mtp_ M))), (r 14, .inl (cI, 48, .inl (mlt_ M))), (r 15, .inl (cI, 48, .inl (mla_ M))), (r 16, .inl (cI, 144, .inl (mtd_ M))), (r 20, .inl (cI, 451, .inl (flatK (va_up (mkp_ M) 2 B)))), (r 25, .inl (cI, 7, .inl (mof_ M))), (r 26, .inl (cI, 7, .inl (mfa_ M))), (r 30, .inl (cI, 12, .inl (mrw_ M))), (r 32, .inl (cI, 8, .inl (mhb_ M)))]) H := hP
        refine lv_iload_n hx hb dX5_behind_40 rfl (lv_at hl 3 rfl) ?_
        refine lv_if_ne (tgt := 51) hx hb dX5_behind_41 (by decide) (fun c_41 => ?_) (fun c_41 => ?_)
        · skip
          refine lv_aload_n hx hb dX5_behind_51 rfl (lv_at hl 1 rfl) ?_
          refine kSiV hx hb hml hown hts hK hP gX5_behind_X5_holder okX5_holder (qX5_holder l D cI cB r (hs_ v_ B) (mkM (mrf_ M) (mtp_ M) (mlt_ M) (mla_ M) (mtd_ M) (va_up (mkp_ M) 2 B) (mof_ M) (mfa_ M) (mrw_ M) (mhb_ M) (mtn_ M) (mrd_ M) (msm_ M) (41 * 2 + 41) (mbk_ M) (mrm_ M) (mhi_ M) 1 (mlw_ M) (mhg_ M) (msl_ M) (mlo_ M)) (by rw [sn_hs]; exact hn7)) [0, 1, 2, 3, 4, 5, 6, 7, 8, 9, 10, 11, 12, 13, 14, 15] rfl rfl rfl rfl (by decide) hl.1 rfl rfl (Nat.le_of_ble_eq_true rfl) dX5_behind_52 (by decide) (fun r_9 hr_10 => ?_)
          replace hr_10 : r_9 = oI_ (ow_ (hs_ v_ B)) := hr_10
          subst r_9
          refine lv_istore (lv' := [(4, .int (oI_ (ow_ (hs_ v_ B)))), (3, .int (wNW_ (nI v_) q)), (0, .ref (r 0)), (1, .int (nI v_)), (2, .int q)]) hx hb dX5_behind_55 hl (by decide) rfl (fun ls hl => ?_)
          refine lv_aload_n hx hb dX5_behind_57 rfl (lv_at hl 2 rfl) ?_
          refine kMvV hx hb hml hown hts hK hP (va_D.adr hD0 (mW_adE rfl)) hA hS gX5_behind_X5_forgets okX5_forgets (qX5_forgetsE l D cI cB r (hs_ v_ B) (mkM (mrf_ M) (mtp_ M) (mlt_ M) (mla_ M) (mtd_ M) (va_up (mkp_ M) 2 B) (mof_ M) (mfa_ M) (mrw_ M) (mhb_ M) (mtn_ M) (mrd_ M) (msm_ M) (41 * 2 + 41) (mbk_ M) (mrm_ M) (mhi_ M) 1 (mlw_ M) (mhg_ M) (msl_ M) (mlo_ M)) ) [0, 1, 2, 3, 4, 5, 6, 7, 8, 9, 10, 11, 12, 13, 14, 15] rfl (by decide) (fun _ => mW_adE rfl) rfl rfl rfl (by decide) hl.1 rfl rfl (Nat.le_of_ble_eq_true rfl) dX5_behind_58 (by decide) (fun u_12 H locs hw_13 hP hD hS => ?_)
          replace hP : va_P D vwCl ([(r 0, .inr (5, [.ref (r 1), .ref (r 2), .ref (r 3), .ref (r 4), .ref (r 5), .ref (r 6), .int (nI (sn_ B)), .int (qt_ B), .int (il_ B), .int (pa_ B), .int (ho_ B), .int (dy_ B), .ref (r 13), .ref (r 14), .ref (r 15), .ref (r 16), .int (nI (mtn_ M)), .int (nI (mrd_ M)), .int (nI (msm_ M)), .ref (r 20), .int (mhi_ M), .int (0), .int (nI (41 * 2 + 41)), .int (nI (mbk_ M)), .ref (r 25), .ref (r 26), .int (mlw_ M), .int (mhg_ M), .int (msl_ M), .ref (r 30), .int (nI (mrm_ M)), .ref (r 32), .int (mlo_ M)])), (r 1, .inl (cI, 7, .inl (mrf_ M))), (r 2, .inl (cI, 7, .inl (kd_ B))), (r 3, .inl (cI, 7, .inl (fg_ B))), (r 4, .inl (cI, 7, .inl (pl_ B))), (r 5, .inl (cI, 7, .inl (pw_ B))), (r 6, .inl (cI, 7, .inl (jy_ B))), (r 13, .inl (cI, 96, .inl (mtp_ M))), (r 14, .inl (cI, 48, .inl (mlt_ M))), (r 15, .inl (cI, 48, .inl (mla_ M))), (r 16, .inl (cI, 144, .inl (mtd_ M))), (r 20, .inl (cI, 451, .inl (flatK (va_up (mkp_ M) 2 B)))), (r 25, .inl (cI, 7, .inl (mof_ M))), (r 26, .inl (cI, 7, .inl (mfa_ M))), (r 30, .inl (cI, 12, .inl (mrw_ M))), (r 32, .inl (cI, 8, .inl (mhb_ M)))]) H := hP
          refine lv_iload hx hb dX5_behind_61 (lv_at hl 0 rfl) ?_
          refine rMi hx hb hr hlk hS (mkM (mrf_ M) (mtp_ M) (mlt_ M) (mla_ M) (mtd_ M) (va_up (mkp_ M) 2 B) (mof_ M) (mfa_ M) (mrw_ M) (mhb_ M) (mtn_ M) (mrd_ M) (msm_ M) (41 * 2 + 41) (mbk_ M) (mrm_ M) (mhi_ M) 0 (mlw_ M) (mhg_ M) (msl_ M) (mlo_ M)) hP ?_ dX5_behind_63
          first | exact ⟨(if_neg c_22).symm, oQ_n _ _⟩ | exact ⟨by (rw [if_pos c_22]; simp only [tn_n (show v_ < 2147483648 by omega)]; first | (rw [if_pos c_41]; done) | (rw [if_neg c_41]; done) | (rw [if_pos c_41]; rfl) | (rw [if_neg c_41]; rfl)), oQ_0 c_22 (by (first | exact (oN_mk (by assumption)).m | exact oM_.rf _ | exact (oN_pp _ _).m | exact (oN_fo _ _ _ _).m | assumption | (apply oN_.m; assumption) | exact oM_.tr (by assumption) (by assumption)))⟩
        · skip
          refine lv_aload_n hx hb dX5_behind_44 rfl (lv_at hl 1 rfl) ?_
          refine va_get (ci := 5) (C := RX5) (T := TX5) (N := 33) hx hb hts hinX5 hown hK.1 hP 0 rfl rfl 8 (by decide) (hts _ (List.mem_of_getElem? (i := 1) rfl)) (fun _ h9 => h9) rfl dX5_behind_45 ?_
          refine lv_goto (tgt := 55) hx hb dX5_behind_48 (by decide) ?_
          refine lv_istore (lv' := [(4, .int (il_ (hs_ v_ B))), (3, .int (wNW_ (nI v_) q)), (0, .ref (r 0)), (1, .int (nI v_)), (2, .int q)]) hx hb dX5_behind_55 hl (by decide) rfl (fun ls hl => ?_)
          refine lv_aload_n hx hb dX5_behind_57 rfl (lv_at hl 2 rfl) ?_
          refine kMvV hx hb hml hown hts hK hP (va_D.adr hD0 (mW_adE rfl)) hA hS gX5_behind_X5_forgets okX5_forgets (qX5_forgetsE l D cI cB r (hs_ v_ B) (mkM (mrf_ M) (mtp_ M) (mlt_ M) (mla_ M) (mtd_ M) (va_up (mkp_ M) 2 B) (mof_ M) (mfa_ M) (mrw_ M) (mhb_ M) (mtn_ M) (mrd_ M) (msm_ M) (41 * 2 + 41) (mbk_ M) (mrm_ M) (mhi_ M) 1 (mlw_ M) (mhg_ M) (msl_ M) (mlo_ M)) ) [0, 1, 2, 3, 4, 5, 6, 7, 8, 9, 10, 11, 12, 13, 14, 15] rfl (by decide) (fun _ => mW_adE rfl) rfl rfl rfl (by decide) hl.1 rfl rfl (Nat.le_of_ble_eq_true rfl) dX5_behind_58 (by decide) (fun u_15 H locs hw_16 hP hD hS => ?_)
          replace hP : va_P D vwCl ([(r 0, .inr (5, [.ref (r 1), .ref (r 2), .ref (r 3), .ref (r 4), .ref (r 5), .ref (r 6), .int (nI (sn_ B)), .int (qt_ B), .int (il_ B), .int (pa_ B), .int (ho_ B), .int (dy_ B), .ref (r 13), .ref (r 14), .ref (r 15), .ref (r 16), .int (nI (mtn_ M)), .int (nI (mrd_ M)), .int (nI (msm_ M)), .ref (r 20), .int (mhi_ M), .int (0), .int (nI (41 * 2 + 41)), .int (nI (mbk_ M)), .ref (r 25), .ref (r 26), .int (mlw_ M), .int (mhg_ M), .int (msl_ M), .ref (r 30), .int (nI (mrm_ M)), .ref (r 32), .int (mlo_ M)])), (r 1, .inl (cI, 7, .inl (mrf_ M))), (r 2, .inl (cI, 7, .inl (kd_ B))), (r 3, .inl (cI, 7, .inl (fg_ B))), (r 4, .inl (cI, 7, .inl (pl_ B))), (r 5, .inl (cI, 7, .inl (pw_ B))), (r 6, .inl (cI, 7, .inl (jy_ B))), (r 13, .inl (cI, 96, .inl (mtp_ M))), (r 14, .inl (cI, 48, .inl (mlt_ M))), (r 15, .inl (cI, 48, .inl (mla_ M))), (r 16, .inl (cI, 144, .inl (mtd_ M))), (r 20, .inl (cI, 451, .inl (flatK (va_up (mkp_ M) 2 B)))), (r 25, .inl (cI, 7, .inl (mof_ M))), (r 26, .inl (cI, 7, .inl (mfa_ M))), (r 30, .inl (cI, 12, .inl (mrw_ M))), (r 32, .inl (cI, 8, .inl (mhb_ M)))]) H := hP
          refine lv_iload hx hb dX5_behind_61 (lv_at hl 0 rfl) ?_
          refine rMi hx hb hr hlk hS (mkM (mrf_ M) (mtp_ M) (mlt_ M) (mla_ M) (mtd_ M) (va_up (mkp_ M) 2 B) (mof_ M) (mfa_ M) (mrw_ M) (mhb_ M) (mtn_ M) (mrd_ M) (msm_ M) (41 * 2 + 41) (mbk_ M) (mrm_ M) (mhi_ M) 0 (mlw_ M) (mhg_ M) (msl_ M) (mlo_ M)) hP ?_ dX5_behind_63
          first | exact ⟨(if_neg c_22).symm, oQ_n _ _⟩ | exact ⟨by (rw [if_pos c_22]; simp only [tn_n (show v_ < 2147483648 by omega)]; first | (rw [if_pos c_41]; done) | (rw [if_neg c_41]; done) | (rw [if_pos c_41]; rfl) | (rw [if_neg c_41]; rfl)), oQ_0 c_22 (by (first | exact (oN_mk (by assumption)).m | exact oM_.rf _ | exact (oN_pp _ _).m | exact (oN_fo _ _ _ _).m | assumption | (apply oN_.m; assumption) | exact oM_.tr (by assumption) (by assumption)))⟩
      · skip
        refine lv_aload_n hx hb dX5_behind_25 rfl (lv_at hl 1 rfl) ?_
        refine lv_iload_n hx hb dX5_behind_26 rfl (lv_at hl 0 rfl) ?_
        refine kMiV hx hb hml hown hts hK hP (va_D.adr hD0 (mW_adE rfl)) hA hS gX5_behind_X5_no okX5_no (qX5_no l D cI cB r B M (wNW_ v q) (rc0_n (by first | exact rc0_wS _ _ | exact rc0_wSN _ _ _ | exact rc0_wSNW _ _ _ _ | exact rc0_wNW _ _ | exact rc0_wTh _ _ _ _ _ | exact rc0_wTr _ _ _ _ | exact rc0_nb _ _ | exact rc0_uk _ _ | exact rc0_ob _ _ _ | exact rc0_f2 (rc0_nb _ _) (rc0_nb _ _) | exact rc0_f2 (rc0_nb _ _) (rc0_uk _ _) | exact rc0_f2 (rc0_ob _ _ _) (rc0_uk _ _) | exact rc0_f2 (rc0_uk _ _) (rc0_f2 (rc0_uk _ _) (rc0_ob _ _ _))) c_22)) [0, 1, 2, 3, 4, 5, 6, 7, 8, 9, 10, 11, 12, 13, 14, 15] rfl (by decide) (fun _ => mW_adr _ _ _ _ _ _) rfl rfl rfl (by decide) hl.1 rfl rfl (Nat.le_of_ble_eq_true rfl) dX5_behind_27 (by decide) (fun r_17 u_18 H locs hw_19 hP hD hS => ?_)
        replace hw_19 : r_17 = wNW_ v q ∧ u_18 = (rfm_ M (wNW_ v q)) := hw_19
        obtain ⟨hw_19a, hw_19b⟩ := hw_19
        subst r_17
        subst u_18
        replace hP : va_P D vwCl ([(r 0, .inr (5, [.ref (r 1), .ref (r 2), .ref (r 3), .ref (r 4), .ref (r 5), .ref (r 6), .int (nI (sn_ B)), .int (qt_ B), .int (il_ B), .int (pa_ B), .int (ho_ B), .int (dy_ B), .ref (r 13), .ref (r 14), .ref (r 15), .ref (r 16), .int (nI (mtn_ M)), .int (nI (mrd_ M)), .int (nI (msm_ M)), .ref (r 20), .int (mhi_ M), .int (mik_ M), .int (nI (mcu_ M)), .int (nI (mbk_ M)), .ref (r 25), .ref (r 26), .int (mlw_ M), .int (mhg_ M), .int (msl_ M), .ref (r 30), .int (nI (mrm_ M)), .ref (r 32), .int (mlo_ M)])), (r 1, .inl (cI, 7, .inl (rfx_ (mrf_ M) (wNW_ v q)))), (r 2, .inl (cI, 7, .inl (kd_ B))), (r 3, .inl (cI, 7, .inl (fg_ B))), (r 4, .inl (cI, 7, .inl (pl_ B))), (r 5, .inl (cI, 7, .inl (pw_ B))), (r 6, .inl (cI, 7, .inl (jy_ B))), (r 13, .inl (cI, 96, .inl (mtp_ M))), (r 14, .inl (cI, 48, .inl (mlt_ M))), (r 15, .inl (cI, 48, .inl (mla_ M))), (r 16, .inl (cI, 144, .inl (mtd_ M))), (r 20, .inl (cI, 451, .inl (flatK (mkp_ M)))), (r 25, .inl (cI, 7, .inl (mof_ M))), (r 26, .inl (cI, 7, .inl (mfa_ M))), (r 30, .inl (cI, 12, .inl (mrw_ M))), (r 32, .inl (cI, 8, .inl (mhb_ M)))]) H := hP
        refine rMi hx hb hr hlk hS (rfm_ M (wNW_ v q)) hP ?_ dX5_behind_30
        first | exact ⟨(if_neg c_22).symm, oQ_n _ _⟩ | exact ⟨by (rw [if_pos c_22]; simp only [tn_n (show v_ < 2147483648 by omega)]; first | (rw [if_pos c_41]; done) | (rw [if_neg c_41]; done) | (rw [if_pos c_41]; rfl) | (rw [if_neg c_41]; rfl)), oQ_0 c_22 (by (first | exact (oN_mk (by assumption)).m | exact oM_.rf _ | exact (oN_pp _ _).m | exact (oN_fo _ _ _ _).m | assumption | (apply oN_.m; assumption) | exact oM_.tr (by assumption) (by assumption)))⟩
  refine lv_iload_n hx hb dX5_behind_5 rfl (lv_at hl 0 rfl) ?_
  refine lv_if_ne (tgt := 21) hx hb dX5_behind_6 (by decide) (fun c_6 => ?_) (fun c_6 => ?_)
  · skip
    exact jn_21  (ob_ v 0 99)  (by first | exact (f2_a c_6).symm | exact c_6.trans ((f2_b c_6).trans (uk_i c_15)).symm | exact ((f2_b c_6).trans (uk_o c_15)).symm)   _ _ hP (va_D.adr hD0 (mW_adE rfl)) hS ls (lv_sub hl [0, 1, 2, 3] rfl)
  · skip
    refine lv_iload_n hx hb dX5_behind_9 rfl (lv_at hl 3 rfl) ?_
    refine lv_iconst (v := 0) hx hb dX5_behind_10 (by decide) ?_
    refine lv_iconst (v := 1) hx hb dX5_behind_11 (by decide) ?_
    refine kSiS hx hb hml hown hts hK hP gX5_behind_X5_isIn okX5_isIn (qX5_isIn l D cI cB q 0 1 ) [] rfl (by decide) hl.1 rfl rfl (Nat.le_of_ble_eq_true rfl) dX5_behind_12 (by decide) (fun r_20 hr_21 => ?_)
    replace hr_21 : r_20 = b1 (0 ≤ q ∧ q ≤ 1) := hr_21
    subst r_20
    refine lv_if_ne (tgt := 21) hx hb dX5_behind_15 (by decide) (fun c_15 => ?_) (fun c_15 => ?_)
    · replace c_15 := b1_n c_15
      exact jn_21  (ob_ v 0 99)  (by first | exact (f2_a c_6).symm | exact c_6.trans ((f2_b c_6).trans (uk_i c_15)).symm | exact ((f2_b c_6).trans (uk_o c_15)).symm)   _ _ hP (va_D.adr hD0 (mW_adE rfl)) hS ls (lv_sub hl [0, 1, 2, 3] rfl)
    · replace c_15 := b1_z c_15
      refine lv_bipush (v := (-2)) hx hb dX5_behind_18 (by decide) ?_
      refine lv_istore_n (lv' := [(3, .int (-2)), (0, .ref (r 0)), (1, .int v), (2, .int q)]) hx hb dX5_behind_20 rfl hl (by decide) rfl (fun ls hl => ?_)
      exact jn_21  (-2)  (by first | exact (f2_a c_6).symm | exact c_6.trans ((f2_b c_6).trans (uk_i c_15)).symm | exact ((f2_b c_6).trans (uk_o c_15)).symm)   _ _ hP (va_D.adr hD0 (mW_adE rfl)) hS ls (lv_sub hl [0, 1, 2, 3] rfl)

theorem okX5_shoreBehind : jok yX5_shoreBehind wsX5_shoreBehind cX5_shoreBehind 6 (some .int) 3 := ⟨⟨_, rfl⟩, by decide +kernel, by decide +kernel⟩
set_option maxHeartbeats 2000000 in
set_option maxRecDepth 100000 in
theorem qX5_shoreBehind (l : Launch) (D : va_G) (cI cB : ClassId) (r : Nat → Nat) (B : BayT) (M : MT) (a : Int32) (v : Int32) (q : Int32) (hI : bI_ B) : jMi D cI cB l yX5_shoreBehind wsX5_shoreBehind 7 [.ref (r 0), .int a, .int v, .int q] (mW cI r B M) (S := MT) (fun r u => r = (if wSNW_ (sn_ B) a v q = 0 then (if q = 0 then jy_ (hs_ (tn_ v) B) (tn_ a) else pw_ (hs_ (tn_ v) B) (tn_ a)) else wSNW_ (sn_ B) a v q) ∧ oQ_ M u (wSNW_ (sn_ B) a v q)) (fun u => mW cI r B u) := by
  refine jMi.of (cc := cX5_shoreBehind) (maxL := 6) (ret := (some .int)) okX5_shoreBehind (Nat.le_of_ble_eq_true rfl) ?_
  intro p e s m below meth c ls A hx hb hr hts hown hlk hml hP hK hD hA hS hl
  replace hown : s.vm.findClass RX5 = some m.cls := hown
  replace hl : lv_has ls 6 [(0, .ref (r 0)), (1, .int a), (2, .int v), (3, .int q)] := hl
  have hD0 := hD
  have hn7 := hI.1
  have hinX5 : ∀ w ∈ wsX50, w ∈ wsX5_shoreBehind := by decide +kernel
  have jn_18 : ∀  (x4_18 : Int32) , (x4_18 = wSN_ (sn_ B) a v) → ∀ (H : Heap) (locs : List Loc), va_P D vwCl (mW cI r B M) H → va_D A (mW cI r B M) → va_S A s.heap H locs → ∀ ls : Array Slot, lv_has ls 6 [(4, .int x4_18), (0, .ref (r 0)), (1, .int a), (2, .int v), (3, .int q)] → W p l e (jR 7) s m ([.ref (r 0), .int a, .int v, .int q] : List Value).toArray below meth c H locs 0 0 (MQ below (va_Qi (S := MT) (fun r u => r = (if wSNW_ (sn_ B) a v q = 0 then (if q = 0 then jy_ (hs_ (tn_ v) B) (tn_ a) else pw_ (hs_ (tn_ v) B) (tn_ a)) else wSNW_ (sn_ B) a v q) ∧ oQ_ M u (wSNW_ (sn_ B) a v q)) (fun u t => va_P D vwCl ((fun u => mW cI r B u) u) t.heap) A) ([.ref (r 0), .int a, .int v, .int q] : List Value).toArray s 0 0 A) (F0 m 18 ls []) := by
      intro x4_18 hx4_18 H locs hP hD hS ls hl
      subst x4_18
      replace hl : lv_has ls 6 [(4, .int (wSN_ (sn_ B) a v)), (0, .ref (r 0)), (1, .int a), (2, .int v), (3, .int q)] := hl
      replace hP : va_P D vwCl (mW cI r B M) H := hP
      have jn_36 : ∀  (x4_36 : Int32) , (x4_36 = wSNW_ (sn_ B) a v q) → ∀ (H : Heap) (locs : List Loc), va_P D vwCl (mW cI r B M) H → va_D A (mW cI r B M) → va_S A s.heap H locs → ∀ ls : Array Slot, lv_has ls 6 [(4, .int x4_36), (0, .ref (r 0)), (1, .int a), (2, .int v), (3, .int q)] → W p l e (jR 7) s m ([.ref (r 0), .int a, .int v, .int q] : List Value).toArray below meth c H locs 0 0 (MQ below (va_Qi (S := MT) (fun r u => r = (if wSNW_ (sn_ B) a v q = 0 then (if q = 0 then jy_ (hs_ (tn_ v) B) (tn_ a) else pw_ (hs_ (tn_ v) B) (tn_ a)) else wSNW_ (sn_ B) a v q) ∧ oQ_ M u (wSNW_ (sn_ B) a v q)) (fun u t => va_P D vwCl ((fun u => mW cI r B u) u) t.heap) A) ([.ref (r 0), .int a, .int v, .int q] : List Value).toArray s 0 0 A) (F0 m 36 ls []) := by
          intro x4_36 hx4_36 H locs hP hD hS ls hl
          subst x4_36
          replace hl : lv_has ls 6 [(4, .int (wSNW_ (sn_ B) a v q)), (0, .ref (r 0)), (1, .int a), (2, .int v), (3, .int q)] := hl
          replace hP : va_P D vwCl (mW cI r B M) H := hP
          refine lv_iload hx hb dX5_shoreBehind_36 (lv_at hl 0 rfl) ?_
          refine lv_if_eq (tgt := 48) hx hb dX5_shoreBehind_38 (by decide) (fun c_38 => ?_) (fun c_38 => ?_)
          · skip
            have w0 := c_38
            simp only [wS_, wSN_, wSNW_, wNW_, wTh_, wTr_, f2_0, nb_0, ob_0, uk_0, lo_0, hi_0] at w0
            obtain ⟨a_, ha_, rfl⟩ := pl_lt (n := sn_ B) (by omega) w0.1.1
            obtain ⟨v_, hv_, rfl⟩ := pl_le (n := 99) (by decide) w0.1.2
            replace hl : lv_has ls 6 [(4, .int (wSNW_ (sn_ B) (nI a_) (nI v_) q)), (0, .ref (r 0)), (1, .int (nI a_)), (2, .int (nI v_)), (3, .int q)] := hl
            refine lv_aload_n hx hb dX5_shoreBehind_48 rfl (lv_at hl 1 rfl) ?_
            refine kMvV hx hb hml hown hts hK hP (va_D.adr hD0 (mW_adE rfl)) hA hS gX5_shoreBehind_X5_thinks okX5_thinks (qX5_thinksE l D cI cB r B M ) [0, 1, 2, 3, 4, 5, 6, 7, 8, 9, 10, 11, 12, 13, 14, 15] rfl (by decide) (fun _ => mW_adE rfl) rfl rfl rfl (by decide) hl.1 rfl rfl (Nat.le_of_ble_eq_true rfl) dX5_shoreBehind_49 (by decide) (fun u_2 H locs hw_3 hP hD hS => ?_)
            replace hP : va_P D vwCl ([(r 0, .inr (5, [.ref (r 1), .ref (r 2), .ref (r 3), .ref (r 4), .ref (r 5), .ref (r 6), .int (nI (sn_ B)), .int (qt_ B), .int (il_ B), .int (pa_ B), .int (ho_ B), .int (dy_ B), .ref (r 13), .ref (r 14), .ref (r 15), .ref (r 16), .int (nI (mtn_ M)), .int (nI (mrd_ M)), .int (nI (msm_ M)), .ref (r 20), .int (mhi_ M), .int (1), .int (nI (41 * 2 + 41)), .int (nI (mbk_ M)), .ref (r 25), .ref (r 26), .int (mlw_ M), .int (mhg_ M), .int (msl_ M), .ref (r 30), .int (nI (mrm_ M)), .ref (r 32), .int (mlo_ M)])), (r 1, .inl (cI, 7, .inl (mrf_ M))), (r 2, .inl (cI, 7, .inl (kd_ B))), (r 3, .inl (cI, 7, .inl (fg_ B))), (r 4, .inl (cI, 7, .inl (pl_ B))), (r 5, .inl (cI, 7, .inl (pw_ B))), (r 6, .inl (cI, 7, .inl (jy_ B))), (r 13, .inl (cI, 96, .inl (mtp_ M))), (r 14, .inl (cI, 48, .inl (mlt_ M))), (r 15, .inl (cI, 48, .inl (mla_ M))), (r 16, .inl (cI, 144, .inl (mtd_ M))), (r 20, .inl (cI, 451, .inl (flatK (va_up (mkp_ M) 2 B)))), (r 25, .inl (cI, 7, .inl (mof_ M))), (r 26, .inl (cI, 7, .inl (mfa_ M))), (r 30, .inl (cI, 12, .inl (mrw_ M))), (r 32, .inl (cI, 8, .inl (mhb_ M)))]) H := hP
            refine lv_aload_n hx hb dX5_shoreBehind_52 rfl (lv_at hl 1 rfl) ?_
            refine lv_iload_n hx hb dX5_shoreBehind_53 rfl (lv_at hl 3 rfl) ?_
            refine kMvV hx hb hml hown hts hK hP (va_D.adr hD0 (mW_adE rfl)) hA hS gX5_shoreBehind_X5_goes okX5_goes (qX5_goes l D cI cB r B (mkM (mrf_ M) (mtp_ M) (mlt_ M) (mla_ M) (mtd_ M) (va_up (mkp_ M) 2 B) (mof_ M) (mfa_ M) (mrw_ M) (mhb_ M) (mtn_ M) (mrd_ M) (msm_ M) (41 * 2 + 41) (mbk_ M) (mrm_ M) (mhi_ M) 1 (mlw_ M) (mhg_ M) (msl_ M) (mlo_ M)) v_ hI (by omega)) [0, 1, 2, 3, 4, 5, 6, 7, 8, 9, 10, 11, 12, 13, 14, 15] rfl (by decide) (fun _ => mW_adr _ _ _ _ _ _) rfl rfl rfl (by decide) hl.1 rfl rfl (Nat.le_of_ble_eq_true rfl) dX5_shoreBehind_54 (by decide) (fun u_5 H locs hw_6 hP hD hS => ?_)
            replace hw_6 : u_5 = hs_ v_ B := hw_6
            subst u_5
            replace hP : va_P D vwCl ([(r 0, .inr (5, [.ref (r 1), .ref (r 2), .ref (r 3), .ref (r 4), .ref (r 5), .ref (r 6), .int (nI (sn_ (hs_ v_ B))), .int (qt_ (hs_ v_ B)), .int (il_ (hs_ v_ B)), .int (pa_ (hs_ v_ B)), .int (ho_ (hs_ v_ B)), .int (dy_ (hs_ v_ B)), .ref (r 13), .ref (r 14), .ref (r 15), .ref (r 16), .int (nI (mtn_ M)), .int (nI (mrd_ M)), .int (nI (msm_ M)), .ref (r 20), .int (mhi_ M), .int (1), .int (nI (41 * 2 + 41)), .int (nI (mbk_ M)), .ref (r 25), .ref (r 26), .int (mlw_ M), .int (mhg_ M), .int (msl_ M), .ref (r 30), .int (nI (mrm_ M)), .ref (r 32), .int (mlo_ M)])), (r 1, .inl (cI, 7, .inl (mrf_ M))), (r 2, .inl (cI, 7, .inl (kd_ (hs_ v_ B)))), (r 3, .inl (cI, 7, .inl (fg_ (hs_ v_ B)))), (r 4, .inl (cI, 7, .inl (pl_ (hs_ v_ B)))), (r 5, .inl (cI, 7, .inl (pw_ (hs_ v_ B)))), (r 6, .inl (cI, 7, .inl (jy_ (hs_ v_ B)))), (r 13, .inl (cI, 96, .inl (mtp_ M))), (r 14, .inl (cI, 48, .inl (mlt_ M))), (r 15, .inl (cI, 48, .inl (mla_ M))), (r 16, .inl (cI, 144, .inl (mtd_ M))), (r 20, .inl (cI, 451, .inl (flatK (va_up (mkp_ M) 2 B)))), (r 25, .inl (cI, 7, .inl (mof_ M))), (r 26, .inl (cI, 7, .inl (mfa_ M))), (r 30, .inl (cI, 12, .inl (mrw_ M))), (r 32, .inl (cI, 8, .inl (mhb_ M)))]) H := hP
            refine lv_iload_n hx hb dX5_shoreBehind_57 rfl (lv_at hl 4 rfl) ?_
            refine lv_if_ne (tgt := 70) hx hb dX5_shoreBehind_58 (by decide) (fun c_58 => ?_) (fun c_58 => ?_)
            · skip
              refine lv_aload_n hx hb dX5_shoreBehind_70 rfl (lv_at hl 1 rfl) ?_
              refine va_get (ci := 5) (C := RX5) (T := TX5) (N := 33) hx hb hts hinX5 hown hK.1 hP 0 rfl rfl 4 (by decide) (hts _ (List.mem_of_getElem? (i := 2) rfl)) (fun _ h9 => h9) rfl dX5_shoreBehind_71 ?_
              refine lv_iload_n hx hb dX5_shoreBehind_74 rfl (lv_at hl 2 rfl) ?_
              refine jald hx hb hK.1 hP 5 0 a_ rfl rfl rfl (by omega) (Nat.le_of_ble_eq_true rfl) dX5_shoreBehind_75 ?_
              refine lv_istore (lv' := [(5, .int ((pw_ (hs_ v_ B)) a_)), (4, .int (wSNW_ (sn_ B) (nI a_) (nI v_) q)), (0, .ref (r 0)), (1, .int (nI a_)), (2, .int (nI v_)), (3, .int q)]) hx hb dX5_shoreBehind_76 hl (by decide) rfl (fun ls hl => ?_)
              refine lv_aload_n hx hb dX5_shoreBehind_78 rfl (lv_at hl 2 rfl) ?_
              refine kMvV hx hb hml hown hts hK hP (va_D.adr hD0 (mW_adE rfl)) hA hS gX5_shoreBehind_X5_forgets okX5_forgets (qX5_forgetsE l D cI cB r (hs_ v_ B) (mkM (mrf_ M) (mtp_ M) (mlt_ M) (mla_ M) (mtd_ M) (va_up (mkp_ M) 2 B) (mof_ M) (mfa_ M) (mrw_ M) (mhb_ M) (mtn_ M) (mrd_ M) (msm_ M) (41 * 2 + 41) (mbk_ M) (mrm_ M) (mhi_ M) 1 (mlw_ M) (mhg_ M) (msl_ M) (mlo_ M)) ) [0, 1, 2, 3, 4, 5, 6, 7, 8, 9, 10, 11, 12, 13, 14, 15] rfl (by decide) (fun _ => mW_adE rfl) rfl rfl rfl (by decide) hl.1 rfl rfl (Nat.le_of_ble_eq_true rfl) dX5_shoreBehind_79 (by decide) (fun u_8 H locs hw_9 hP hD hS => ?_)
              replace hP : va_P D vwCl ([(r 0, .inr (5, [.ref (r 1), .ref (r 2), .ref (r 3), .ref (r 4), .ref (r 5), .ref (r 6), .int (nI (sn_ B)), .int (qt_ B), .int (il_ B), .int (pa_ B), .int (ho_ B), .int (dy_ B), .ref (r 13), .ref (r 14), .ref (r 15), .ref (r 16), .int (nI (mtn_ M)), .int (nI (mrd_ M)), .int (nI (msm_ M)), .ref (r 20), .int (mhi_ M), .int (0), .int (nI (41 * 2 + 41)), .int (nI (mbk_ M)), .ref (r 25), .ref (r 26), .int (mlw_ M), .int (mhg_ M), .int (msl_ M), .ref (r 30), .int (nI (mrm_ M)), .ref (r 32), .int (mlo_ M)])), (r 1, .inl (cI, 7, .inl (mrf_ M))), (r 2, .inl (cI, 7, .inl (kd_ B))), (r 3, .inl (cI, 7, .inl (fg_ B))), (r 4, .inl (cI, 7, .inl (pl_ B))), (r 5, .inl (cI, 7, .inl (pw_ B))), (r 6, .inl (cI, 7, .inl (jy_ B))), (r 13, .inl (cI, 96, .inl (mtp_ M))), (r 14, .inl (cI, 48, .inl (mlt_ M))), (r 15, .inl (cI, 48, .inl (mla_ M))), (r 16, .inl (cI, 144, .inl (mtd_ M))), (r 20, .inl (cI, 451, .inl (flatK (va_up (mkp_ M) 2 B)))), (r 25, .inl (cI, 7, .inl (mof_ M))), (r 26, .inl (cI, 7, .inl (mfa_ M))), (r 30, .inl (cI, 12, .inl (mrw_ M))), (r 32, .inl (cI, 8, .inl (mhb_ M)))]) H := hP
              refine lv_iload hx hb dX5_shoreBehind_82 (lv_at hl 0 rfl) ?_
              refine rMi hx hb hr hlk hS (mkM (mrf_ M) (mtp_ M) (mlt_ M) (mla_ M) (mtd_ M) (va_up (mkp_ M) 2 B) (mof_ M) (mfa_ M) (mrw_ M) (mhb_ M) (mtn_ M) (mrd_ M) (msm_ M) (41 * 2 + 41) (mbk_ M) (mrm_ M) (mhi_ M) 0 (mlw_ M) (mhg_ M) (msl_ M) (mlo_ M)) hP ?_ dX5_shoreBehind_84
              first | exact ⟨(if_neg c_38).symm, oQ_n _ _⟩ | exact ⟨by (rw [if_pos c_38]; simp only [tn_n (show a_ < 2147483648 by omega), tn_n (show v_ < 2147483648 by omega)]; first | (rw [if_pos c_58]; done) | (rw [if_neg c_58]; done) | (rw [if_pos c_58]; rfl) | (rw [if_neg c_58]; rfl)), oQ_0 c_38 (by (first | exact (oN_mk (by assumption)).m | exact oM_.rf _ | exact (oN_pp _ _).m | exact (oN_fo _ _ _ _).m | assumption | (apply oN_.m; assumption) | exact oM_.tr (by assumption) (by assumption)))⟩
            · skip
              refine lv_aload_n hx hb dX5_shoreBehind_61 rfl (lv_at hl 1 rfl) ?_
              refine va_get (ci := 5) (C := RX5) (T := TX5) (N := 33) hx hb hts hinX5 hown hK.1 hP 0 rfl rfl 5 (by decide) (hts _ (List.mem_of_getElem? (i := 1) rfl)) (fun _ h9 => h9) rfl dX5_shoreBehind_62 ?_
              refine lv_iload_n hx hb dX5_shoreBehind_65 rfl (lv_at hl 2 rfl) ?_
              refine jald hx hb hK.1 hP 6 0 a_ rfl rfl rfl (by omega) (Nat.le_of_ble_eq_true rfl) dX5_shoreBehind_66 ?_
              refine lv_goto (tgt := 76) hx hb dX5_shoreBehind_67 (by decide) ?_
              refine lv_istore (lv' := [(5, .int ((jy_ (hs_ v_ B)) a_)), (4, .int (wSNW_ (sn_ B) (nI a_) (nI v_) q)), (0, .ref (r 0)), (1, .int (nI a_)), (2, .int (nI v_)), (3, .int q)]) hx hb dX5_shoreBehind_76 hl (by decide) rfl (fun ls hl => ?_)
              refine lv_aload_n hx hb dX5_shoreBehind_78 rfl (lv_at hl 2 rfl) ?_
              refine kMvV hx hb hml hown hts hK hP (va_D.adr hD0 (mW_adE rfl)) hA hS gX5_shoreBehind_X5_forgets okX5_forgets (qX5_forgetsE l D cI cB r (hs_ v_ B) (mkM (mrf_ M) (mtp_ M) (mlt_ M) (mla_ M) (mtd_ M) (va_up (mkp_ M) 2 B) (mof_ M) (mfa_ M) (mrw_ M) (mhb_ M) (mtn_ M) (mrd_ M) (msm_ M) (41 * 2 + 41) (mbk_ M) (mrm_ M) (mhi_ M) 1 (mlw_ M) (mhg_ M) (msl_ M) (mlo_ M)) ) [0, 1, 2, 3, 4, 5, 6, 7, 8, 9, 10, 11, 12, 13, 14, 15] rfl (by decide) (fun _ => mW_adE rfl) rfl rfl rfl (by decide) hl.1 rfl rfl (Nat.le_of_ble_eq_true rfl) dX5_shoreBehind_79 (by decide) (fun u_11 H locs hw_12 hP hD hS => ?_)
              replace hP : va_P D vwCl ([(r 0, .inr (5, [.ref (r 1), .ref (r 2), .ref (r 3), .ref (r 4), .ref (r 5), .ref (r 6), .int (nI (sn_ B)), .int (qt_ B), .int (il_ B), .int (pa_ B), .int (ho_ B), .int (dy_ B), .ref (r 13), .ref (r 14), .ref (r 15), .ref (r 16), .int (nI (mtn_ M)), .int (nI (mrd_ M)), .int (nI (msm_ M)), .ref (r 20), .int (mhi_ M), .int (0), .int (nI (41 * 2 + 41)), .int (nI (mbk_ M)), .ref (r 25), .ref (r 26), .int (mlw_ M), .int (mhg_ M), .int (msl_ M), .ref (r 30), .int (nI (mrm_ M)), .ref (r 32), .int (mlo_ M)])), (r 1, .inl (cI, 7, .inl (mrf_ M))), (r 2, .inl (cI, 7, .inl (kd_ B))), (r 3, .inl (cI, 7, .inl (fg_ B))), (r 4, .inl (cI, 7, .inl (pl_ B))), (r 5, .inl (cI, 7, .inl (pw_ B))), (r 6, .inl (cI, 7, .inl (jy_ B))), (r 13, .inl (cI, 96, .inl (mtp_ M))), (r 14, .inl (cI, 48, .inl (mlt_ M))), (r 15, .inl (cI, 48, .inl (mla_ M))), (r 16, .inl (cI, 144, .inl (mtd_ M))), (r 20, .inl (cI, 451, .inl (flatK (va_up (mkp_ M) 2 B)))), (r 25, .inl (cI, 7, .inl (mof_ M))), (r 26, .inl (cI, 7, .inl (mfa_ M))), (r 30, .inl (cI, 12, .inl (mrw_ M))), (r 32, .inl (cI, 8, .inl (mhb_ M)))]) H := hP
              refine lv_iload hx hb dX5_shoreBehind_82 (lv_at hl 0 rfl) ?_
              refine rMi hx hb hr hlk hS (mkM (mrf_ M) (mtp_ M) (mlt_ M) (mla_ M) (mtd_ M) (va_up (mkp_ M) 2 B) (mof_ M) (mfa_ M) (mrw_ M) (mhb_ M) (mtn_ M) (mrd_ M) (msm_ M) (41 * 2 + 41) (mbk_ M) (mrm_ M) (mhi_ M) 0 (mlw_ M) (mhg_ M) (msl_ M) (mlo_ M)) hP ?_ dX5_shoreBehind_84
              first | exact ⟨(if_neg c_38).symm, oQ_n _ _⟩ | exact ⟨by (rw [if_pos c_38]; simp only [tn_n (show a_ < 2147483648 by omega), tn_n (show v_ < 2147483648 by omega)]; first | (rw [if_pos c_58]; done) | (rw [if_neg c_58]; done) | (rw [if_pos c_58]; rfl) | (rw [if_neg c_58]; rfl)), oQ_0 c_38 (by (first | exact (oN_mk (by assumption)).m | exact oM_.rf _ | exact (oN_pp _ _).m | exact (oN_fo _ _ _ _).m | assumption | (apply oN_.m; assumption) | exact oM_.tr (by assumption) (by assumption)))⟩
          · skip
            refine lv_aload_n hx hb dX5_shoreBehind_41 rfl (lv_at hl 1 rfl) ?_
            refine lv_iload hx hb dX5_shoreBehind_42 (lv_at hl 0 rfl) ?_
            refine kMiV hx hb hml hown hts hK hP (va_D.adr hD0 (mW_adE rfl)) hA hS gX5_shoreBehind_X5_no okX5_no (qX5_no l D cI cB r B M (wSNW_ (sn_ B) a v q) (rc0_n (by first | exact rc0_wS _ _ | exact rc0_wSN _ _ _ | exact rc0_wSNW _ _ _ _ | exact rc0_wNW _ _ | exact rc0_wTh _ _ _ _ _ | exact rc0_wTr _ _ _ _ | exact rc0_nb _ _ | exact rc0_uk _ _ | exact rc0_ob _ _ _ | exact rc0_f2 (rc0_nb _ _) (rc0_nb _ _) | exact rc0_f2 (rc0_nb _ _) (rc0_uk _ _) | exact rc0_f2 (rc0_ob _ _ _) (rc0_uk _ _) | exact rc0_f2 (rc0_uk _ _) (rc0_f2 (rc0_uk _ _) (rc0_ob _ _ _))) c_38)) [0, 1, 2, 3, 4, 5, 6, 7, 8, 9, 10, 11, 12, 13, 14, 15] rfl (by decide) (fun _ => mW_adr _ _ _ _ _ _) rfl rfl rfl (by decide) hl.1 rfl rfl (Nat.le_of_ble_eq_true rfl) dX5_shoreBehind_44 (by decide) (fun r_13 u_14 H locs hw_15 hP hD hS => ?_)
            replace hw_15 : r_13 = wSNW_ (sn_ B) a v q ∧ u_14 = (rfm_ M (wSNW_ (sn_ B) a v q)) := hw_15
            obtain ⟨hw_15a, hw_15b⟩ := hw_15
            subst r_13
            subst u_14
            replace hP : va_P D vwCl ([(r 0, .inr (5, [.ref (r 1), .ref (r 2), .ref (r 3), .ref (r 4), .ref (r 5), .ref (r 6), .int (nI (sn_ B)), .int (qt_ B), .int (il_ B), .int (pa_ B), .int (ho_ B), .int (dy_ B), .ref (r 13), .ref (r 14), .ref (r 15), .ref (r 16), .int (nI (mtn_ M)), .int (nI (mrd_ M)), .int (nI (msm_ M)), .ref (r 20), .int (mhi_ M), .int (mik_ M), .int (nI (mcu_ M)), .int (nI (mbk_ M)), .ref (r 25), .ref (r 26), .int (mlw_ M), .int (mhg_ M), .int (msl_ M), .ref (r 30), .int (nI (mrm_ M)), .ref (r 32), .int (mlo_ M)])), (r 1, .inl (cI, 7, .inl (rfx_ (mrf_ M) (wSNW_ (sn_ B) a v q)))), (r 2, .inl (cI, 7, .inl (kd_ B))), (r 3, .inl (cI, 7, .inl (fg_ B))), (r 4, .inl (cI, 7, .inl (pl_ B))), (r 5, .inl (cI, 7, .inl (pw_ B))), (r 6, .inl (cI, 7, .inl (jy_ B))), (r 13, .inl (cI, 96, .inl (mtp_ M))), (r 14, .inl (cI, 48, .inl (mlt_ M))), (r 15, .inl (cI, 48, .inl (mla_ M))), (r 16, .inl (cI, 144, .inl (mtd_ M))), (r 20, .inl (cI, 451, .inl (flatK (mkp_ M)))), (r 25, .inl (cI, 7, .inl (mof_ M))), (r 26, .inl (cI, 7, .inl (mfa_ M))), (r 30, .inl (cI, 12, .inl (mrw_ M))), (r 32, .inl (cI, 8, .inl (mhb_ M)))]) H := hP
            refine rMi hx hb hr hlk hS (rfm_ M (wSNW_ (sn_ B) a v q)) hP ?_ dX5_shoreBehind_47
            first | exact ⟨(if_neg c_38).symm, oQ_n _ _⟩ | exact ⟨by (rw [if_pos c_38]; simp only [tn_n (show a_ < 2147483648 by omega), tn_n (show v_ < 2147483648 by omega)]; first | (rw [if_pos c_58]; done) | (rw [if_neg c_58]; done) | (rw [if_pos c_58]; rfl) | (rw [if_neg c_58]; rfl)), oQ_0 c_38 (by (first | exact (oN_mk (by assumption)).m | exact oM_.rf _ | exact (oN_pp _ _).m | exact (oN_fo _ _ _ _).m | assumption | (apply oN_.m; assumption) | exact oM_.tr (by assumption) (by assumption)))⟩
      refine lv_iload hx hb dX5_shoreBehind_18 (lv_at hl 0 rfl) ?_
      refine lv_if_ne (tgt := 36) hx hb dX5_shoreBehind_20 (by decide) (fun c_20 => ?_) (fun c_20 => ?_)
      · skip
        exact jn_36  (wSN_ (sn_ B) a v)  (by first | exact (f2_a c_20).symm | exact c_20.trans ((f2_b c_20).trans (uk_i c_29)).symm | exact ((f2_b c_20).trans (uk_o c_29)).symm)   _ _ hP (va_D.adr hD0 (mW_adE rfl)) hS ls (lv_sub hl [0, 1, 2, 3, 4] rfl)
      · skip
        refine lv_iload_n hx hb dX5_shoreBehind_23 rfl (lv_at hl 4 rfl) ?_
        refine lv_iconst (v := 0) hx hb dX5_shoreBehind_24 (by decide) ?_
        refine lv_iconst (v := 1) hx hb dX5_shoreBehind_25 (by decide) ?_
        refine kSiS hx hb hml hown hts hK hP gX5_shoreBehind_X5_isIn okX5_isIn (qX5_isIn l D cI cB q 0 1 ) [] rfl (by decide) hl.1 rfl rfl (Nat.le_of_ble_eq_true rfl) dX5_shoreBehind_26 (by decide) (fun r_16 hr_17 => ?_)
        replace hr_17 : r_16 = b1 (0 ≤ q ∧ q ≤ 1) := hr_17
        subst r_16
        refine lv_if_ne (tgt := 36) hx hb dX5_shoreBehind_29 (by decide) (fun c_29 => ?_) (fun c_29 => ?_)
        · replace c_29 := b1_n c_29
          exact jn_36  (wSN_ (sn_ B) a v)  (by first | exact (f2_a c_20).symm | exact c_20.trans ((f2_b c_20).trans (uk_i c_29)).symm | exact ((f2_b c_20).trans (uk_o c_29)).symm)   _ _ hP (va_D.adr hD0 (mW_adE rfl)) hS ls (lv_sub hl [0, 1, 2, 3, 4] rfl)
        · replace c_29 := b1_z c_29
          refine lv_bipush (v := (-2)) hx hb dX5_shoreBehind_32 (by decide) ?_
          refine lv_istore (lv' := [(4, .int (-2)), (0, .ref (r 0)), (1, .int a), (2, .int v), (3, .int q)]) hx hb dX5_shoreBehind_34 hl (by decide) rfl (fun ls hl => ?_)
          exact jn_36  (-2)  (by first | exact (f2_a c_20).symm | exact c_20.trans ((f2_b c_20).trans (uk_i c_29)).symm | exact ((f2_b c_20).trans (uk_o c_29)).symm)   _ _ hP (va_D.adr hD0 (mW_adE rfl)) hS ls (lv_sub hl [0, 1, 2, 3, 4] rfl)
  refine lv_aload_n hx hb dX5_shoreBehind_0 rfl (lv_at hl 0 rfl) ?_
  refine lv_iload_n hx hb dX5_shoreBehind_1 rfl (lv_at hl 1 rfl) ?_
  refine kSiV hx hb hml hown hts hK hP gX5_shoreBehind_X5_isShore okX5_isShore (qX5_isShore l D cI cB r B M a (by show sn_ B ≤ 7; omega)) [0, 1, 2, 3, 4, 5, 6, 7, 8, 9, 10, 11, 12, 13, 14, 15] rfl rfl rfl rfl (by decide) hl.1 rfl rfl (Nat.le_of_ble_eq_true rfl) dX5_shoreBehind_2 (by decide) (fun r_18 hr_19 => ?_)
  replace hr_19 : r_18 = b1 (0 ≤ a ∧ a < nI (sn_ B)) := hr_19
  subst r_18
  refine lv_if_ne (tgt := 12) hx hb dX5_shoreBehind_5 (by decide) (fun c_5 => ?_) (fun c_5 => ?_)
  · replace c_5 := b1_n c_5
    refine lv_iload_n hx hb dX5_shoreBehind_12 rfl (lv_at hl 2 rfl) ?_
    refine kSiS hx hb hml hown hts hK hP gX5_shoreBehind_X5_notHours okX5_notHours (qX5_notHours l D cI cB v ) [] rfl (by decide) hl.1 rfl rfl (Nat.le_of_ble_eq_true rfl) dX5_shoreBehind_13 (by decide) (fun r_20 hr_21 => ?_)
    replace hr_21 : r_20 = ob_ v 0 99 := hr_21
    subst r_20
    refine lv_istore (lv' := [(4, .int (ob_ v 0 99)), (0, .ref (r 0)), (1, .int a), (2, .int v), (3, .int q)]) hx hb dX5_shoreBehind_16 hl (by decide) rfl (fun ls hl => ?_)
    exact jn_18  (ob_ v 0 99)  (by first | exact (f2_b (nb_i c_5)).symm | exact ((f2_a (by rw [nb_o c_5]; decide)).trans (nb_o c_5)).symm)   _ _ hP (va_D.adr hD0 (mW_adE rfl)) hS ls (lv_sub hl [0, 1, 2, 3, 4] rfl)
  · replace c_5 := b1_z c_5
    refine lv_iconst (v := (-1)) hx hb dX5_shoreBehind_8 (by decide) ?_
    refine lv_goto (tgt := 16) hx hb dX5_shoreBehind_9 (by decide) ?_
    refine lv_istore (lv' := [(4, .int (-1)), (0, .ref (r 0)), (1, .int a), (2, .int v), (3, .int q)]) hx hb dX5_shoreBehind_16 hl (by decide) rfl (fun ls hl => ?_)
    exact jn_18  (-1)  (by first | exact (f2_b (nb_i c_5)).symm | exact ((f2_a (by rw [nb_o c_5]; decide)).trans (nb_o c_5)).symm)   _ _ hP (va_D.adr hD0 (mW_adE rfl)) hS ls (lv_sub hl [0, 1, 2, 3, 4] rfl)

theorem okX5_shared : jok yX5_shared wsX5_shared cX5_shared 2 (some .int) 1 := ⟨⟨_, rfl⟩, by decide +kernel, by decide +kernel⟩
set_option maxHeartbeats 2000000 in
set_option maxRecDepth 100000 in
theorem qX5_shared (l : Launch) (D : va_G) (cI cB : ClassId) (r : Nat → Nat) (B : BayT) (M : MT) (q : Int32) (hI : bI_ B) : jMi D cI cB l yX5_shared wsX5_shared 1 [.ref (r 0), .int q] (mW cI r B M) (S := MT) (fun r u => r = (if uk_ q 2 = 0 then shX_ B q else uk_ q 2) ∧ oQ_ M u (uk_ q 2)) (fun u => mW cI r B u) := by
  refine jMi.of (cc := cX5_shared) (maxL := 2) (ret := (some .int)) okX5_shared (Nat.le_of_ble_eq_true rfl) ?_
  intro p e s m below meth c ls A hx hb hr hts hown hlk hml hP hK hD hA hS hl
  replace hown : s.vm.findClass RX5 = some m.cls := hown
  replace hl : lv_has ls 2 [(0, .ref (r 0)), (1, .int q)] := hl
  have hD0 := hD
  have hn7 := hI.1
  have hinX5 : ∀ w ∈ wsX50, w ∈ wsX5_shared := by decide +kernel
  refine lv_iload_n hx hb dX5_shared_0 rfl (lv_at hl 1 rfl) ?_
  refine lv_iconst (v := 0) hx hb dX5_shared_1 (by decide) ?_
  refine lv_iconst (v := 2) hx hb dX5_shared_2 (by decide) ?_
  refine kSiS hx hb hml hown hts hK hP gX5_shared_X5_isIn okX5_isIn (qX5_isIn l D cI cB q 0 2 ) [] rfl (by decide) hl.1 rfl rfl (Nat.le_of_ble_eq_true rfl) dX5_shared_3 (by decide) (fun r_1 hr_2 => ?_)
  replace hr_2 : r_1 = b1 (0 ≤ q ∧ q ≤ 2) := hr_2
  subst r_1
  refine lv_if_ne (tgt := 16) hx hb dX5_shared_6 (by decide) (fun c_6 => ?_) (fun c_6 => ?_)
  · replace c_6 := b1_n c_6
    refine lv_iload_n hx hb dX5_shared_16 rfl (lv_at hl 1 rfl) ?_
    refine lv_iconst (v := 2) hx hb dX5_shared_17 (by decide) ?_
    refine lv_icmp_ne (tgt := 26) hx hb dX5_shared_18 (by decide) (fun c_18 => ?_) (fun c_18 => ?_)
    · skip
      refine lv_aload_n hx hb dX5_shared_26 rfl (lv_at hl 0 rfl) ?_
      refine va_get (ci := 5) (C := RX5) (T := TX5) (N := 33) hx hb hts hinX5 hown hK.1 hP 0 rfl rfl 6 (by decide) (hts _ (List.mem_of_getElem? (i := 1) rfl)) (fun _ h9 => h9) rfl dX5_shared_27 ?_
      refine lv_if_ne (tgt := 37) hx hb dX5_shared_30 (by decide) (fun c_30 => ?_) (fun c_30 => ?_)
      · replace c_30 : ¬ nI (sn_ B) = nI 0 := c_30
        rw [jeq (by omega) (by omega)] at c_30
        refine lv_iload_n hx hb dX5_shared_37 rfl (lv_at hl 1 rfl) ?_
        refine lv_if_ne (tgt := 53) hx hb dX5_shared_38 (by decide) (fun c_38 => ?_) (fun c_38 => ?_)
        · skip
          refine lv_aload_n hx hb dX5_shared_53 rfl (lv_at hl 0 rfl) ?_
          refine kSiV hx hb hml hown hts hK hP gX5_shared_X5_allJoy okX5_allJoy (qX5_allJoy l D cI cB r B M (by show sn_ B ≤ 7; omega)) [0, 1, 2, 3, 4, 5, 6, 7, 8, 9, 10, 11, 12, 13, 14, 15] rfl rfl rfl rfl (by decide) hl.1 rfl rfl (Nat.le_of_ble_eq_true rfl) dX5_shared_54 (by decide) (fun r_3 hr_4 => ?_)
          replace hr_4 : r_3 = su_ (jy_ B) (sn_ B) := hr_4
          subst r_3
          refine lv_aload_n hx hb dX5_shared_57 rfl (lv_at hl 0 rfl) ?_
          refine va_get (ci := 5) (C := RX5) (T := TX5) (N := 33) hx hb hts hinX5 hown hK.1 hP 0 rfl rfl 6 (by decide) (hts _ (List.mem_of_getElem? (i := 1) rfl)) (fun _ h9 => h9) rfl dX5_shared_58 ?_
          refine lv_irem hx hb dX5_shared_61 (sn_nz c_30 hn7) ?_
          refine rMi hx hb hr hlk hS M hP ?_ dX5_shared_62
          first | (have hW : uk_ q 2 = -2 := uk_o c_6; rw [hW]; exact ⟨(if_neg (by decide)).symm, oQ_n _ _⟩) | (have hW : uk_ q 2 = 0 := uk_i c_6; rw [hW]; exact ⟨by (rw [if_pos rfl]; unfold shX_; first | (rw [if_neg (by rw [c_18]; decide), if_neg (by rw [c_18]; decide)]; done) | exact sh_0 c_30 (uk_0.mp hW) c_18 | (rw [if_pos c_38, mx_n (Nat.pos_of_ne_zero c_30) hn7]; done) | (rw [if_neg c_38, if_pos (q1_ c_6 c_38 c_18), mx_n (Nat.pos_of_ne_zero c_30) hn7]; done)), oQ_0 rfl (by (first | exact (oN_mk (by assumption)).m | exact oM_.rf _ | exact (oN_pp _ _).m | exact (oN_fo _ _ _ _).m | assumption | (apply oN_.m; assumption) | exact oM_.tr (by assumption) (by assumption)))⟩)
        · skip
          refine lv_aload_n hx hb dX5_shared_41 rfl (lv_at hl 0 rfl) ?_
          refine kSiV hx hb hml hown hts hK hP gX5_shared_X5_allJoy okX5_allJoy (qX5_allJoy l D cI cB r B M (by show sn_ B ≤ 7; omega)) [0, 1, 2, 3, 4, 5, 6, 7, 8, 9, 10, 11, 12, 13, 14, 15] rfl rfl rfl rfl (by decide) hl.1 rfl rfl (Nat.le_of_ble_eq_true rfl) dX5_shared_42 (by decide) (fun r_5 hr_6 => ?_)
          replace hr_6 : r_5 = su_ (jy_ B) (sn_ B) := hr_6
          subst r_5
          refine lv_aload_n hx hb dX5_shared_45 rfl (lv_at hl 0 rfl) ?_
          refine va_get (ci := 5) (C := RX5) (T := TX5) (N := 33) hx hb hts hinX5 hown hK.1 hP 0 rfl rfl 6 (by decide) (hts _ (List.mem_of_getElem? (i := 1) rfl)) (fun _ h9 => h9) rfl dX5_shared_46 ?_
          refine lv_idiv hx hb dX5_shared_49 (sn_nz c_30 hn7) ?_
          refine lv_goto (tgt := 62) hx hb dX5_shared_50 (by decide) ?_
          refine rMi hx hb hr hlk hS M hP ?_ dX5_shared_62
          first | (have hW : uk_ q 2 = -2 := uk_o c_6; rw [hW]; exact ⟨(if_neg (by decide)).symm, oQ_n _ _⟩) | (have hW : uk_ q 2 = 0 := uk_i c_6; rw [hW]; exact ⟨by (rw [if_pos rfl]; unfold shX_; first | (rw [if_neg (by rw [c_18]; decide), if_neg (by rw [c_18]; decide)]; done) | exact sh_0 c_30 (uk_0.mp hW) c_18 | (rw [if_pos c_38, mx_n (Nat.pos_of_ne_zero c_30) hn7]; done) | (rw [if_neg c_38, if_pos (q1_ c_6 c_38 c_18), mx_n (Nat.pos_of_ne_zero c_30) hn7]; done)), oQ_0 rfl (by (first | exact (oN_mk (by assumption)).m | exact oM_.rf _ | exact (oN_pp _ _).m | exact (oN_fo _ _ _ _).m | assumption | (apply oN_.m; assumption) | exact oM_.tr (by assumption) (by assumption)))⟩)
      · replace c_30 : nI (sn_ B) = nI 0 := c_30
        rw [jeq (by omega) (by omega)] at c_30
        refine lv_iconst (v := 0) hx hb dX5_shared_33 (by decide) ?_
        refine lv_goto (tgt := 62) hx hb dX5_shared_34 (by decide) ?_
        refine rMi hx hb hr hlk hS M hP ?_ dX5_shared_62
        first | (have hW : uk_ q 2 = -2 := uk_o c_6; rw [hW]; exact ⟨(if_neg (by decide)).symm, oQ_n _ _⟩) | (have hW : uk_ q 2 = 0 := uk_i c_6; rw [hW]; exact ⟨by (rw [if_pos rfl]; unfold shX_; first | (rw [if_neg (by rw [c_18]; decide), if_neg (by rw [c_18]; decide)]; done) | exact sh_0 c_30 (uk_0.mp hW) c_18 | (rw [if_pos c_38, mx_n (Nat.pos_of_ne_zero c_30) hn7]; done) | (rw [if_neg c_38, if_pos (q1_ c_6 c_38 c_18), mx_n (Nat.pos_of_ne_zero c_30) hn7]; done)), oQ_0 rfl (by (first | exact (oN_mk (by assumption)).m | exact oM_.rf _ | exact (oN_pp _ _).m | exact (oN_fo _ _ _ _).m | assumption | (apply oN_.m; assumption) | exact oM_.tr (by assumption) (by assumption)))⟩)
    · skip
      refine lv_aload_n hx hb dX5_shared_21 rfl (lv_at hl 0 rfl) ?_
      refine kSiV hx hb hml hown hts hK hP gX5_shared_X5_joyless okX5_joyless (qX5_joyless l D cI cB r B M (by show sn_ B ≤ 7; omega)) [0, 1, 2, 3, 4, 5, 6, 7, 8, 9, 10, 11, 12, 13, 14, 15] rfl rfl rfl rfl (by decide) hl.1 rfl rfl (Nat.le_of_ble_eq_true rfl) dX5_shared_22 (by decide) (fun r_7 hr_8 => ?_)
      replace hr_8 : r_7 = bi_ (jy_ B) 0 (sn_ B) := hr_8
      subst r_7
      refine rMi hx hb hr hlk hS M hP ?_ dX5_shared_25
      first | (have hW : uk_ q 2 = -2 := uk_o c_6; rw [hW]; exact ⟨(if_neg (by decide)).symm, oQ_n _ _⟩) | (have hW : uk_ q 2 = 0 := uk_i c_6; rw [hW]; exact ⟨by (rw [if_pos rfl]; unfold shX_; first | (rw [if_neg (by rw [c_18]; decide), if_neg (by rw [c_18]; decide)]; done) | exact sh_0 c_30 (uk_0.mp hW) c_18 | (rw [if_pos c_38, mx_n (Nat.pos_of_ne_zero c_30) hn7]; done) | (rw [if_neg c_38, if_pos (q1_ c_6 c_38 c_18), mx_n (Nat.pos_of_ne_zero c_30) hn7]; done)), oQ_0 rfl (by (first | exact (oN_mk (by assumption)).m | exact oM_.rf _ | exact (oN_pp _ _).m | exact (oN_fo _ _ _ _).m | assumption | (apply oN_.m; assumption) | exact oM_.tr (by assumption) (by assumption)))⟩)
  · replace c_6 := b1_z c_6
    refine lv_aload_n hx hb dX5_shared_9 rfl (lv_at hl 0 rfl) ?_
    refine lv_bipush (v := (-2)) hx hb dX5_shared_10 (by decide) ?_
    refine kMiV hx hb hml hown hts hK hP (va_D.adr hD0 (mW_adE rfl)) hA hS gX5_shared_X5_no okX5_no (qX5_no l D cI cB r B M (-2) (Or.inr (Or.inl rfl))) [0, 1, 2, 3, 4, 5, 6, 7, 8, 9, 10, 11, 12, 13, 14, 15] rfl (by decide) (fun _ => mW_adr _ _ _ _ _ _) rfl rfl rfl (by decide) hl.1 rfl rfl (Nat.le_of_ble_eq_true rfl) dX5_shared_12 (by decide) (fun r_9 u_10 H locs hw_11 hP hD hS => ?_)
    replace hw_11 : r_9 = (-2) ∧ u_10 = (rfm_ M (-2)) := hw_11
    obtain ⟨hw_11a, hw_11b⟩ := hw_11
    subst r_9
    subst u_10
    replace hP : va_P D vwCl ([(r 0, .inr (5, [.ref (r 1), .ref (r 2), .ref (r 3), .ref (r 4), .ref (r 5), .ref (r 6), .int (nI (sn_ B)), .int (qt_ B), .int (il_ B), .int (pa_ B), .int (ho_ B), .int (dy_ B), .ref (r 13), .ref (r 14), .ref (r 15), .ref (r 16), .int (nI (mtn_ M)), .int (nI (mrd_ M)), .int (nI (msm_ M)), .ref (r 20), .int (mhi_ M), .int (mik_ M), .int (nI (mcu_ M)), .int (nI (mbk_ M)), .ref (r 25), .ref (r 26), .int (mlw_ M), .int (mhg_ M), .int (msl_ M), .ref (r 30), .int (nI (mrm_ M)), .ref (r 32), .int (mlo_ M)])), (r 1, .inl (cI, 7, .inl (rfx_ (mrf_ M) (-2)))), (r 2, .inl (cI, 7, .inl (kd_ B))), (r 3, .inl (cI, 7, .inl (fg_ B))), (r 4, .inl (cI, 7, .inl (pl_ B))), (r 5, .inl (cI, 7, .inl (pw_ B))), (r 6, .inl (cI, 7, .inl (jy_ B))), (r 13, .inl (cI, 96, .inl (mtp_ M))), (r 14, .inl (cI, 48, .inl (mlt_ M))), (r 15, .inl (cI, 48, .inl (mla_ M))), (r 16, .inl (cI, 144, .inl (mtd_ M))), (r 20, .inl (cI, 451, .inl (flatK (mkp_ M)))), (r 25, .inl (cI, 7, .inl (mof_ M))), (r 26, .inl (cI, 7, .inl (mfa_ M))), (r 30, .inl (cI, 12, .inl (mrw_ M))), (r 32, .inl (cI, 8, .inl (mhb_ M)))]) H := hP
    refine rMi hx hb hr hlk hS (rfm_ M (-2)) hP ?_ dX5_shared_15
    first | (have hW : uk_ q 2 = -2 := uk_o c_6; rw [hW]; exact ⟨(if_neg (by decide)).symm, oQ_n _ _⟩) | (have hW : uk_ q 2 = 0 := uk_i c_6; rw [hW]; exact ⟨by (rw [if_pos rfl]; unfold shX_; first | (rw [if_neg (by rw [c_18]; decide), if_neg (by rw [c_18]; decide)]; done) | exact sh_0 c_30 (uk_0.mp hW) c_18 | (rw [if_pos c_38, mx_n (Nat.pos_of_ne_zero c_30) hn7]; done) | (rw [if_neg c_38, if_pos (q1_ c_6 c_38 c_18), mx_n (Nat.pos_of_ne_zero c_30) hn7]; done)), oQ_0 rfl (by (first | exact (oN_mk (by assumption)).m | exact oM_.rf _ | exact (oN_pp _ _).m | exact (oN_fo _ _ _ _).m | assumption | (apply oN_.m; assumption) | exact oM_.tr (by assumption) (by assumption)))⟩)

