theorem okX5_noise : jok yX5_noise wsX5_noise cX5_noise 3 (some .int) 2 := ⟨⟨_, rfl⟩, by decide +kernel, by decide +kernel⟩
set_option maxHeartbeats 2000000 in
set_option maxRecDepth 100000 in
theorem qX5_noise (l : Launch) (D : va_G) (cI cB : ClassId) (r : Nat → Nat) (B : BayT) (M : MT) (a : Int32) (h : Int32) (hI : bI_ B) : jMi D cI cB l yX5_noise wsX5_noise 3 [.ref (r 0), .int a, .int h] (mW cI r B M) (S := MT) (fun r u => r = (if f2_ (nb_ a (nI (sn_ B))) (nb_ h 24) = 0 then no_ B (tn_ a) h else f2_ (nb_ a (nI (sn_ B))) (nb_ h 24)) ∧ oQ_ M u (f2_ (nb_ a (nI (sn_ B))) (nb_ h 24))) (fun u => mW cI r B u) := by
  refine jMi.of (cc := cX5_noise) (maxL := 3) (ret := (some .int)) okX5_noise (Nat.le_of_ble_eq_true rfl) ?_
  intro p e s m below meth c ls A hx hb hr hts hown hlk hml hP hK hD hA hS hl
  replace hown : s.vm.findClass RX5 = some m.cls := hown
  replace hl : lv_has ls 3 [(0, .ref (r 0)), (1, .int a), (2, .int h)] := hl
  have hn7 := hI.1
  refine lv_aload_n hx hb dX5_noise_0 rfl (lv_at hl 0 rfl) ?_
  refine lv_iload_n hx hb dX5_noise_1 rfl (lv_at hl 1 rfl) ?_
  refine kSiV hx hb hml hown hts hK hP gX5_noise_X5_isShore okX5_isShore (qX5_isShore l D cI cB r B M a (by show sn_ B ≤ 7; omega)) [0, 1, 2, 3, 4, 5, 6, 7, 8, 9, 10, 11, 12, 13, 14, 15] rfl rfl rfl rfl (by decide) hl.1 rfl rfl (Nat.le_of_ble_eq_true rfl) dX5_noise_2 (by decide) (fun r_1 hr_2 => ?_)
  replace hr_2 : r_1 = b1 (0 ≤ a ∧ a < nI (sn_ B)) := hr_2
  subst r_1
  refine lv_if_eq (tgt := 27) hx hb dX5_noise_5 (by decide) (fun c_5 => ?_) (fun c_5 => ?_)
  · replace c_5 := b1_z c_5
    refine lv_aload_n hx hb dX5_noise_27 rfl (lv_at hl 0 rfl) ?_
    refine lv_iconst (v := (-1)) hx hb dX5_noise_28 (by decide) ?_
    refine kMiV hx hb hml hown hts hK hP hD hA hS gX5_noise_X5_no okX5_no (qX5_no l D cI cB r B M (-1) (Or.inl rfl)) [0, 1, 2, 3, 4, 5, 6, 7, 8, 9, 10, 11, 12, 13, 14, 15] rfl (by decide) (fun _ => mW_adr _ _ _ _ _ _) rfl rfl rfl (by decide) hl.1 rfl rfl (Nat.le_of_ble_eq_true rfl) dX5_noise_29 (by decide) (fun r_3 u_4 H locs hw_5 hP hD hS => ?_)
    replace hw_5 : r_3 = (-1) ∧ u_4 = (rfm_ M (-1)) := hw_5
    obtain ⟨hw_5a, hw_5b⟩ := hw_5
    subst r_3
    subst u_4
    replace hP : va_P D vwCl ([(r 0, .inr (5, [.ref (r 1), .ref (r 2), .ref (r 3), .ref (r 4), .ref (r 5), .ref (r 6), .int (nI (sn_ B)), .int (qt_ B), .int (il_ B), .int (pa_ B), .int (ho_ B), .int (dy_ B), .ref (r 13), .ref (r 14), .ref (r 15), .ref (r 16), .int (nI (mtn_ M)), .int (nI (mrd_ M)), .int (nI (msm_ M)), .ref (r 20), .int (mhi_ M), .int (mik_ M), .int (nI (mcu_ M)), .int (nI (mbk_ M)), .ref (r 25), .ref (r 26), .int (mlw_ M), .int (mhg_ M), .int (msl_ M), .ref (r 30), .int (nI (mrm_ M)), .ref (r 32), .int (mlo_ M)])), (r 1, .inl (cI, 7, .inl (rfx_ (mrf_ M) (-1)))), (r 2, .inl (cI, 7, .inl (kd_ B))), (r 3, .inl (cI, 7, .inl (fg_ B))), (r 4, .inl (cI, 7, .inl (pl_ B))), (r 5, .inl (cI, 7, .inl (pw_ B))), (r 6, .inl (cI, 7, .inl (jy_ B))), (r 13, .inl (cI, 96, .inl (mtp_ M))), (r 14, .inl (cI, 48, .inl (mlt_ M))), (r 15, .inl (cI, 48, .inl (mla_ M))), (r 16, .inl (cI, 144, .inl (mtd_ M))), (r 20, .inl (cI, 451, .inl (flatK (mkp_ M)))), (r 25, .inl (cI, 7, .inl (mof_ M))), (r 26, .inl (cI, 7, .inl (mfa_ M))), (r 30, .inl (cI, 12, .inl (mrw_ M))), (r 32, .inl (cI, 8, .inl (mhb_ M)))]) H := hP
    replace hD : va_D A ([(r 0, .inr (5, [.ref (r 1), .ref (r 2), .ref (r 3), .ref (r 4), .ref (r 5), .ref (r 6), .int (nI (sn_ B)), .int (qt_ B), .int (il_ B), .int (pa_ B), .int (ho_ B), .int (dy_ B), .ref (r 13), .ref (r 14), .ref (r 15), .ref (r 16), .int (nI (mtn_ M)), .int (nI (mrd_ M)), .int (nI (msm_ M)), .ref (r 20), .int (mhi_ M), .int (mik_ M), .int (nI (mcu_ M)), .int (nI (mbk_ M)), .ref (r 25), .ref (r 26), .int (mlw_ M), .int (mhg_ M), .int (msl_ M), .ref (r 30), .int (nI (mrm_ M)), .ref (r 32), .int (mlo_ M)])), (r 1, .inl (cI, 7, .inl (rfx_ (mrf_ M) (-1)))), (r 2, .inl (cI, 7, .inl (kd_ B))), (r 3, .inl (cI, 7, .inl (fg_ B))), (r 4, .inl (cI, 7, .inl (pl_ B))), (r 5, .inl (cI, 7, .inl (pw_ B))), (r 6, .inl (cI, 7, .inl (jy_ B))), (r 13, .inl (cI, 96, .inl (mtp_ M))), (r 14, .inl (cI, 48, .inl (mlt_ M))), (r 15, .inl (cI, 48, .inl (mla_ M))), (r 16, .inl (cI, 144, .inl (mtd_ M))), (r 20, .inl (cI, 451, .inl (flatK (mkp_ M)))), (r 25, .inl (cI, 7, .inl (mof_ M))), (r 26, .inl (cI, 7, .inl (mfa_ M))), (r 30, .inl (cI, 12, .inl (mrw_ M))), (r 32, .inl (cI, 8, .inl (mhb_ M)))]) := hD
    refine rMi hx hb hr hlk hS (rfm_ M (-1)) hP ?_ dX5_noise_32
    first | (have hW : f2_ (nb_ _ (nI (sn_ B))) (nb_ h 24) = -1 := (f2_a (by rw [nb_o c_5]; decide)).trans (nb_o c_5); rw [hW]; exact ⟨(if_neg (by decide)).symm, oQ_n _ _⟩) | (have hW : f2_ (nb_ _ (nI (sn_ B))) (nb_ h 24) = -1 := (f2_b (nb_i c_5)).trans (nb_o (fun q => c_15 (h23.mpr q))); rw [hW]; exact ⟨(if_neg (by decide)).symm, oQ_n _ _⟩) | (have hW : f2_ (nb_ _ (nI (sn_ B))) (nb_ h 24) = 0 := (f2_b (nb_i c_5)).trans (nb_i (h23.mp c_15)); rw [hW]; refine ⟨?_, oQ_0 rfl ?_⟩; · (rw [if_pos rfl]; simp only [tn_n (show a_ < 2147483648 by omega)]); · (first | exact (oN_mk (by assumption)).m | exact oM_.rf _ | exact (oN_pp _ _).m | exact (oN_fo _ _ _ _).m | assumption | (apply oN_.m; assumption) | exact oM_.tr (by assumption) (by assumption)))
  · replace c_5 := b1_n c_5
    refine lv_iload_n hx hb dX5_noise_8 rfl (lv_at hl 2 rfl) ?_
    refine lv_iconst (v := 0) hx hb dX5_noise_9 (by decide) ?_
    refine lv_bipush (v := 23) hx hb dX5_noise_10 (by decide) ?_
    refine kSiS hx hb hml hown hts hK hP gX5_noise_X5_isIn okX5_isIn (qX5_isIn l D cI cB h 0 23 ) [] rfl (by decide) hl.1 rfl rfl (Nat.le_of_ble_eq_true rfl) dX5_noise_12 (by decide) (fun r_6 hr_7 => ?_)
    replace hr_7 : r_6 = b1 (0 ≤ h ∧ h ≤ 23) := hr_7
    subst r_6
    refine lv_if_eq (tgt := 27) hx hb dX5_noise_15 (by decide) (fun c_15 => ?_) (fun c_15 => ?_)
    · replace c_15 := b1_z c_15
      refine lv_aload_n hx hb dX5_noise_27 rfl (lv_at hl 0 rfl) ?_
      refine lv_iconst (v := (-1)) hx hb dX5_noise_28 (by decide) ?_
      refine kMiV hx hb hml hown hts hK hP hD hA hS gX5_noise_X5_no okX5_no (qX5_no l D cI cB r B M (-1) (Or.inl rfl)) [0, 1, 2, 3, 4, 5, 6, 7, 8, 9, 10, 11, 12, 13, 14, 15] rfl (by decide) (fun _ => mW_adr _ _ _ _ _ _) rfl rfl rfl (by decide) hl.1 rfl rfl (Nat.le_of_ble_eq_true rfl) dX5_noise_29 (by decide) (fun r_8 u_9 H locs hw_10 hP hD hS => ?_)
      replace hw_10 : r_8 = (-1) ∧ u_9 = (rfm_ M (-1)) := hw_10
      obtain ⟨hw_10a, hw_10b⟩ := hw_10
      subst r_8
      subst u_9
      replace hP : va_P D vwCl ([(r 0, .inr (5, [.ref (r 1), .ref (r 2), .ref (r 3), .ref (r 4), .ref (r 5), .ref (r 6), .int (nI (sn_ B)), .int (qt_ B), .int (il_ B), .int (pa_ B), .int (ho_ B), .int (dy_ B), .ref (r 13), .ref (r 14), .ref (r 15), .ref (r 16), .int (nI (mtn_ M)), .int (nI (mrd_ M)), .int (nI (msm_ M)), .ref (r 20), .int (mhi_ M), .int (mik_ M), .int (nI (mcu_ M)), .int (nI (mbk_ M)), .ref (r 25), .ref (r 26), .int (mlw_ M), .int (mhg_ M), .int (msl_ M), .ref (r 30), .int (nI (mrm_ M)), .ref (r 32), .int (mlo_ M)])), (r 1, .inl (cI, 7, .inl (rfx_ (mrf_ M) (-1)))), (r 2, .inl (cI, 7, .inl (kd_ B))), (r 3, .inl (cI, 7, .inl (fg_ B))), (r 4, .inl (cI, 7, .inl (pl_ B))), (r 5, .inl (cI, 7, .inl (pw_ B))), (r 6, .inl (cI, 7, .inl (jy_ B))), (r 13, .inl (cI, 96, .inl (mtp_ M))), (r 14, .inl (cI, 48, .inl (mlt_ M))), (r 15, .inl (cI, 48, .inl (mla_ M))), (r 16, .inl (cI, 144, .inl (mtd_ M))), (r 20, .inl (cI, 451, .inl (flatK (mkp_ M)))), (r 25, .inl (cI, 7, .inl (mof_ M))), (r 26, .inl (cI, 7, .inl (mfa_ M))), (r 30, .inl (cI, 12, .inl (mrw_ M))), (r 32, .inl (cI, 8, .inl (mhb_ M)))]) H := hP
      replace hD : va_D A ([(r 0, .inr (5, [.ref (r 1), .ref (r 2), .ref (r 3), .ref (r 4), .ref (r 5), .ref (r 6), .int (nI (sn_ B)), .int (qt_ B), .int (il_ B), .int (pa_ B), .int (ho_ B), .int (dy_ B), .ref (r 13), .ref (r 14), .ref (r 15), .ref (r 16), .int (nI (mtn_ M)), .int (nI (mrd_ M)), .int (nI (msm_ M)), .ref (r 20), .int (mhi_ M), .int (mik_ M), .int (nI (mcu_ M)), .int (nI (mbk_ M)), .ref (r 25), .ref (r 26), .int (mlw_ M), .int (mhg_ M), .int (msl_ M), .ref (r 30), .int (nI (mrm_ M)), .ref (r 32), .int (mlo_ M)])), (r 1, .inl (cI, 7, .inl (rfx_ (mrf_ M) (-1)))), (r 2, .inl (cI, 7, .inl (kd_ B))), (r 3, .inl (cI, 7, .inl (fg_ B))), (r 4, .inl (cI, 7, .inl (pl_ B))), (r 5, .inl (cI, 7, .inl (pw_ B))), (r 6, .inl (cI, 7, .inl (jy_ B))), (r 13, .inl (cI, 96, .inl (mtp_ M))), (r 14, .inl (cI, 48, .inl (mlt_ M))), (r 15, .inl (cI, 48, .inl (mla_ M))), (r 16, .inl (cI, 144, .inl (mtd_ M))), (r 20, .inl (cI, 451, .inl (flatK (mkp_ M)))), (r 25, .inl (cI, 7, .inl (mof_ M))), (r 26, .inl (cI, 7, .inl (mfa_ M))), (r 30, .inl (cI, 12, .inl (mrw_ M))), (r 32, .inl (cI, 8, .inl (mhb_ M)))]) := hD
      refine rMi hx hb hr hlk hS (rfm_ M (-1)) hP ?_ dX5_noise_32
      first | (have hW : f2_ (nb_ _ (nI (sn_ B))) (nb_ h 24) = -1 := (f2_a (by rw [nb_o c_5]; decide)).trans (nb_o c_5); rw [hW]; exact ⟨(if_neg (by decide)).symm, oQ_n _ _⟩) | (have hW : f2_ (nb_ _ (nI (sn_ B))) (nb_ h 24) = -1 := (f2_b (nb_i c_5)).trans (nb_o (fun q => c_15 (h23.mpr q))); rw [hW]; exact ⟨(if_neg (by decide)).symm, oQ_n _ _⟩) | (have hW : f2_ (nb_ _ (nI (sn_ B))) (nb_ h 24) = 0 := (f2_b (nb_i c_5)).trans (nb_i (h23.mp c_15)); rw [hW]; refine ⟨?_, oQ_0 rfl ?_⟩; · (rw [if_pos rfl]; simp only [tn_n (show a_ < 2147483648 by omega)]); · (first | exact (oN_mk (by assumption)).m | exact oM_.rf _ | exact (oN_pp _ _).m | exact (oN_fo _ _ _ _).m | assumption | (apply oN_.m; assumption) | exact oM_.tr (by assumption) (by assumption)))
    · replace c_15 := b1_n c_15
      obtain ⟨a_, ha_, rfl⟩ := pl_lt (n := sn_ B) (by omega) c_5
      replace hl : lv_has ls 3 [(0, .ref (r 0)), (1, .int (nI a_)), (2, .int h)] := hl
      refine lv_aload_n hx hb dX5_noise_18 rfl (lv_at hl 0 rfl) ?_
      refine lv_iload_n hx hb dX5_noise_19 rfl (lv_at hl 1 rfl) ?_
      refine lv_iload_n hx hb dX5_noise_20 rfl (lv_at hl 2 rfl) ?_
      refine kSiV hx hb hml hown hts hK hP gX5_noise_X5_noiseOf okX5_noiseOf (qX5_noiseOf l D cI cB r B M a_ h (by omega) (hI.2.1 a_ ha_).1) [0, 1, 2, 3, 4, 5, 6, 7, 8, 9, 10, 11, 12, 13, 14, 15] rfl rfl rfl rfl (by decide) hl.1 rfl rfl (Nat.le_of_ble_eq_true rfl) dX5_noise_21 (by decide) (fun r_11 hr_12 => ?_)
      replace hr_12 : r_11 = no_ B a_ h := hr_12
      subst r_11
      refine lv_goto (tgt := 32) hx hb dX5_noise_24 (by decide) ?_
      refine rMi hx hb hr hlk hS M hP ?_ dX5_noise_32
      first | (have hW : f2_ (nb_ _ (nI (sn_ B))) (nb_ h 24) = -1 := (f2_a (by rw [nb_o c_5]; decide)).trans (nb_o c_5); rw [hW]; exact ⟨(if_neg (by decide)).symm, oQ_n _ _⟩) | (have hW : f2_ (nb_ _ (nI (sn_ B))) (nb_ h 24) = -1 := (f2_b (nb_i c_5)).trans (nb_o (fun q => c_15 (h23.mpr q))); rw [hW]; exact ⟨(if_neg (by decide)).symm, oQ_n _ _⟩) | (have hW : f2_ (nb_ _ (nI (sn_ B))) (nb_ h 24) = 0 := (f2_b (nb_i c_5)).trans (nb_i (h23.mp c_15)); rw [hW]; refine ⟨?_, oQ_0 rfl ?_⟩; · (rw [if_pos rfl]; simp only [tn_n (show a_ < 2147483648 by omega)]); · (first | exact (oN_mk (by assumption)).m | exact oM_.rf _ | exact (oN_pp _ _).m | exact (oN_fo _ _ _ _).m | assumption | (apply oN_.m; assumption) | exact oM_.tr (by assumption) (by assumption)))

theorem okX5_shoreOf : jok yX5_shoreOf wsX5_shoreOf cX5_shoreOf 3 (some .int) 2 := ⟨⟨_, rfl⟩, by decide +kernel, by decide +kernel⟩
set_option maxHeartbeats 2000000 in
set_option maxRecDepth 100000 in
theorem qX5_shoreOf (l : Launch) (D : va_G) (cI cB : ClassId) (r : Nat → Nat) (B : BayT) (M : MT) (a : Int32) (q : Int32) (hI : bI_ B) : jMi D cI cB l yX5_shoreOf wsX5_shoreOf 1 [.ref (r 0), .int a, .int q] (mW cI r B M) (S := MT) (fun r u => r = (if f2_ (nb_ a (nI (sn_ B))) (uk_ q 7) = 0 then soX_ B (tn_ a) q else f2_ (nb_ a (nI (sn_ B))) (uk_ q 7)) ∧ oQ_ M u (f2_ (nb_ a (nI (sn_ B))) (uk_ q 7))) (fun u => mW cI r B u) := by
  refine jMi.of (cc := cX5_shoreOf) (maxL := 3) (ret := (some .int)) okX5_shoreOf (Nat.le_of_ble_eq_true rfl) ?_
  intro p e s m below meth c ls A hx hb hr hts hown hlk hml hP hK hD hA hS hl
  replace hown : s.vm.findClass RX5 = some m.cls := hown
  replace hl : lv_has ls 3 [(0, .ref (r 0)), (1, .int a), (2, .int q)] := hl
  have hn7 := hI.1
  have hinX5 : ∀ w ∈ wsX50, w ∈ wsX5_shoreOf := by decide +kernel
  refine lv_aload_n hx hb dX5_shoreOf_0 rfl (lv_at hl 0 rfl) ?_
  refine lv_iload_n hx hb dX5_shoreOf_1 rfl (lv_at hl 1 rfl) ?_
  refine kSiV hx hb hml hown hts hK hP gX5_shoreOf_X5_isShore okX5_isShore (qX5_isShore l D cI cB r B M a (by show sn_ B ≤ 7; omega)) [0, 1, 2, 3, 4, 5, 6, 7, 8, 9, 10, 11, 12, 13, 14, 15] rfl rfl rfl rfl (by decide) hl.1 rfl rfl (Nat.le_of_ble_eq_true rfl) dX5_shoreOf_2 (by decide) (fun r_1 hr_2 => ?_)
  replace hr_2 : r_1 = b1 (0 ≤ a ∧ a < nI (sn_ B)) := hr_2
  subst r_1
  refine lv_if_ne (tgt := 14) hx hb dX5_shoreOf_5 (by decide) (fun c_5 => ?_) (fun c_5 => ?_)
  · replace c_5 := b1_n c_5
    obtain ⟨a_, ha_, rfl⟩ := pl_lt (n := sn_ B) (by omega) c_5
    replace hl : lv_has ls 3 [(0, .ref (r 0)), (1, .int (nI a_)), (2, .int q)] := hl
    refine lv_iload_n hx hb dX5_shoreOf_14 rfl (lv_at hl 2 rfl) ?_
    by_cases c_15_0 : q = 0
    · refine lv_tableIn (off := 45) (tgt := 60) hx hb dX5_shoreOf_15 (by rw [c_15_0]; decide) (by rw [c_15_0]; decide) (by rw [c_15_0]; rfl) (by decide) ?_
      refine lv_aload_n hx hb dX5_shoreOf_60 rfl (lv_at hl 0 rfl) ?_
      refine va_get (ci := 5) (C := RX5) (T := TX5) (N := 33) hx hb hts hinX5 hown hK.1 hP 0 rfl rfl 1 (by decide) (hts _ (List.mem_of_getElem? (i := 1) rfl)) (fun _ h9 => h9) rfl dX5_shoreOf_61 ?_
      refine lv_iload_n hx hb dX5_shoreOf_64 rfl (lv_at hl 1 rfl) ?_
      refine jald hx hb hK.1 hP 2 0 a_ rfl rfl rfl (by omega) (Nat.le_of_ble_eq_true rfl) dX5_shoreOf_65 ?_
      refine rMi hx hb hr hlk hS M hP ?_ dX5_shoreOf_66
      first | (have hW : f2_ (nb_ _ (nI (sn_ B))) (uk_ q 7) = -1 := (f2_a (by rw [nb_o c_5]; decide)).trans (nb_o c_5); rw [hW]; exact ⟨(if_neg (by decide)).symm, oQ_n _ _⟩) | (have hW : f2_ (nb_ _ (nI (sn_ B))) (uk_ q 7) = 0 := (f2_b (nb_i c_5)).trans (by rw [c_15_0]; decide); rw [hW]; refine ⟨?_, oQ_0 rfl (oM_.rf _)⟩; rw [if_pos rfl]; simp only [tn_n (show a_ < 2147483648 by omega)]; rw [c_15_0]; rfl) | (have hW : f2_ (nb_ _ (nI (sn_ B))) (uk_ q 7) = 0 := (f2_b (nb_i c_5)).trans (by rw [c_15_1]; decide); rw [hW]; refine ⟨?_, oQ_0 rfl (oM_.rf _)⟩; rw [if_pos rfl]; simp only [tn_n (show a_ < 2147483648 by omega)]; rw [c_15_1]; rfl) | (have hW : f2_ (nb_ _ (nI (sn_ B))) (uk_ q 7) = 0 := (f2_b (nb_i c_5)).trans (by rw [c_15_2]; decide); rw [hW]; refine ⟨?_, oQ_0 rfl (oM_.rf _)⟩; rw [if_pos rfl]; simp only [tn_n (show a_ < 2147483648 by omega)]; rw [c_15_2]; rfl) | (have hW : f2_ (nb_ _ (nI (sn_ B))) (uk_ q 7) = 0 := (f2_b (nb_i c_5)).trans (by rw [c_15_3]; decide); rw [hW]; refine ⟨?_, oQ_0 rfl (oM_.rf _)⟩; rw [if_pos rfl]; simp only [tn_n (show a_ < 2147483648 by omega)]; rw [c_15_3]; rfl) | (have hW : f2_ (nb_ _ (nI (sn_ B))) (uk_ q 7) = 0 := (f2_b (nb_i c_5)).trans (by rw [c_15_4]; decide); rw [hW]; refine ⟨?_, oQ_0 rfl (oM_.rf _)⟩; rw [if_pos rfl]; simp only [tn_n (show a_ < 2147483648 by omega)]; rw [c_15_4]; exact (qb_b1 _ _).symm) | (have hW : f2_ (nb_ _ (nI (sn_ B))) (uk_ q 7) = 0 := (f2_b (nb_i c_5)).trans (by rw [c_15_5]; decide); rw [hW]; refine ⟨?_, oQ_0 rfl (oM_.rf _)⟩; rw [if_pos rfl]; simp only [tn_n (show a_ < 2147483648 by omega)]; rw [c_15_5]; rfl) | (have hW : f2_ (nb_ _ (nI (sn_ B))) (uk_ q 7) = 0 := (f2_b (nb_i c_5)).trans (by rw [c_15_6]; decide); rw [hW]; refine ⟨?_, oQ_0 rfl (oM_.rf _)⟩; rw [if_pos rfl]; simp only [tn_n (show a_ < 2147483648 by omega)]; rw [c_15_6]; rfl) | (have hW : f2_ (nb_ _ (nI (sn_ B))) (uk_ q 7) = 0 := (f2_b (nb_i c_5)).trans (by rw [c_15_7]; decide); rw [hW]; refine ⟨?_, oQ_0 rfl (oM_.rf _)⟩; rw [if_pos rfl]; simp only [tn_n (show a_ < 2147483648 by omega)]; rw [c_15_7]; first | exact (b1_t c_120).symm | exact (b1_f c_120).symm) | (have hW : f2_ (nb_ _ (nI (sn_ B))) (uk_ q 7) = -2 := (f2_b (nb_i c_5)).trans (uk_8 c_15_0 c_15_1 c_15_2 c_15_3 c_15_4 c_15_5 c_15_6 c_15_7); rw [hW]; exact ⟨(if_neg (by decide)).symm, oQ_n _ _⟩)
    by_cases c_15_1 : q = 1
    · refine lv_tableIn (off := 52) (tgt := 67) hx hb dX5_shoreOf_15 (by rw [c_15_1]; decide) (by rw [c_15_1]; decide) (by rw [c_15_1]; rfl) (by decide) ?_
      refine lv_aload_n hx hb dX5_shoreOf_67 rfl (lv_at hl 0 rfl) ?_
      refine va_get (ci := 5) (C := RX5) (T := TX5) (N := 33) hx hb hts hinX5 hown hK.1 hP 0 rfl rfl 2 (by decide) (hts _ (List.mem_of_getElem? (i := 2) rfl)) (fun _ h9 => h9) rfl dX5_shoreOf_68 ?_
      refine lv_iload_n hx hb dX5_shoreOf_71 rfl (lv_at hl 1 rfl) ?_
      refine jald hx hb hK.1 hP 3 0 a_ rfl rfl rfl (by omega) (Nat.le_of_ble_eq_true rfl) dX5_shoreOf_72 ?_
      refine rMi hx hb hr hlk hS M hP ?_ dX5_shoreOf_73
      first | (have hW : f2_ (nb_ _ (nI (sn_ B))) (uk_ q 7) = -1 := (f2_a (by rw [nb_o c_5]; decide)).trans (nb_o c_5); rw [hW]; exact ⟨(if_neg (by decide)).symm, oQ_n _ _⟩) | (have hW : f2_ (nb_ _ (nI (sn_ B))) (uk_ q 7) = 0 := (f2_b (nb_i c_5)).trans (by rw [c_15_0]; decide); rw [hW]; refine ⟨?_, oQ_0 rfl (oM_.rf _)⟩; rw [if_pos rfl]; simp only [tn_n (show a_ < 2147483648 by omega)]; rw [c_15_0]; rfl) | (have hW : f2_ (nb_ _ (nI (sn_ B))) (uk_ q 7) = 0 := (f2_b (nb_i c_5)).trans (by rw [c_15_1]; decide); rw [hW]; refine ⟨?_, oQ_0 rfl (oM_.rf _)⟩; rw [if_pos rfl]; simp only [tn_n (show a_ < 2147483648 by omega)]; rw [c_15_1]; rfl) | (have hW : f2_ (nb_ _ (nI (sn_ B))) (uk_ q 7) = 0 := (f2_b (nb_i c_5)).trans (by rw [c_15_2]; decide); rw [hW]; refine ⟨?_, oQ_0 rfl (oM_.rf _)⟩; rw [if_pos rfl]; simp only [tn_n (show a_ < 2147483648 by omega)]; rw [c_15_2]; rfl) | (have hW : f2_ (nb_ _ (nI (sn_ B))) (uk_ q 7) = 0 := (f2_b (nb_i c_5)).trans (by rw [c_15_3]; decide); rw [hW]; refine ⟨?_, oQ_0 rfl (oM_.rf _)⟩; rw [if_pos rfl]; simp only [tn_n (show a_ < 2147483648 by omega)]; rw [c_15_3]; rfl) | (have hW : f2_ (nb_ _ (nI (sn_ B))) (uk_ q 7) = 0 := (f2_b (nb_i c_5)).trans (by rw [c_15_4]; decide); rw [hW]; refine ⟨?_, oQ_0 rfl (oM_.rf _)⟩; rw [if_pos rfl]; simp only [tn_n (show a_ < 2147483648 by omega)]; rw [c_15_4]; exact (qb_b1 _ _).symm) | (have hW : f2_ (nb_ _ (nI (sn_ B))) (uk_ q 7) = 0 := (f2_b (nb_i c_5)).trans (by rw [c_15_5]; decide); rw [hW]; refine ⟨?_, oQ_0 rfl (oM_.rf _)⟩; rw [if_pos rfl]; simp only [tn_n (show a_ < 2147483648 by omega)]; rw [c_15_5]; rfl) | (have hW : f2_ (nb_ _ (nI (sn_ B))) (uk_ q 7) = 0 := (f2_b (nb_i c_5)).trans (by rw [c_15_6]; decide); rw [hW]; refine ⟨?_, oQ_0 rfl (oM_.rf _)⟩; rw [if_pos rfl]; simp only [tn_n (show a_ < 2147483648 by omega)]; rw [c_15_6]; rfl) | (have hW : f2_ (nb_ _ (nI (sn_ B))) (uk_ q 7) = 0 := (f2_b (nb_i c_5)).trans (by rw [c_15_7]; decide); rw [hW]; refine ⟨?_, oQ_0 rfl (oM_.rf _)⟩; rw [if_pos rfl]; simp only [tn_n (show a_ < 2147483648 by omega)]; rw [c_15_7]; first | exact (b1_t c_120).symm | exact (b1_f c_120).symm) | (have hW : f2_ (nb_ _ (nI (sn_ B))) (uk_ q 7) = -2 := (f2_b (nb_i c_5)).trans (uk_8 c_15_0 c_15_1 c_15_2 c_15_3 c_15_4 c_15_5 c_15_6 c_15_7); rw [hW]; exact ⟨(if_neg (by decide)).symm, oQ_n _ _⟩)
    by_cases c_15_2 : q = 2
    · refine lv_tableIn (off := 59) (tgt := 74) hx hb dX5_shoreOf_15 (by rw [c_15_2]; decide) (by rw [c_15_2]; decide) (by rw [c_15_2]; rfl) (by decide) ?_
      refine lv_aload_n hx hb dX5_shoreOf_74 rfl (lv_at hl 0 rfl) ?_
      refine va_get (ci := 5) (C := RX5) (T := TX5) (N := 33) hx hb hts hinX5 hown hK.1 hP 0 rfl rfl 3 (by decide) (hts _ (List.mem_of_getElem? (i := 3) rfl)) (fun _ h9 => h9) rfl dX5_shoreOf_75 ?_
      refine lv_iload_n hx hb dX5_shoreOf_78 rfl (lv_at hl 1 rfl) ?_
      refine jald hx hb hK.1 hP 4 0 a_ rfl rfl rfl (by omega) (Nat.le_of_ble_eq_true rfl) dX5_shoreOf_79 ?_
      refine rMi hx hb hr hlk hS M hP ?_ dX5_shoreOf_80
      first | (have hW : f2_ (nb_ _ (nI (sn_ B))) (uk_ q 7) = -1 := (f2_a (by rw [nb_o c_5]; decide)).trans (nb_o c_5); rw [hW]; exact ⟨(if_neg (by decide)).symm, oQ_n _ _⟩) | (have hW : f2_ (nb_ _ (nI (sn_ B))) (uk_ q 7) = 0 := (f2_b (nb_i c_5)).trans (by rw [c_15_0]; decide); rw [hW]; refine ⟨?_, oQ_0 rfl (oM_.rf _)⟩; rw [if_pos rfl]; simp only [tn_n (show a_ < 2147483648 by omega)]; rw [c_15_0]; rfl) | (have hW : f2_ (nb_ _ (nI (sn_ B))) (uk_ q 7) = 0 := (f2_b (nb_i c_5)).trans (by rw [c_15_1]; decide); rw [hW]; refine ⟨?_, oQ_0 rfl (oM_.rf _)⟩; rw [if_pos rfl]; simp only [tn_n (show a_ < 2147483648 by omega)]; rw [c_15_1]; rfl) | (have hW : f2_ (nb_ _ (nI (sn_ B))) (uk_ q 7) = 0 := (f2_b (nb_i c_5)).trans (by rw [c_15_2]; decide); rw [hW]; refine ⟨?_, oQ_0 rfl (oM_.rf _)⟩; rw [if_pos rfl]; simp only [tn_n (show a_ < 2147483648 by omega)]; rw [c_15_2]; rfl) | (have hW : f2_ (nb_ _ (nI (sn_ B))) (uk_ q 7) = 0 := (f2_b (nb_i c_5)).trans (by rw [c_15_3]; decide); rw [hW]; refine ⟨?_, oQ_0 rfl (oM_.rf _)⟩; rw [if_pos rfl]; simp only [tn_n (show a_ < 2147483648 by omega)]; rw [c_15_3]; rfl) | (have hW : f2_ (nb_ _ (nI (sn_ B))) (uk_ q 7) = 0 := (f2_b (nb_i c_5)).trans (by rw [c_15_4]; decide); rw [hW]; refine ⟨?_, oQ_0 rfl (oM_.rf _)⟩; rw [if_pos rfl]; simp only [tn_n (show a_ < 2147483648 by omega)]; rw [c_15_4]; exact (qb_b1 _ _).symm) | (have hW : f2_ (nb_ _ (nI (sn_ B))) (uk_ q 7) = 0 := (f2_b (nb_i c_5)).trans (by rw [c_15_5]; decide); rw [hW]; refine ⟨?_, oQ_0 rfl (oM_.rf _)⟩; rw [if_pos rfl]; simp only [tn_n (show a_ < 2147483648 by omega)]; rw [c_15_5]; rfl) | (have hW : f2_ (nb_ _ (nI (sn_ B))) (uk_ q 7) = 0 := (f2_b (nb_i c_5)).trans (by rw [c_15_6]; decide); rw [hW]; refine ⟨?_, oQ_0 rfl (oM_.rf _)⟩; rw [if_pos rfl]; simp only [tn_n (show a_ < 2147483648 by omega)]; rw [c_15_6]; rfl) | (have hW : f2_ (nb_ _ (nI (sn_ B))) (uk_ q 7) = 0 := (f2_b (nb_i c_5)).trans (by rw [c_15_7]; decide); rw [hW]; refine ⟨?_, oQ_0 rfl (oM_.rf _)⟩; rw [if_pos rfl]; simp only [tn_n (show a_ < 2147483648 by omega)]; rw [c_15_7]; first | exact (b1_t c_120).symm | exact (b1_f c_120).symm) | (have hW : f2_ (nb_ _ (nI (sn_ B))) (uk_ q 7) = -2 := (f2_b (nb_i c_5)).trans (uk_8 c_15_0 c_15_1 c_15_2 c_15_3 c_15_4 c_15_5 c_15_6 c_15_7); rw [hW]; exact ⟨(if_neg (by decide)).symm, oQ_n _ _⟩)
    by_cases c_15_3 : q = 3
    · refine lv_tableIn (off := 66) (tgt := 81) hx hb dX5_shoreOf_15 (by rw [c_15_3]; decide) (by rw [c_15_3]; decide) (by rw [c_15_3]; rfl) (by decide) ?_
      refine lv_aload_n hx hb dX5_shoreOf_81 rfl (lv_at hl 0 rfl) ?_
      refine va_get (ci := 5) (C := RX5) (T := TX5) (N := 33) hx hb hts hinX5 hown hK.1 hP 0 rfl rfl 4 (by decide) (hts _ (List.mem_of_getElem? (i := 4) rfl)) (fun _ h9 => h9) rfl dX5_shoreOf_82 ?_
      refine lv_iload_n hx hb dX5_shoreOf_85 rfl (lv_at hl 1 rfl) ?_
      refine jald hx hb hK.1 hP 5 0 a_ rfl rfl rfl (by omega) (Nat.le_of_ble_eq_true rfl) dX5_shoreOf_86 ?_
      refine rMi hx hb hr hlk hS M hP ?_ dX5_shoreOf_87
      first | (have hW : f2_ (nb_ _ (nI (sn_ B))) (uk_ q 7) = -1 := (f2_a (by rw [nb_o c_5]; decide)).trans (nb_o c_5); rw [hW]; exact ⟨(if_neg (by decide)).symm, oQ_n _ _⟩) | (have hW : f2_ (nb_ _ (nI (sn_ B))) (uk_ q 7) = 0 := (f2_b (nb_i c_5)).trans (by rw [c_15_0]; decide); rw [hW]; refine ⟨?_, oQ_0 rfl (oM_.rf _)⟩; rw [if_pos rfl]; simp only [tn_n (show a_ < 2147483648 by omega)]; rw [c_15_0]; rfl) | (have hW : f2_ (nb_ _ (nI (sn_ B))) (uk_ q 7) = 0 := (f2_b (nb_i c_5)).trans (by rw [c_15_1]; decide); rw [hW]; refine ⟨?_, oQ_0 rfl (oM_.rf _)⟩; rw [if_pos rfl]; simp only [tn_n (show a_ < 2147483648 by omega)]; rw [c_15_1]; rfl) | (have hW : f2_ (nb_ _ (nI (sn_ B))) (uk_ q 7) = 0 := (f2_b (nb_i c_5)).trans (by rw [c_15_2]; decide); rw [hW]; refine ⟨?_, oQ_0 rfl (oM_.rf _)⟩; rw [if_pos rfl]; simp only [tn_n (show a_ < 2147483648 by omega)]; rw [c_15_2]; rfl) | (have hW : f2_ (nb_ _ (nI (sn_ B))) (uk_ q 7) = 0 := (f2_b (nb_i c_5)).trans (by rw [c_15_3]; decide); rw [hW]; refine ⟨?_, oQ_0 rfl (oM_.rf _)⟩; rw [if_pos rfl]; simp only [tn_n (show a_ < 2147483648 by omega)]; rw [c_15_3]; rfl) | (have hW : f2_ (nb_ _ (nI (sn_ B))) (uk_ q 7) = 0 := (f2_b (nb_i c_5)).trans (by rw [c_15_4]; decide); rw [hW]; refine ⟨?_, oQ_0 rfl (oM_.rf _)⟩; rw [if_pos rfl]; simp only [tn_n (show a_ < 2147483648 by omega)]; rw [c_15_4]; exact (qb_b1 _ _).symm) | (have hW : f2_ (nb_ _ (nI (sn_ B))) (uk_ q 7) = 0 := (f2_b (nb_i c_5)).trans (by rw [c_15_5]; decide); rw [hW]; refine ⟨?_, oQ_0 rfl (oM_.rf _)⟩; rw [if_pos rfl]; simp only [tn_n (show a_ < 2147483648 by omega)]; rw [c_15_5]; rfl) | (have hW : f2_ (nb_ _ (nI (sn_ B))) (uk_ q 7) = 0 := (f2_b (nb_i c_5)).trans (by rw [c_15_6]; decide); rw [hW]; refine ⟨?_, oQ_0 rfl (oM_.rf _)⟩; rw [if_pos rfl]; simp only [tn_n (show a_ < 2147483648 by omega)]; rw [c_15_6]; rfl) | (have hW : f2_ (nb_ _ (nI (sn_ B))) (uk_ q 7) = 0 := (f2_b (nb_i c_5)).trans (by rw [c_15_7]; decide); rw [hW]; refine ⟨?_, oQ_0 rfl (oM_.rf _)⟩; rw [if_pos rfl]; simp only [tn_n (show a_ < 2147483648 by omega)]; rw [c_15_7]; first | exact (b1_t c_120).symm | exact (b1_f c_120).symm) | (have hW : f2_ (nb_ _ (nI (sn_ B))) (uk_ q 7) = -2 := (f2_b (nb_i c_5)).trans (uk_8 c_15_0 c_15_1 c_15_2 c_15_3 c_15_4 c_15_5 c_15_6 c_15_7); rw [hW]; exact ⟨(if_neg (by decide)).symm, oQ_n _ _⟩)
    by_cases c_15_4 : q = 4
    · refine lv_tableIn (off := 73) (tgt := 88) hx hb dX5_shoreOf_15 (by rw [c_15_4]; decide) (by rw [c_15_4]; decide) (by rw [c_15_4]; rfl) (by decide) ?_
      refine lv_aload_n hx hb dX5_shoreOf_88 rfl (lv_at hl 0 rfl) ?_
      refine va_get (ci := 5) (C := RX5) (T := TX5) (N := 33) hx hb hts hinX5 hown hK.1 hP 0 rfl rfl 7 (by decide) (hts _ (List.mem_of_getElem? (i := 5) rfl)) (fun _ h9 => h9) rfl dX5_shoreOf_89 ?_
      refine lv_iload_n hx hb dX5_shoreOf_92 rfl (lv_at hl 1 rfl) ?_
      refine lv_ishr hx hb dX5_shoreOf_93 ?_
      refine lv_iconst (v := 1) hx hb dX5_shoreOf_94 (by decide) ?_
      refine lv_iand hx hb dX5_shoreOf_95 ?_
      refine rMi hx hb hr hlk hS M hP ?_ dX5_shoreOf_96
      first | (have hW : f2_ (nb_ _ (nI (sn_ B))) (uk_ q 7) = -1 := (f2_a (by rw [nb_o c_5]; decide)).trans (nb_o c_5); rw [hW]; exact ⟨(if_neg (by decide)).symm, oQ_n _ _⟩) | (have hW : f2_ (nb_ _ (nI (sn_ B))) (uk_ q 7) = 0 := (f2_b (nb_i c_5)).trans (by rw [c_15_0]; decide); rw [hW]; refine ⟨?_, oQ_0 rfl (oM_.rf _)⟩; rw [if_pos rfl]; simp only [tn_n (show a_ < 2147483648 by omega)]; rw [c_15_0]; rfl) | (have hW : f2_ (nb_ _ (nI (sn_ B))) (uk_ q 7) = 0 := (f2_b (nb_i c_5)).trans (by rw [c_15_1]; decide); rw [hW]; refine ⟨?_, oQ_0 rfl (oM_.rf _)⟩; rw [if_pos rfl]; simp only [tn_n (show a_ < 2147483648 by omega)]; rw [c_15_1]; rfl) | (have hW : f2_ (nb_ _ (nI (sn_ B))) (uk_ q 7) = 0 := (f2_b (nb_i c_5)).trans (by rw [c_15_2]; decide); rw [hW]; refine ⟨?_, oQ_0 rfl (oM_.rf _)⟩; rw [if_pos rfl]; simp only [tn_n (show a_ < 2147483648 by omega)]; rw [c_15_2]; rfl) | (have hW : f2_ (nb_ _ (nI (sn_ B))) (uk_ q 7) = 0 := (f2_b (nb_i c_5)).trans (by rw [c_15_3]; decide); rw [hW]; refine ⟨?_, oQ_0 rfl (oM_.rf _)⟩; rw [if_pos rfl]; simp only [tn_n (show a_ < 2147483648 by omega)]; rw [c_15_3]; rfl) | (have hW : f2_ (nb_ _ (nI (sn_ B))) (uk_ q 7) = 0 := (f2_b (nb_i c_5)).trans (by rw [c_15_4]; decide); rw [hW]; refine ⟨?_, oQ_0 rfl (oM_.rf _)⟩; rw [if_pos rfl]; simp only [tn_n (show a_ < 2147483648 by omega)]; rw [c_15_4]; exact (qb_b1 _ _).symm) | (have hW : f2_ (nb_ _ (nI (sn_ B))) (uk_ q 7) = 0 := (f2_b (nb_i c_5)).trans (by rw [c_15_5]; decide); rw [hW]; refine ⟨?_, oQ_0 rfl (oM_.rf _)⟩; rw [if_pos rfl]; simp only [tn_n (show a_ < 2147483648 by omega)]; rw [c_15_5]; rfl) | (have hW : f2_ (nb_ _ (nI (sn_ B))) (uk_ q 7) = 0 := (f2_b (nb_i c_5)).trans (by rw [c_15_6]; decide); rw [hW]; refine ⟨?_, oQ_0 rfl (oM_.rf _)⟩; rw [if_pos rfl]; simp only [tn_n (show a_ < 2147483648 by omega)]; rw [c_15_6]; rfl) | (have hW : f2_ (nb_ _ (nI (sn_ B))) (uk_ q 7) = 0 := (f2_b (nb_i c_5)).trans (by rw [c_15_7]; decide); rw [hW]; refine ⟨?_, oQ_0 rfl (oM_.rf _)⟩; rw [if_pos rfl]; simp only [tn_n (show a_ < 2147483648 by omega)]; rw [c_15_7]; first | exact (b1_t c_120).symm | exact (b1_f c_120).symm) | (have hW : f2_ (nb_ _ (nI (sn_ B))) (uk_ q 7) = -2 := (f2_b (nb_i c_5)).trans (uk_8 c_15_0 c_15_1 c_15_2 c_15_3 c_15_4 c_15_5 c_15_6 c_15_7); rw [hW]; exact ⟨(if_neg (by decide)).symm, oQ_n _ _⟩)
    by_cases c_15_5 : q = 5
    · refine lv_tableIn (off := 82) (tgt := 97) hx hb dX5_shoreOf_15 (by rw [c_15_5]; decide) (by rw [c_15_5]; decide) (by rw [c_15_5]; rfl) (by decide) ?_
      refine lv_aload_n hx hb dX5_shoreOf_97 rfl (lv_at hl 0 rfl) ?_
      refine va_get (ci := 5) (C := RX5) (T := TX5) (N := 33) hx hb hts hinX5 hown hK.1 hP 0 rfl rfl 5 (by decide) (hts _ (List.mem_of_getElem? (i := 6) rfl)) (fun _ h9 => h9) rfl dX5_shoreOf_98 ?_
      refine lv_iload_n hx hb dX5_shoreOf_101 rfl (lv_at hl 1 rfl) ?_
      refine jald hx hb hK.1 hP 6 0 a_ rfl rfl rfl (by omega) (Nat.le_of_ble_eq_true rfl) dX5_shoreOf_102 ?_
      refine rMi hx hb hr hlk hS M hP ?_ dX5_shoreOf_103
      first | (have hW : f2_ (nb_ _ (nI (sn_ B))) (uk_ q 7) = -1 := (f2_a (by rw [nb_o c_5]; decide)).trans (nb_o c_5); rw [hW]; exact ⟨(if_neg (by decide)).symm, oQ_n _ _⟩) | (have hW : f2_ (nb_ _ (nI (sn_ B))) (uk_ q 7) = 0 := (f2_b (nb_i c_5)).trans (by rw [c_15_0]; decide); rw [hW]; refine ⟨?_, oQ_0 rfl (oM_.rf _)⟩; rw [if_pos rfl]; simp only [tn_n (show a_ < 2147483648 by omega)]; rw [c_15_0]; rfl) | (have hW : f2_ (nb_ _ (nI (sn_ B))) (uk_ q 7) = 0 := (f2_b (nb_i c_5)).trans (by rw [c_15_1]; decide); rw [hW]; refine ⟨?_, oQ_0 rfl (oM_.rf _)⟩; rw [if_pos rfl]; simp only [tn_n (show a_ < 2147483648 by omega)]; rw [c_15_1]; rfl) | (have hW : f2_ (nb_ _ (nI (sn_ B))) (uk_ q 7) = 0 := (f2_b (nb_i c_5)).trans (by rw [c_15_2]; decide); rw [hW]; refine ⟨?_, oQ_0 rfl (oM_.rf _)⟩; rw [if_pos rfl]; simp only [tn_n (show a_ < 2147483648 by omega)]; rw [c_15_2]; rfl) | (have hW : f2_ (nb_ _ (nI (sn_ B))) (uk_ q 7) = 0 := (f2_b (nb_i c_5)).trans (by rw [c_15_3]; decide); rw [hW]; refine ⟨?_, oQ_0 rfl (oM_.rf _)⟩; rw [if_pos rfl]; simp only [tn_n (show a_ < 2147483648 by omega)]; rw [c_15_3]; rfl) | (have hW : f2_ (nb_ _ (nI (sn_ B))) (uk_ q 7) = 0 := (f2_b (nb_i c_5)).trans (by rw [c_15_4]; decide); rw [hW]; refine ⟨?_, oQ_0 rfl (oM_.rf _)⟩; rw [if_pos rfl]; simp only [tn_n (show a_ < 2147483648 by omega)]; rw [c_15_4]; exact (qb_b1 _ _).symm) | (have hW : f2_ (nb_ _ (nI (sn_ B))) (uk_ q 7) = 0 := (f2_b (nb_i c_5)).trans (by rw [c_15_5]; decide); rw [hW]; refine ⟨?_, oQ_0 rfl (oM_.rf _)⟩; rw [if_pos rfl]; simp only [tn_n (show a_ < 2147483648 by omega)]; rw [c_15_5]; rfl) | (have hW : f2_ (nb_ _ (nI (sn_ B))) (uk_ q 7) = 0 := (f2_b (nb_i c_5)).trans (by rw [c_15_6]; decide); rw [hW]; refine ⟨?_, oQ_0 rfl (oM_.rf _)⟩; rw [if_pos rfl]; simp only [tn_n (show a_ < 2147483648 by omega)]; rw [c_15_6]; rfl) | (have hW : f2_ (nb_ _ (nI (sn_ B))) (uk_ q 7) = 0 := (f2_b (nb_i c_5)).trans (by rw [c_15_7]; decide); rw [hW]; refine ⟨?_, oQ_0 rfl (oM_.rf _)⟩; rw [if_pos rfl]; simp only [tn_n (show a_ < 2147483648 by omega)]; rw [c_15_7]; first | exact (b1_t c_120).symm | exact (b1_f c_120).symm) | (have hW : f2_ (nb_ _ (nI (sn_ B))) (uk_ q 7) = -2 := (f2_b (nb_i c_5)).trans (uk_8 c_15_0 c_15_1 c_15_2 c_15_3 c_15_4 c_15_5 c_15_6 c_15_7); rw [hW]; exact ⟨(if_neg (by decide)).symm, oQ_n _ _⟩)
    by_cases c_15_6 : q = 6
    · refine lv_tableIn (off := 89) (tgt := 104) hx hb dX5_shoreOf_15 (by rw [c_15_6]; decide) (by rw [c_15_6]; decide) (by rw [c_15_6]; rfl) (by decide) ?_
      refine lv_aload_n hx hb dX5_shoreOf_104 rfl (lv_at hl 0 rfl) ?_
      refine lv_iload_n hx hb dX5_shoreOf_105 rfl (lv_at hl 1 rfl) ?_
      refine kSiV hx hb hml hown hts hK hP gX5_shoreOf_X5_costsOf okX5_costsOf (qX5_costsOf l D cI cB r B M a_ (by omega)) [0, 1, 2, 3, 4, 5, 6, 7, 8, 9, 10, 11, 12, 13, 14, 15] rfl rfl rfl rfl (by decide) hl.1 rfl rfl (Nat.le_of_ble_eq_true rfl) dX5_shoreOf_106 (by decide) (fun r_3 hr_4 => ?_)
      replace hr_4 : r_3 = co_ (kd_ B a_) (fg_ B a_) := hr_4
      subst r_3
      refine rMi hx hb hr hlk hS M hP ?_ dX5_shoreOf_109
      first | (have hW : f2_ (nb_ _ (nI (sn_ B))) (uk_ q 7) = -1 := (f2_a (by rw [nb_o c_5]; decide)).trans (nb_o c_5); rw [hW]; exact ⟨(if_neg (by decide)).symm, oQ_n _ _⟩) | (have hW : f2_ (nb_ _ (nI (sn_ B))) (uk_ q 7) = 0 := (f2_b (nb_i c_5)).trans (by rw [c_15_0]; decide); rw [hW]; refine ⟨?_, oQ_0 rfl (oM_.rf _)⟩; rw [if_pos rfl]; simp only [tn_n (show a_ < 2147483648 by omega)]; rw [c_15_0]; rfl) | (have hW : f2_ (nb_ _ (nI (sn_ B))) (uk_ q 7) = 0 := (f2_b (nb_i c_5)).trans (by rw [c_15_1]; decide); rw [hW]; refine ⟨?_, oQ_0 rfl (oM_.rf _)⟩; rw [if_pos rfl]; simp only [tn_n (show a_ < 2147483648 by omega)]; rw [c_15_1]; rfl) | (have hW : f2_ (nb_ _ (nI (sn_ B))) (uk_ q 7) = 0 := (f2_b (nb_i c_5)).trans (by rw [c_15_2]; decide); rw [hW]; refine ⟨?_, oQ_0 rfl (oM_.rf _)⟩; rw [if_pos rfl]; simp only [tn_n (show a_ < 2147483648 by omega)]; rw [c_15_2]; rfl) | (have hW : f2_ (nb_ _ (nI (sn_ B))) (uk_ q 7) = 0 := (f2_b (nb_i c_5)).trans (by rw [c_15_3]; decide); rw [hW]; refine ⟨?_, oQ_0 rfl (oM_.rf _)⟩; rw [if_pos rfl]; simp only [tn_n (show a_ < 2147483648 by omega)]; rw [c_15_3]; rfl) | (have hW : f2_ (nb_ _ (nI (sn_ B))) (uk_ q 7) = 0 := (f2_b (nb_i c_5)).trans (by rw [c_15_4]; decide); rw [hW]; refine ⟨?_, oQ_0 rfl (oM_.rf _)⟩; rw [if_pos rfl]; simp only [tn_n (show a_ < 2147483648 by omega)]; rw [c_15_4]; exact (qb_b1 _ _).symm) | (have hW : f2_ (nb_ _ (nI (sn_ B))) (uk_ q 7) = 0 := (f2_b (nb_i c_5)).trans (by rw [c_15_5]; decide); rw [hW]; refine ⟨?_, oQ_0 rfl (oM_.rf _)⟩; rw [if_pos rfl]; simp only [tn_n (show a_ < 2147483648 by omega)]; rw [c_15_5]; rfl) | (have hW : f2_ (nb_ _ (nI (sn_ B))) (uk_ q 7) = 0 := (f2_b (nb_i c_5)).trans (by rw [c_15_6]; decide); rw [hW]; refine ⟨?_, oQ_0 rfl (oM_.rf _)⟩; rw [if_pos rfl]; simp only [tn_n (show a_ < 2147483648 by omega)]; rw [c_15_6]; rfl) | (have hW : f2_ (nb_ _ (nI (sn_ B))) (uk_ q 7) = 0 := (f2_b (nb_i c_5)).trans (by rw [c_15_7]; decide); rw [hW]; refine ⟨?_, oQ_0 rfl (oM_.rf _)⟩; rw [if_pos rfl]; simp only [tn_n (show a_ < 2147483648 by omega)]; rw [c_15_7]; first | exact (b1_t c_120).symm | exact (b1_f c_120).symm) | (have hW : f2_ (nb_ _ (nI (sn_ B))) (uk_ q 7) = -2 := (f2_b (nb_i c_5)).trans (uk_8 c_15_0 c_15_1 c_15_2 c_15_3 c_15_4 c_15_5 c_15_6 c_15_7); rw [hW]; exact ⟨(if_neg (by decide)).symm, oQ_n _ _⟩)
    by_cases c_15_7 : q = 7
    · refine lv_tableIn (off := 95) (tgt := 110) hx hb dX5_shoreOf_15 (by rw [c_15_7]; decide) (by rw [c_15_7]; decide) (by rw [c_15_7]; rfl) (by decide) ?_
      refine lv_aload_n hx hb dX5_shoreOf_110 rfl (lv_at hl 0 rfl) ?_
      refine va_get (ci := 5) (C := RX5) (T := TX5) (N := 33) hx hb hts hinX5 hown hK.1 hP 0 rfl rfl 3 (by decide) (hts _ (List.mem_of_getElem? (i := 3) rfl)) (fun _ h9 => h9) rfl dX5_shoreOf_111 ?_
      refine lv_iload_n hx hb dX5_shoreOf_114 rfl (lv_at hl 1 rfl) ?_
      refine jald hx hb hK.1 hP 4 0 a_ rfl rfl rfl (by omega) (Nat.le_of_ble_eq_true rfl) dX5_shoreOf_115 ?_
      refine lv_aload_n hx hb dX5_shoreOf_116 rfl (lv_at hl 0 rfl) ?_
      refine va_get (ci := 5) (C := RX5) (T := TX5) (N := 33) hx hb hts hinX5 hown hK.1 hP 0 rfl rfl 8 (by decide) (hts _ (List.mem_of_getElem? (i := 7) rfl)) (fun _ h9 => h9) rfl dX5_shoreOf_117 ?_
      refine lv_icmp_ne (tgt := 127) hx hb dX5_shoreOf_120 (by decide) (fun c_120 => ?_) (fun c_120 => ?_)
      · skip
        refine lv_iconst (v := 0) hx hb dX5_shoreOf_127 (by decide) ?_
        refine rMi hx hb hr hlk hS M hP ?_ dX5_shoreOf_128
        first | (have hW : f2_ (nb_ _ (nI (sn_ B))) (uk_ q 7) = -1 := (f2_a (by rw [nb_o c_5]; decide)).trans (nb_o c_5); rw [hW]; exact ⟨(if_neg (by decide)).symm, oQ_n _ _⟩) | (have hW : f2_ (nb_ _ (nI (sn_ B))) (uk_ q 7) = 0 := (f2_b (nb_i c_5)).trans (by rw [c_15_0]; decide); rw [hW]; refine ⟨?_, oQ_0 rfl (oM_.rf _)⟩; rw [if_pos rfl]; simp only [tn_n (show a_ < 2147483648 by omega)]; rw [c_15_0]; rfl) | (have hW : f2_ (nb_ _ (nI (sn_ B))) (uk_ q 7) = 0 := (f2_b (nb_i c_5)).trans (by rw [c_15_1]; decide); rw [hW]; refine ⟨?_, oQ_0 rfl (oM_.rf _)⟩; rw [if_pos rfl]; simp only [tn_n (show a_ < 2147483648 by omega)]; rw [c_15_1]; rfl) | (have hW : f2_ (nb_ _ (nI (sn_ B))) (uk_ q 7) = 0 := (f2_b (nb_i c_5)).trans (by rw [c_15_2]; decide); rw [hW]; refine ⟨?_, oQ_0 rfl (oM_.rf _)⟩; rw [if_pos rfl]; simp only [tn_n (show a_ < 2147483648 by omega)]; rw [c_15_2]; rfl) | (have hW : f2_ (nb_ _ (nI (sn_ B))) (uk_ q 7) = 0 := (f2_b (nb_i c_5)).trans (by rw [c_15_3]; decide); rw [hW]; refine ⟨?_, oQ_0 rfl (oM_.rf _)⟩; rw [if_pos rfl]; simp only [tn_n (show a_ < 2147483648 by omega)]; rw [c_15_3]; rfl) | (have hW : f2_ (nb_ _ (nI (sn_ B))) (uk_ q 7) = 0 := (f2_b (nb_i c_5)).trans (by rw [c_15_4]; decide); rw [hW]; refine ⟨?_, oQ_0 rfl (oM_.rf _)⟩; rw [if_pos rfl]; simp only [tn_n (show a_ < 2147483648 by omega)]; rw [c_15_4]; exact (qb_b1 _ _).symm) | (have hW : f2_ (nb_ _ (nI (sn_ B))) (uk_ q 7) = 0 := (f2_b (nb_i c_5)).trans (by rw [c_15_5]; decide); rw [hW]; refine ⟨?_, oQ_0 rfl (oM_.rf _)⟩; rw [if_pos rfl]; simp only [tn_n (show a_ < 2147483648 by omega)]; rw [c_15_5]; rfl) | (have hW : f2_ (nb_ _ (nI (sn_ B))) (uk_ q 7) = 0 := (f2_b (nb_i c_5)).trans (by rw [c_15_6]; decide); rw [hW]; refine ⟨?_, oQ_0 rfl (oM_.rf _)⟩; rw [if_pos rfl]; simp only [tn_n (show a_ < 2147483648 by omega)]; rw [c_15_6]; rfl) | (have hW : f2_ (nb_ _ (nI (sn_ B))) (uk_ q 7) = 0 := (f2_b (nb_i c_5)).trans (by rw [c_15_7]; decide); rw [hW]; refine ⟨?_, oQ_0 rfl (oM_.rf _)⟩; rw [if_pos rfl]; simp only [tn_n (show a_ < 2147483648 by omega)]; rw [c_15_7]; first | exact (b1_t c_120).symm | exact (b1_f c_120).symm) | (have hW : f2_ (nb_ _ (nI (sn_ B))) (uk_ q 7) = -2 := (f2_b (nb_i c_5)).trans (uk_8 c_15_0 c_15_1 c_15_2 c_15_3 c_15_4 c_15_5 c_15_6 c_15_7); rw [hW]; exact ⟨(if_neg (by decide)).symm, oQ_n _ _⟩)
      · skip
        refine lv_iconst (v := 1) hx hb dX5_shoreOf_123 (by decide) ?_
        refine lv_goto (tgt := 128) hx hb dX5_shoreOf_124 (by decide) ?_
        refine rMi hx hb hr hlk hS M hP ?_ dX5_shoreOf_128
        first | (have hW : f2_ (nb_ _ (nI (sn_ B))) (uk_ q 7) = -1 := (f2_a (by rw [nb_o c_5]; decide)).trans (nb_o c_5); rw [hW]; exact ⟨(if_neg (by decide)).symm, oQ_n _ _⟩) | (have hW : f2_ (nb_ _ (nI (sn_ B))) (uk_ q 7) = 0 := (f2_b (nb_i c_5)).trans (by rw [c_15_0]; decide); rw [hW]; refine ⟨?_, oQ_0 rfl (oM_.rf _)⟩; rw [if_pos rfl]; simp only [tn_n (show a_ < 2147483648 by omega)]; rw [c_15_0]; rfl) | (have hW : f2_ (nb_ _ (nI (sn_ B))) (uk_ q 7) = 0 := (f2_b (nb_i c_5)).trans (by rw [c_15_1]; decide); rw [hW]; refine ⟨?_, oQ_0 rfl (oM_.rf _)⟩; rw [if_pos rfl]; simp only [tn_n (show a_ < 2147483648 by omega)]; rw [c_15_1]; rfl) | (have hW : f2_ (nb_ _ (nI (sn_ B))) (uk_ q 7) = 0 := (f2_b (nb_i c_5)).trans (by rw [c_15_2]; decide); rw [hW]; refine ⟨?_, oQ_0 rfl (oM_.rf _)⟩; rw [if_pos rfl]; simp only [tn_n (show a_ < 2147483648 by omega)]; rw [c_15_2]; rfl) | (have hW : f2_ (nb_ _ (nI (sn_ B))) (uk_ q 7) = 0 := (f2_b (nb_i c_5)).trans (by rw [c_15_3]; decide); rw [hW]; refine ⟨?_, oQ_0 rfl (oM_.rf _)⟩; rw [if_pos rfl]; simp only [tn_n (show a_ < 2147483648 by omega)]; rw [c_15_3]; rfl) | (have hW : f2_ (nb_ _ (nI (sn_ B))) (uk_ q 7) = 0 := (f2_b (nb_i c_5)).trans (by rw [c_15_4]; decide); rw [hW]; refine ⟨?_, oQ_0 rfl (oM_.rf _)⟩; rw [if_pos rfl]; simp only [tn_n (show a_ < 2147483648 by omega)]; rw [c_15_4]; exact (qb_b1 _ _).symm) | (have hW : f2_ (nb_ _ (nI (sn_ B))) (uk_ q 7) = 0 := (f2_b (nb_i c_5)).trans (by rw [c_15_5]; decide); rw [hW]; refine ⟨?_, oQ_0 rfl (oM_.rf _)⟩; rw [if_pos rfl]; simp only [tn_n (show a_ < 2147483648 by omega)]; rw [c_15_5]; rfl) | (have hW : f2_ (nb_ _ (nI (sn_ B))) (uk_ q 7) = 0 := (f2_b (nb_i c_5)).trans (by rw [c_15_6]; decide); rw [hW]; refine ⟨?_, oQ_0 rfl (oM_.rf _)⟩; rw [if_pos rfl]; simp only [tn_n (show a_ < 2147483648 by omega)]; rw [c_15_6]; rfl) | (have hW : f2_ (nb_ _ (nI (sn_ B))) (uk_ q 7) = 0 := (f2_b (nb_i c_5)).trans (by rw [c_15_7]; decide); rw [hW]; refine ⟨?_, oQ_0 rfl (oM_.rf _)⟩; rw [if_pos rfl]; simp only [tn_n (show a_ < 2147483648 by omega)]; rw [c_15_7]; first | exact (b1_t c_120).symm | exact (b1_f c_120).symm) | (have hW : f2_ (nb_ _ (nI (sn_ B))) (uk_ q 7) = -2 := (f2_b (nb_i c_5)).trans (uk_8 c_15_0 c_15_1 c_15_2 c_15_3 c_15_4 c_15_5 c_15_6 c_15_7); rw [hW]; exact ⟨(if_neg (by decide)).symm, oQ_n _ _⟩)
    refine lv_tableOut (tgt := 129) hx hb dX5_shoreOf_15 (by have t0 := lv_neT c_15_0 (a := 0) (by decide); have t1 := lv_neT c_15_1 (a := 1) (by decide); have t2 := lv_neT c_15_2 (a := 2) (by decide); have t3 := lv_neT c_15_3 (a := 3) (by decide); have t4 := lv_neT c_15_4 (a := 4) (by decide); have t5 := lv_neT c_15_5 (a := 5) (by decide); have t6 := lv_neT c_15_6 (a := 6) (by decide); have t7 := lv_neT c_15_7 (a := 7) (by decide); omega) (by decide) ?_
    refine lv_aload_n hx hb dX5_shoreOf_129 rfl (lv_at hl 0 rfl) ?_
    refine lv_bipush (v := (-2)) hx hb dX5_shoreOf_130 (by decide) ?_
    refine kMiV hx hb hml hown hts hK hP hD hA hS gX5_shoreOf_X5_no okX5_no (qX5_no l D cI cB r B M (-2) (by first | exact Or.inl rfl | exact Or.inr (Or.inl rfl))) [0, 1, 2, 3, 4, 5, 6, 7, 8, 9, 10, 11, 12, 13, 14, 15] rfl (by decide) (fun _ => mW_adr _ _ _ _ _ _) rfl rfl rfl (by decide) hl.1 rfl rfl (Nat.le_of_ble_eq_true rfl) dX5_shoreOf_132 (by decide) (fun r_5 u_6 H locs hw_7 hP hD hS => ?_)
    replace hw_7 : r_5 = (-2) ∧ u_6 = (rfm_ M (-2)) := hw_7
    obtain ⟨hw_7a, hw_7b⟩ := hw_7
    subst r_5
    subst u_6
    replace hP : va_P D vwCl ([(r 0, .inr (5, [.ref (r 1), .ref (r 2), .ref (r 3), .ref (r 4), .ref (r 5), .ref (r 6), .int (nI (sn_ B)), .int (qt_ B), .int (il_ B), .int (pa_ B), .int (ho_ B), .int (dy_ B), .ref (r 13), .ref (r 14), .ref (r 15), .ref (r 16), .int (nI (mtn_ M)), .int (nI (mrd_ M)), .int (nI (msm_ M)), .ref (r 20), .int (mhi_ M), .int (mik_ M), .int (nI (mcu_ M)), .int (nI (mbk_ M)), .ref (r 25), .ref (r 26), .int (mlw_ M), .int (mhg_ M), .int (msl_ M), .ref (r 30), .int (nI (mrm_ M)), .ref (r 32), .int (mlo_ M)])), (r 1, .inl (cI, 7, .inl (rfx_ (mrf_ M) (-2)))), (r 2, .inl (cI, 7, .inl (kd_ B))), (r 3, .inl (cI, 7, .inl (fg_ B))), (r 4, .inl (cI, 7, .inl (pl_ B))), (r 5, .inl (cI, 7, .inl (pw_ B))), (r 6, .inl (cI, 7, .inl (jy_ B))), (r 13, .inl (cI, 96, .inl (mtp_ M))), (r 14, .inl (cI, 48, .inl (mlt_ M))), (r 15, .inl (cI, 48, .inl (mla_ M))), (r 16, .inl (cI, 144, .inl (mtd_ M))), (r 20, .inl (cI, 451, .inl (flatK (mkp_ M)))), (r 25, .inl (cI, 7, .inl (mof_ M))), (r 26, .inl (cI, 7, .inl (mfa_ M))), (r 30, .inl (cI, 12, .inl (mrw_ M))), (r 32, .inl (cI, 8, .inl (mhb_ M)))]) H := hP
    replace hD : va_D A ([(r 0, .inr (5, [.ref (r 1), .ref (r 2), .ref (r 3), .ref (r 4), .ref (r 5), .ref (r 6), .int (nI (sn_ B)), .int (qt_ B), .int (il_ B), .int (pa_ B), .int (ho_ B), .int (dy_ B), .ref (r 13), .ref (r 14), .ref (r 15), .ref (r 16), .int (nI (mtn_ M)), .int (nI (mrd_ M)), .int (nI (msm_ M)), .ref (r 20), .int (mhi_ M), .int (mik_ M), .int (nI (mcu_ M)), .int (nI (mbk_ M)), .ref (r 25), .ref (r 26), .int (mlw_ M), .int (mhg_ M), .int (msl_ M), .ref (r 30), .int (nI (mrm_ M)), .ref (r 32), .int (mlo_ M)])), (r 1, .inl (cI, 7, .inl (rfx_ (mrf_ M) (-2)))), (r 2, .inl (cI, 7, .inl (kd_ B))), (r 3, .inl (cI, 7, .inl (fg_ B))), (r 4, .inl (cI, 7, .inl (pl_ B))), (r 5, .inl (cI, 7, .inl (pw_ B))), (r 6, .inl (cI, 7, .inl (jy_ B))), (r 13, .inl (cI, 96, .inl (mtp_ M))), (r 14, .inl (cI, 48, .inl (mlt_ M))), (r 15, .inl (cI, 48, .inl (mla_ M))), (r 16, .inl (cI, 144, .inl (mtd_ M))), (r 20, .inl (cI, 451, .inl (flatK (mkp_ M)))), (r 25, .inl (cI, 7, .inl (mof_ M))), (r 26, .inl (cI, 7, .inl (mfa_ M))), (r 30, .inl (cI, 12, .inl (mrw_ M))), (r 32, .inl (cI, 8, .inl (mhb_ M)))]) := hD
    refine rMi hx hb hr hlk hS (rfm_ M (-2)) hP ?_ dX5_shoreOf_135
    first | (have hW : f2_ (nb_ _ (nI (sn_ B))) (uk_ q 7) = -1 := (f2_a (by rw [nb_o c_5]; decide)).trans (nb_o c_5); rw [hW]; exact ⟨(if_neg (by decide)).symm, oQ_n _ _⟩) | (have hW : f2_ (nb_ _ (nI (sn_ B))) (uk_ q 7) = 0 := (f2_b (nb_i c_5)).trans (by rw [c_15_0]; decide); rw [hW]; refine ⟨?_, oQ_0 rfl (oM_.rf _)⟩; rw [if_pos rfl]; simp only [tn_n (show a_ < 2147483648 by omega)]; rw [c_15_0]; rfl) | (have hW : f2_ (nb_ _ (nI (sn_ B))) (uk_ q 7) = 0 := (f2_b (nb_i c_5)).trans (by rw [c_15_1]; decide); rw [hW]; refine ⟨?_, oQ_0 rfl (oM_.rf _)⟩; rw [if_pos rfl]; simp only [tn_n (show a_ < 2147483648 by omega)]; rw [c_15_1]; rfl) | (have hW : f2_ (nb_ _ (nI (sn_ B))) (uk_ q 7) = 0 := (f2_b (nb_i c_5)).trans (by rw [c_15_2]; decide); rw [hW]; refine ⟨?_, oQ_0 rfl (oM_.rf _)⟩; rw [if_pos rfl]; simp only [tn_n (show a_ < 2147483648 by omega)]; rw [c_15_2]; rfl) | (have hW : f2_ (nb_ _ (nI (sn_ B))) (uk_ q 7) = 0 := (f2_b (nb_i c_5)).trans (by rw [c_15_3]; decide); rw [hW]; refine ⟨?_, oQ_0 rfl (oM_.rf _)⟩; rw [if_pos rfl]; simp only [tn_n (show a_ < 2147483648 by omega)]; rw [c_15_3]; rfl) | (have hW : f2_ (nb_ _ (nI (sn_ B))) (uk_ q 7) = 0 := (f2_b (nb_i c_5)).trans (by rw [c_15_4]; decide); rw [hW]; refine ⟨?_, oQ_0 rfl (oM_.rf _)⟩; rw [if_pos rfl]; simp only [tn_n (show a_ < 2147483648 by omega)]; rw [c_15_4]; exact (qb_b1 _ _).symm) | (have hW : f2_ (nb_ _ (nI (sn_ B))) (uk_ q 7) = 0 := (f2_b (nb_i c_5)).trans (by rw [c_15_5]; decide); rw [hW]; refine ⟨?_, oQ_0 rfl (oM_.rf _)⟩; rw [if_pos rfl]; simp only [tn_n (show a_ < 2147483648 by omega)]; rw [c_15_5]; rfl) | (have hW : f2_ (nb_ _ (nI (sn_ B))) (uk_ q 7) = 0 := (f2_b (nb_i c_5)).trans (by rw [c_15_6]; decide); rw [hW]; refine ⟨?_, oQ_0 rfl (oM_.rf _)⟩; rw [if_pos rfl]; simp only [tn_n (show a_ < 2147483648 by omega)]; rw [c_15_6]; rfl) | (have hW : f2_ (nb_ _ (nI (sn_ B))) (uk_ q 7) = 0 := (f2_b (nb_i c_5)).trans (by rw [c_15_7]; decide); rw [hW]; refine ⟨?_, oQ_0 rfl (oM_.rf _)⟩; rw [if_pos rfl]; simp only [tn_n (show a_ < 2147483648 by omega)]; rw [c_15_7]; first | exact (b1_t c_120).symm | exact (b1_f c_120).symm) | (have hW : f2_ (nb_ _ (nI (sn_ B))) (uk_ q 7) = -2 := (f2_b (nb_i c_5)).trans (uk_8 c_15_0 c_15_1 c_15_2 c_15_3 c_15_4 c_15_5 c_15_6 c_15_7); rw [hW]; exact ⟨(if_neg (by decide)).symm, oQ_n _ _⟩)
  · replace c_5 := b1_z c_5
    refine lv_aload_n hx hb dX5_shoreOf_8 rfl (lv_at hl 0 rfl) ?_
    refine lv_iconst (v := (-1)) hx hb dX5_shoreOf_9 (by decide) ?_
    refine kMiV hx hb hml hown hts hK hP hD hA hS gX5_shoreOf_X5_no okX5_no (qX5_no l D cI cB r B M (-1) (by first | exact Or.inl rfl | exact Or.inr (Or.inl rfl))) [0, 1, 2, 3, 4, 5, 6, 7, 8, 9, 10, 11, 12, 13, 14, 15] rfl (by decide) (fun _ => mW_adr _ _ _ _ _ _) rfl rfl rfl (by decide) hl.1 rfl rfl (Nat.le_of_ble_eq_true rfl) dX5_shoreOf_10 (by decide) (fun r_8 u_9 H locs hw_10 hP hD hS => ?_)
    replace hw_10 : r_8 = (-1) ∧ u_9 = (rfm_ M (-1)) := hw_10
    obtain ⟨hw_10a, hw_10b⟩ := hw_10
    subst r_8
    subst u_9
    replace hP : va_P D vwCl ([(r 0, .inr (5, [.ref (r 1), .ref (r 2), .ref (r 3), .ref (r 4), .ref (r 5), .ref (r 6), .int (nI (sn_ B)), .int (qt_ B), .int (il_ B), .int (pa_ B), .int (ho_ B), .int (dy_ B), .ref (r 13), .ref (r 14), .ref (r 15), .ref (r 16), .int (nI (mtn_ M)), .int (nI (mrd_ M)), .int (nI (msm_ M)), .ref (r 20), .int (mhi_ M), .int (mik_ M), .int (nI (mcu_ M)), .int (nI (mbk_ M)), .ref (r 25), .ref (r 26), .int (mlw_ M), .int (mhg_ M), .int (msl_ M), .ref (r 30), .int (nI (mrm_ M)), .ref (r 32), .int (mlo_ M)])), (r 1, .inl (cI, 7, .inl (rfx_ (mrf_ M) (-1)))), (r 2, .inl (cI, 7, .inl (kd_ B))), (r 3, .inl (cI, 7, .inl (fg_ B))), (r 4, .inl (cI, 7, .inl (pl_ B))), (r 5, .inl (cI, 7, .inl (pw_ B))), (r 6, .inl (cI, 7, .inl (jy_ B))), (r 13, .inl (cI, 96, .inl (mtp_ M))), (r 14, .inl (cI, 48, .inl (mlt_ M))), (r 15, .inl (cI, 48, .inl (mla_ M))), (r 16, .inl (cI, 144, .inl (mtd_ M))), (r 20, .inl (cI, 451, .inl (flatK (mkp_ M)))), (r 25, .inl (cI, 7, .inl (mof_ M))), (r 26, .inl (cI, 7, .inl (mfa_ M))), (r 30, .inl (cI, 12, .inl (mrw_ M))), (r 32, .inl (cI, 8, .inl (mhb_ M)))]) H := hP
    replace hD : va_D A ([(r 0, .inr (5, [.ref (r 1), .ref (r 2), .ref (r 3), .ref (r 4), .ref (r 5), .ref (r 6), .int (nI (sn_ B)), .int (qt_ B), .int (il_ B), .int (pa_ B), .int (ho_ B), .int (dy_ B), .ref (r 13), .ref (r 14), .ref (r 15), .ref (r 16), .int (nI (mtn_ M)), .int (nI (mrd_ M)), .int (nI (msm_ M)), .ref (r 20), .int (mhi_ M), .int (mik_ M), .int (nI (mcu_ M)), .int (nI (mbk_ M)), .ref (r 25), .ref (r 26), .int (mlw_ M), .int (mhg_ M), .int (msl_ M), .ref (r 30), .int (nI (mrm_ M)), .ref (r 32), .int (mlo_ M)])), (r 1, .inl (cI, 7, .inl (rfx_ (mrf_ M) (-1)))), (r 2, .inl (cI, 7, .inl (kd_ B))), (r 3, .inl (cI, 7, .inl (fg_ B))), (r 4, .inl (cI, 7, .inl (pl_ B))), (r 5, .inl (cI, 7, .inl (pw_ B))), (r 6, .inl (cI, 7, .inl (jy_ B))), (r 13, .inl (cI, 96, .inl (mtp_ M))), (r 14, .inl (cI, 48, .inl (mlt_ M))), (r 15, .inl (cI, 48, .inl (mla_ M))), (r 16, .inl (cI, 144, .inl (mtd_ M))), (r 20, .inl (cI, 451, .inl (flatK (mkp_ M)))), (r 25, .inl (cI, 7, .inl (mof_ M))), (r 26, .inl (cI, 7, .inl (mfa_ M))), (r 30, .inl (cI, 12, .inl (mrw_ M))), (r 32, .inl (cI, 8, .inl (mhb_ M)))]) := hD
    refine rMi hx hb hr hlk hS (rfm_ M (-1)) hP ?_ dX5_shoreOf_13
    first | (have hW : f2_ (nb_ _ (nI (sn_ B))) (uk_ q 7) = -1 := (f2_a (by rw [nb_o c_5]; decide)).trans (nb_o c_5); rw [hW]; exact ⟨(if_neg (by decide)).symm, oQ_n _ _⟩) | (have hW : f2_ (nb_ _ (nI (sn_ B))) (uk_ q 7) = 0 := (f2_b (nb_i c_5)).trans (by rw [c_15_0]; decide); rw [hW]; refine ⟨?_, oQ_0 rfl (oM_.rf _)⟩; rw [if_pos rfl]; simp only [tn_n (show a_ < 2147483648 by omega)]; rw [c_15_0]; rfl) | (have hW : f2_ (nb_ _ (nI (sn_ B))) (uk_ q 7) = 0 := (f2_b (nb_i c_5)).trans (by rw [c_15_1]; decide); rw [hW]; refine ⟨?_, oQ_0 rfl (oM_.rf _)⟩; rw [if_pos rfl]; simp only [tn_n (show a_ < 2147483648 by omega)]; rw [c_15_1]; rfl) | (have hW : f2_ (nb_ _ (nI (sn_ B))) (uk_ q 7) = 0 := (f2_b (nb_i c_5)).trans (by rw [c_15_2]; decide); rw [hW]; refine ⟨?_, oQ_0 rfl (oM_.rf _)⟩; rw [if_pos rfl]; simp only [tn_n (show a_ < 2147483648 by omega)]; rw [c_15_2]; rfl) | (have hW : f2_ (nb_ _ (nI (sn_ B))) (uk_ q 7) = 0 := (f2_b (nb_i c_5)).trans (by rw [c_15_3]; decide); rw [hW]; refine ⟨?_, oQ_0 rfl (oM_.rf _)⟩; rw [if_pos rfl]; simp only [tn_n (show a_ < 2147483648 by omega)]; rw [c_15_3]; rfl) | (have hW : f2_ (nb_ _ (nI (sn_ B))) (uk_ q 7) = 0 := (f2_b (nb_i c_5)).trans (by rw [c_15_4]; decide); rw [hW]; refine ⟨?_, oQ_0 rfl (oM_.rf _)⟩; rw [if_pos rfl]; simp only [tn_n (show a_ < 2147483648 by omega)]; rw [c_15_4]; exact (qb_b1 _ _).symm) | (have hW : f2_ (nb_ _ (nI (sn_ B))) (uk_ q 7) = 0 := (f2_b (nb_i c_5)).trans (by rw [c_15_5]; decide); rw [hW]; refine ⟨?_, oQ_0 rfl (oM_.rf _)⟩; rw [if_pos rfl]; simp only [tn_n (show a_ < 2147483648 by omega)]; rw [c_15_5]; rfl) | (have hW : f2_ (nb_ _ (nI (sn_ B))) (uk_ q 7) = 0 := (f2_b (nb_i c_5)).trans (by rw [c_15_6]; decide); rw [hW]; refine ⟨?_, oQ_0 rfl (oM_.rf _)⟩; rw [if_pos rfl]; simp only [tn_n (show a_ < 2147483648 by omega)]; rw [c_15_6]; rfl) | (have hW : f2_ (nb_ _ (nI (sn_ B))) (uk_ q 7) = 0 := (f2_b (nb_i c_5)).trans (by rw [c_15_7]; decide); rw [hW]; refine ⟨?_, oQ_0 rfl (oM_.rf _)⟩; rw [if_pos rfl]; simp only [tn_n (show a_ < 2147483648 by omega)]; rw [c_15_7]; first | exact (b1_t c_120).symm | exact (b1_f c_120).symm) | (have hW : f2_ (nb_ _ (nI (sn_ B))) (uk_ q 7) = -2 := (f2_b (nb_i c_5)).trans (uk_8 c_15_0 c_15_1 c_15_2 c_15_3 c_15_4 c_15_5 c_15_6 c_15_7); rw [hW]; exact ⟨(if_neg (by decide)).symm, oQ_n _ _⟩)

theorem okX5_isleOf : jok yX5_isleOf wsX5_isleOf cX5_isleOf 2 (some .int) 1 := ⟨⟨_, rfl⟩, by decide +kernel, by decide +kernel⟩
set_option maxHeartbeats 2000000 in
set_option maxRecDepth 100000 in
theorem qX5_isleOf (l : Launch) (D : va_G) (cI cB : ClassId) (r : Nat → Nat) (B : BayT) (M : MT) (q : Int32) (hI : bI_ B) : jMi D cI cB l yX5_isleOf wsX5_isleOf 2 [.ref (r 0), .int q] (mW cI r B M) (S := MT) (fun r u => r = (if uk_ q 2 = 0 then ioX_ B q else uk_ q 2) ∧ oQ_ M u (uk_ q 2)) (fun u => mW cI r B u) := by
  refine jMi.of (cc := cX5_isleOf) (maxL := 2) (ret := (some .int)) okX5_isleOf (Nat.le_of_ble_eq_true rfl) ?_
  intro p e s m below meth c ls A hx hb hr hts hown hlk hml hP hK hD hA hS hl
  replace hown : s.vm.findClass RX5 = some m.cls := hown
  replace hl : lv_has ls 2 [(0, .ref (r 0)), (1, .int q)] := hl
  have hn7 := hI.1
  have hinX5 : ∀ w ∈ wsX50, w ∈ wsX5_isleOf := by decide +kernel
  refine lv_iload_n hx hb dX5_isleOf_0 rfl (lv_at hl 1 rfl) ?_
  refine lv_if_ne (tgt := 11) hx hb dX5_isleOf_1 (by decide) (fun c_1 => ?_) (fun c_1 => ?_)
  · skip
    refine lv_iload_n hx hb dX5_isleOf_11 rfl (lv_at hl 1 rfl) ?_
    refine lv_iconst (v := 1) hx hb dX5_isleOf_12 (by decide) ?_
    refine lv_icmp_ne (tgt := 23) hx hb dX5_isleOf_13 (by decide) (fun c_13 => ?_) (fun c_13 => ?_)
    · skip
      refine lv_iload_n hx hb dX5_isleOf_23 rfl (lv_at hl 1 rfl) ?_
      refine lv_iconst (v := 2) hx hb dX5_isleOf_24 (by decide) ?_
      refine lv_icmp_ne (tgt := 35) hx hb dX5_isleOf_25 (by decide) (fun c_25 => ?_) (fun c_25 => ?_)
      · skip
        refine lv_aload_n hx hb dX5_isleOf_35 rfl (lv_at hl 0 rfl) ?_
        refine lv_bipush (v := (-2)) hx hb dX5_isleOf_36 (by decide) ?_
        refine kMiV hx hb hml hown hts hK hP hD hA hS gX5_isleOf_X5_no okX5_no (qX5_no l D cI cB r B M (-2) (Or.inr (Or.inl rfl))) [0, 1, 2, 3, 4, 5, 6, 7, 8, 9, 10, 11, 12, 13, 14, 15] rfl (by decide) (fun _ => mW_adr _ _ _ _ _ _) rfl rfl rfl (by decide) hl.1 rfl rfl (Nat.le_of_ble_eq_true rfl) dX5_isleOf_38 (by decide) (fun r_1 u_2 H locs hw_3 hP hD hS => ?_)
        replace hw_3 : r_1 = (-2) ∧ u_2 = (rfm_ M (-2)) := hw_3
        obtain ⟨hw_3a, hw_3b⟩ := hw_3
        subst r_1
        subst u_2
        replace hP : va_P D vwCl ([(r 0, .inr (5, [.ref (r 1), .ref (r 2), .ref (r 3), .ref (r 4), .ref (r 5), .ref (r 6), .int (nI (sn_ B)), .int (qt_ B), .int (il_ B), .int (pa_ B), .int (ho_ B), .int (dy_ B), .ref (r 13), .ref (r 14), .ref (r 15), .ref (r 16), .int (nI (mtn_ M)), .int (nI (mrd_ M)), .int (nI (msm_ M)), .ref (r 20), .int (mhi_ M), .int (mik_ M), .int (nI (mcu_ M)), .int (nI (mbk_ M)), .ref (r 25), .ref (r 26), .int (mlw_ M), .int (mhg_ M), .int (msl_ M), .ref (r 30), .int (nI (mrm_ M)), .ref (r 32), .int (mlo_ M)])), (r 1, .inl (cI, 7, .inl (rfx_ (mrf_ M) (-2)))), (r 2, .inl (cI, 7, .inl (kd_ B))), (r 3, .inl (cI, 7, .inl (fg_ B))), (r 4, .inl (cI, 7, .inl (pl_ B))), (r 5, .inl (cI, 7, .inl (pw_ B))), (r 6, .inl (cI, 7, .inl (jy_ B))), (r 13, .inl (cI, 96, .inl (mtp_ M))), (r 14, .inl (cI, 48, .inl (mlt_ M))), (r 15, .inl (cI, 48, .inl (mla_ M))), (r 16, .inl (cI, 144, .inl (mtd_ M))), (r 20, .inl (cI, 451, .inl (flatK (mkp_ M)))), (r 25, .inl (cI, 7, .inl (mof_ M))), (r 26, .inl (cI, 7, .inl (mfa_ M))), (r 30, .inl (cI, 12, .inl (mrw_ M))), (r 32, .inl (cI, 8, .inl (mhb_ M)))]) H := hP
        replace hD : va_D A ([(r 0, .inr (5, [.ref (r 1), .ref (r 2), .ref (r 3), .ref (r 4), .ref (r 5), .ref (r 6), .int (nI (sn_ B)), .int (qt_ B), .int (il_ B), .int (pa_ B), .int (ho_ B), .int (dy_ B), .ref (r 13), .ref (r 14), .ref (r 15), .ref (r 16), .int (nI (mtn_ M)), .int (nI (mrd_ M)), .int (nI (msm_ M)), .ref (r 20), .int (mhi_ M), .int (mik_ M), .int (nI (mcu_ M)), .int (nI (mbk_ M)), .ref (r 25), .ref (r 26), .int (mlw_ M), .int (mhg_ M), .int (msl_ M), .ref (r 30), .int (nI (mrm_ M)), .ref (r 32), .int (mlo_ M)])), (r 1, .inl (cI, 7, .inl (rfx_ (mrf_ M) (-2)))), (r 2, .inl (cI, 7, .inl (kd_ B))), (r 3, .inl (cI, 7, .inl (fg_ B))), (r 4, .inl (cI, 7, .inl (pl_ B))), (r 5, .inl (cI, 7, .inl (pw_ B))), (r 6, .inl (cI, 7, .inl (jy_ B))), (r 13, .inl (cI, 96, .inl (mtp_ M))), (r 14, .inl (cI, 48, .inl (mlt_ M))), (r 15, .inl (cI, 48, .inl (mla_ M))), (r 16, .inl (cI, 144, .inl (mtd_ M))), (r 20, .inl (cI, 451, .inl (flatK (mkp_ M)))), (r 25, .inl (cI, 7, .inl (mof_ M))), (r 26, .inl (cI, 7, .inl (mfa_ M))), (r 30, .inl (cI, 12, .inl (mrw_ M))), (r 32, .inl (cI, 8, .inl (mhb_ M)))]) := hD
        refine rMi hx hb hr hlk hS (rfm_ M (-2)) hP ?_ dX5_isleOf_41
        first | (have hW : uk_ q 2 = -2 := uk_3 c_1 c_13 c_25; rw [hW]; exact ⟨(if_neg (by decide)).symm, oQ_n _ _⟩) | (have hW : uk_ q 2 = 0 := by first | (rw [c_1]; decide) | (rw [c_13]; decide) | (rw [c_25]; decide); rw [hW]; refine ⟨?_, oQ_0 rfl ?_⟩; · (rw [if_pos rfl]; unfold ioX_; first | (rw [if_pos c_1]; done) | (rw [if_neg c_1, if_pos c_13]; done) | (rw [if_neg c_1, if_neg c_13]; done)); · (first | exact (oN_mk (by assumption)).m | exact oM_.rf _ | exact (oN_pp _ _).m | exact (oN_fo _ _ _ _).m | assumption | (apply oN_.m; assumption) | exact oM_.tr (by assumption) (by assumption)))
      · skip
        refine lv_aload_n hx hb dX5_isleOf_28 rfl (lv_at hl 0 rfl) ?_
        refine kSiV hx hb hml hown hts hK hP gX5_isleOf_X5_holder okX5_holder (qX5_holder l D cI cB r B M (by show sn_ B ≤ 7; omega)) [0, 1, 2, 3, 4, 5, 6, 7, 8, 9, 10, 11, 12, 13, 14, 15] rfl rfl rfl rfl (by decide) hl.1 rfl rfl (Nat.le_of_ble_eq_true rfl) dX5_isleOf_29 (by decide) (fun r_4 hr_5 => ?_)
        replace hr_5 : r_4 = oI_ (ow_ B) := hr_5
        subst r_4
        refine lv_goto (tgt := 41) hx hb dX5_isleOf_32 (by decide) ?_
        refine rMi hx hb hr hlk hS M hP ?_ dX5_isleOf_41
        first | (have hW : uk_ q 2 = -2 := uk_3 c_1 c_13 c_25; rw [hW]; exact ⟨(if_neg (by decide)).symm, oQ_n _ _⟩) | (have hW : uk_ q 2 = 0 := by first | (rw [c_1]; decide) | (rw [c_13]; decide) | (rw [c_25]; decide); rw [hW]; refine ⟨?_, oQ_0 rfl ?_⟩; · (rw [if_pos rfl]; unfold ioX_; first | (rw [if_pos c_1]; done) | (rw [if_neg c_1, if_pos c_13]; done) | (rw [if_neg c_1, if_neg c_13]; done)); · (first | exact (oN_mk (by assumption)).m | exact oM_.rf _ | exact (oN_pp _ _).m | exact (oN_fo _ _ _ _).m | assumption | (apply oN_.m; assumption) | exact oM_.tr (by assumption) (by assumption)))
    · skip
      refine lv_aload_n hx hb dX5_isleOf_16 rfl (lv_at hl 0 rfl) ?_
      refine va_get (ci := 5) (C := RX5) (T := TX5) (N := 33) hx hb hts hinX5 hown hK.1 hP 0 rfl rfl 9 (by decide) (hts _ (List.mem_of_getElem? (i := 2) rfl)) (fun _ h9 => h9) rfl dX5_isleOf_17 ?_
      refine lv_goto (tgt := 41) hx hb dX5_isleOf_20 (by decide) ?_
      refine rMi hx hb hr hlk hS M hP ?_ dX5_isleOf_41
      first | (have hW : uk_ q 2 = -2 := uk_3 c_1 c_13 c_25; rw [hW]; exact ⟨(if_neg (by decide)).symm, oQ_n _ _⟩) | (have hW : uk_ q 2 = 0 := by first | (rw [c_1]; decide) | (rw [c_13]; decide) | (rw [c_25]; decide); rw [hW]; refine ⟨?_, oQ_0 rfl ?_⟩; · (rw [if_pos rfl]; unfold ioX_; first | (rw [if_pos c_1]; done) | (rw [if_neg c_1, if_pos c_13]; done) | (rw [if_neg c_1, if_neg c_13]; done)); · (first | exact (oN_mk (by assumption)).m | exact oM_.rf _ | exact (oN_pp _ _).m | exact (oN_fo _ _ _ _).m | assumption | (apply oN_.m; assumption) | exact oM_.tr (by assumption) (by assumption)))
  · skip
    refine lv_aload_n hx hb dX5_isleOf_4 rfl (lv_at hl 0 rfl) ?_
    refine va_get (ci := 5) (C := RX5) (T := TX5) (N := 33) hx hb hts hinX5 hown hK.1 hP 0 rfl rfl 8 (by decide) (hts _ (List.mem_of_getElem? (i := 1) rfl)) (fun _ h9 => h9) rfl dX5_isleOf_5 ?_
    refine lv_goto (tgt := 41) hx hb dX5_isleOf_8 (by decide) ?_
    refine rMi hx hb hr hlk hS M hP ?_ dX5_isleOf_41
    first | (have hW : uk_ q 2 = -2 := uk_3 c_1 c_13 c_25; rw [hW]; exact ⟨(if_neg (by decide)).symm, oQ_n _ _⟩) | (have hW : uk_ q 2 = 0 := by first | (rw [c_1]; decide) | (rw [c_13]; decide) | (rw [c_25]; decide); rw [hW]; refine ⟨?_, oQ_0 rfl ?_⟩; · (rw [if_pos rfl]; unfold ioX_; first | (rw [if_pos c_1]; done) | (rw [if_neg c_1, if_pos c_13]; done) | (rw [if_neg c_1, if_neg c_13]; done)); · (first | exact (oN_mk (by assumption)).m | exact oM_.rf _ | exact (oN_pp _ _).m | exact (oN_fo _ _ _ _).m | assumption | (apply oN_.m; assumption) | exact oM_.tr (by assumption) (by assumption)))

theorem okX5_loudest : jok yX5_loudest wsX5_loudest cX5_loudest 4 (some .int) 2 := ⟨⟨_, rfl⟩, by decide +kernel, by decide +kernel⟩
set_option maxHeartbeats 2000000 in
set_option maxRecDepth 100000 in
theorem qX5_loudest (l : Launch) (D : va_G) (cI cB : ClassId) (r : Nat → Nat) (B : BayT) (M : MT) (h : Int32) (q : Int32) (hI : bI_ B) : jMi D cI cB l yX5_loudest wsX5_loudest 5 [.ref (r 0), .int h, .int q] (mW cI r B M) (S := MT) (fun r u => r = (if f2_ (nb_ h 24) (uk_ q 1) = 0 then (if q = 0 then oI_ (lt_ B h) else an_ B h) else f2_ (nb_ h 24) (uk_ q 1)) ∧ oQ_ M u (f2_ (nb_ h 24) (uk_ q 1))) (fun u => mW cI r B u) := by
  refine jMi.of (cc := cX5_loudest) (maxL := 4) (ret := (some .int)) okX5_loudest (Nat.le_of_ble_eq_true rfl) ?_
  intro p e s m below meth c ls A hx hb hr hts hown hlk hml hP hK hD hA hS hl
  replace hown : s.vm.findClass RX5 = some m.cls := hown
  replace hl : lv_has ls 4 [(0, .ref (r 0)), (1, .int h), (2, .int q)] := hl
  have hn7 := hI.1
  have jn_30 : ∀  (x3_30 : Int32) , (x3_30 = f2_ (nb_ h 24) (uk_ q 1)) → ∀ (H : Heap) (locs : List Loc), va_P D vwCl (mW cI r B M) H → va_D A (mW cI r B M) → va_S A s.heap H locs → ∀ ls : Array Slot, lv_has ls 4 [(3, .int x3_30), (0, .ref (r 0)), (1, .int h), (2, .int q)] → W p l e (jR 5) s m ([.ref (r 0), .int h, .int q] : List Value).toArray below meth c H locs 0 0 (MQ below (va_Qi (S := MT) (fun r u => r = (if f2_ (nb_ h 24) (uk_ q 1) = 0 then (if q = 0 then oI_ (lt_ B h) else an_ B h) else f2_ (nb_ h 24) (uk_ q 1)) ∧ oQ_ M u (f2_ (nb_ h 24) (uk_ q 1))) (fun u t => va_P D vwCl ((fun u => mW cI r B u) u) t.heap) A) ([.ref (r 0), .int h, .int q] : List Value).toArray s 0 0 A) (F0 m 30 ls []) := by
      intro x3_30 hx3_30 H locs hP hD hS ls hl
      subst x3_30
      replace hl : lv_has ls 4 [(3, .int (f2_ (nb_ h 24) (uk_ q 1))), (0, .ref (r 0)), (1, .int h), (2, .int q)] := hl
      replace hP : va_P D vwCl (mW cI r B M) H := hP
      replace hD : va_D A (mW cI r B M) := hD
      refine lv_iload_n hx hb dX5_loudest_30 rfl (lv_at hl 0 rfl) ?_
      refine lv_if_eq (tgt := 40) hx hb dX5_loudest_31 (by decide) (fun c_31 => ?_) (fun c_31 => ?_)
      · skip
        refine lv_iload_n hx hb dX5_loudest_40 rfl (lv_at hl 3 rfl) ?_
        refine lv_if_ne (tgt := 52) hx hb dX5_loudest_41 (by decide) (fun c_41 => ?_) (fun c_41 => ?_)
        · skip
          refine lv_aload_n hx hb dX5_loudest_52 rfl (lv_at hl 1 rfl) ?_
          refine lv_iload_n hx hb dX5_loudest_53 rfl (lv_at hl 2 rfl) ?_
          refine kSiV hx hb hml hown hts hK hP gX5_loudest_X5_allNoise okX5_allNoise (qX5_allNoise l D cI cB r B M h hI) [0, 1, 2, 3, 4, 5, 6, 7, 8, 9, 10, 11, 12, 13, 14, 15] rfl rfl rfl rfl (by decide) hl.1 rfl rfl (Nat.le_of_ble_eq_true rfl) dX5_loudest_54 (by decide) (fun r_1 hr_2 => ?_)
          replace hr_2 : r_1 = an_ B h := hr_2
          subst r_1
          refine rMi hx hb hr hlk hS M hP ?_ dX5_loudest_57
          first | exact ⟨(if_neg c_31).symm, oQ_n _ _⟩ | (refine ⟨?_, oQ_0 c_31 ?_⟩; · (rw [if_pos c_31]; first | (rw [if_pos c_41]; done) | (rw [if_neg c_41]; done) | (rw [if_pos c_41]; rfl) | (rw [if_neg c_41]; rfl)); · (first | exact (oN_mk (by assumption)).m | exact oM_.rf _ | exact (oN_pp _ _).m | exact (oN_fo _ _ _ _).m | assumption | (apply oN_.m; assumption) | exact oM_.tr (by assumption) (by assumption)))
        · skip
          refine lv_aload_n hx hb dX5_loudest_44 rfl (lv_at hl 1 rfl) ?_
          refine lv_iload_n hx hb dX5_loudest_45 rfl (lv_at hl 2 rfl) ?_
          refine kSiV hx hb hml hown hts hK hP gX5_loudest_X5_loudestAt okX5_loudestAt (qX5_loudestAt l D cI cB r B M h hI) [0, 1, 2, 3, 4, 5, 6, 7, 8, 9, 10, 11, 12, 13, 14, 15] rfl rfl rfl rfl (by decide) hl.1 rfl rfl (Nat.le_of_ble_eq_true rfl) dX5_loudest_46 (by decide) (fun r_3 hr_4 => ?_)
          replace hr_4 : r_3 = oI_ (lt_ B h) := hr_4
          subst r_3
          refine lv_goto (tgt := 57) hx hb dX5_loudest_49 (by decide) ?_
          refine rMi hx hb hr hlk hS M hP ?_ dX5_loudest_57
          first | exact ⟨(if_neg c_31).symm, oQ_n _ _⟩ | (refine ⟨?_, oQ_0 c_31 ?_⟩; · (rw [if_pos c_31]; first | (rw [if_pos c_41]; done) | (rw [if_neg c_41]; done) | (rw [if_pos c_41]; rfl) | (rw [if_neg c_41]; rfl)); · (first | exact (oN_mk (by assumption)).m | exact oM_.rf _ | exact (oN_pp _ _).m | exact (oN_fo _ _ _ _).m | assumption | (apply oN_.m; assumption) | exact oM_.tr (by assumption) (by assumption)))
      · skip
        refine lv_aload_n hx hb dX5_loudest_34 rfl (lv_at hl 1 rfl) ?_
        refine lv_iload_n hx hb dX5_loudest_35 rfl (lv_at hl 0 rfl) ?_
        refine kMiV hx hb hml hown hts hK hP hD hA hS gX5_loudest_X5_no okX5_no (qX5_no l D cI cB r B M (f2_ (nb_ h 24) (uk_ q 1)) (rc0_n (by first | exact rc0_wS _ _ | exact rc0_wSN _ _ _ | exact rc0_wSNW _ _ _ _ | exact rc0_wNW _ _ | exact rc0_wTh _ _ _ _ _ | exact rc0_wTr _ _ _ _ | exact rc0_nb _ _ | exact rc0_uk _ _ | exact rc0_ob _ _ _ | exact rc0_f2 (rc0_nb _ _) (rc0_nb _ _) | exact rc0_f2 (rc0_nb _ _) (rc0_uk _ _) | exact rc0_f2 (rc0_ob _ _ _) (rc0_uk _ _) | exact rc0_f2 (rc0_uk _ _) (rc0_f2 (rc0_uk _ _) (rc0_ob _ _ _))) c_31)) [0, 1, 2, 3, 4, 5, 6, 7, 8, 9, 10, 11, 12, 13, 14, 15] rfl (by decide) (fun _ => mW_adr _ _ _ _ _ _) rfl rfl rfl (by decide) hl.1 rfl rfl (Nat.le_of_ble_eq_true rfl) dX5_loudest_36 (by decide) (fun r_5 u_6 H locs hw_7 hP hD hS => ?_)
        replace hw_7 : r_5 = f2_ (nb_ h 24) (uk_ q 1) ∧ u_6 = (rfm_ M (f2_ (nb_ h 24) (uk_ q 1))) := hw_7
        obtain ⟨hw_7a, hw_7b⟩ := hw_7
        subst r_5
        subst u_6
        replace hP : va_P D vwCl ([(r 0, .inr (5, [.ref (r 1), .ref (r 2), .ref (r 3), .ref (r 4), .ref (r 5), .ref (r 6), .int (nI (sn_ B)), .int (qt_ B), .int (il_ B), .int (pa_ B), .int (ho_ B), .int (dy_ B), .ref (r 13), .ref (r 14), .ref (r 15), .ref (r 16), .int (nI (mtn_ M)), .int (nI (mrd_ M)), .int (nI (msm_ M)), .ref (r 20), .int (mhi_ M), .int (mik_ M), .int (nI (mcu_ M)), .int (nI (mbk_ M)), .ref (r 25), .ref (r 26), .int (mlw_ M), .int (mhg_ M), .int (msl_ M), .ref (r 30), .int (nI (mrm_ M)), .ref (r 32), .int (mlo_ M)])), (r 1, .inl (cI, 7, .inl (rfx_ (mrf_ M) (f2_ (nb_ h 24) (uk_ q 1))))), (r 2, .inl (cI, 7, .inl (kd_ B))), (r 3, .inl (cI, 7, .inl (fg_ B))), (r 4, .inl (cI, 7, .inl (pl_ B))), (r 5, .inl (cI, 7, .inl (pw_ B))), (r 6, .inl (cI, 7, .inl (jy_ B))), (r 13, .inl (cI, 96, .inl (mtp_ M))), (r 14, .inl (cI, 48, .inl (mlt_ M))), (r 15, .inl (cI, 48, .inl (mla_ M))), (r 16, .inl (cI, 144, .inl (mtd_ M))), (r 20, .inl (cI, 451, .inl (flatK (mkp_ M)))), (r 25, .inl (cI, 7, .inl (mof_ M))), (r 26, .inl (cI, 7, .inl (mfa_ M))), (r 30, .inl (cI, 12, .inl (mrw_ M))), (r 32, .inl (cI, 8, .inl (mhb_ M)))]) H := hP
        replace hD : va_D A ([(r 0, .inr (5, [.ref (r 1), .ref (r 2), .ref (r 3), .ref (r 4), .ref (r 5), .ref (r 6), .int (nI (sn_ B)), .int (qt_ B), .int (il_ B), .int (pa_ B), .int (ho_ B), .int (dy_ B), .ref (r 13), .ref (r 14), .ref (r 15), .ref (r 16), .int (nI (mtn_ M)), .int (nI (mrd_ M)), .int (nI (msm_ M)), .ref (r 20), .int (mhi_ M), .int (mik_ M), .int (nI (mcu_ M)), .int (nI (mbk_ M)), .ref (r 25), .ref (r 26), .int (mlw_ M), .int (mhg_ M), .int (msl_ M), .ref (r 30), .int (nI (mrm_ M)), .ref (r 32), .int (mlo_ M)])), (r 1, .inl (cI, 7, .inl (rfx_ (mrf_ M) (f2_ (nb_ h 24) (uk_ q 1))))), (r 2, .inl (cI, 7, .inl (kd_ B))), (r 3, .inl (cI, 7, .inl (fg_ B))), (r 4, .inl (cI, 7, .inl (pl_ B))), (r 5, .inl (cI, 7, .inl (pw_ B))), (r 6, .inl (cI, 7, .inl (jy_ B))), (r 13, .inl (cI, 96, .inl (mtp_ M))), (r 14, .inl (cI, 48, .inl (mlt_ M))), (r 15, .inl (cI, 48, .inl (mla_ M))), (r 16, .inl (cI, 144, .inl (mtd_ M))), (r 20, .inl (cI, 451, .inl (flatK (mkp_ M)))), (r 25, .inl (cI, 7, .inl (mof_ M))), (r 26, .inl (cI, 7, .inl (mfa_ M))), (r 30, .inl (cI, 12, .inl (mrw_ M))), (r 32, .inl (cI, 8, .inl (mhb_ M)))]) := hD
        refine rMi hx hb hr hlk hS (rfm_ M (f2_ (nb_ h 24) (uk_ q 1))) hP ?_ dX5_loudest_39
        first | exact ⟨(if_neg c_31).symm, oQ_n _ _⟩ | (refine ⟨?_, oQ_0 c_31 ?_⟩; · (rw [if_pos c_31]; first | (rw [if_pos c_41]; done) | (rw [if_neg c_41]; done) | (rw [if_pos c_41]; rfl) | (rw [if_neg c_41]; rfl)); · (first | exact (oN_mk (by assumption)).m | exact oM_.rf _ | exact (oN_pp _ _).m | exact (oN_fo _ _ _ _).m | assumption | (apply oN_.m; assumption) | exact oM_.tr (by assumption) (by assumption)))
  refine lv_iload_n hx hb dX5_loudest_0 rfl (lv_at hl 1 rfl) ?_
  refine lv_iconst (v := 0) hx hb dX5_loudest_1 (by decide) ?_
  refine lv_bipush (v := 23) hx hb dX5_loudest_2 (by decide) ?_
  refine kSiS hx hb hml hown hts hK hP gX5_loudest_X5_isIn okX5_isIn (qX5_isIn l D cI cB h 0 23 ) [] rfl (by decide) hl.1 rfl rfl (Nat.le_of_ble_eq_true rfl) dX5_loudest_4 (by decide) (fun r_8 hr_9 => ?_)
  replace hr_9 : r_8 = b1 (0 ≤ h ∧ h ≤ 23) := hr_9
  subst r_8
  refine lv_if_ne (tgt := 14) hx hb dX5_loudest_7 (by decide) (fun c_7 => ?_) (fun c_7 => ?_)
  · replace c_7 := b1_n c_7
    refine lv_iload_n hx hb dX5_loudest_14 rfl (lv_at hl 2 rfl) ?_
    refine lv_iconst (v := 0) hx hb dX5_loudest_15 (by decide) ?_
    refine lv_iconst (v := 1) hx hb dX5_loudest_16 (by decide) ?_
    refine kSiS hx hb hml hown hts hK hP gX5_loudest_X5_isIn okX5_isIn (qX5_isIn l D cI cB q 0 1 ) [] rfl (by decide) hl.1 rfl rfl (Nat.le_of_ble_eq_true rfl) dX5_loudest_17 (by decide) (fun r_10 hr_11 => ?_)
    replace hr_11 : r_10 = b1 (0 ≤ q ∧ q ≤ 1) := hr_11
    subst r_10
    refine lv_if_ne (tgt := 28) hx hb dX5_loudest_20 (by decide) (fun c_20 => ?_) (fun c_20 => ?_)
    · replace c_20 := b1_n c_20
      refine lv_iconst (v := 0) hx hb dX5_loudest_28 (by decide) ?_
      refine lv_istore_n (lv' := [(3, .int 0), (0, .ref (r 0)), (1, .int h), (2, .int q)]) hx hb dX5_loudest_29 rfl hl (by decide) rfl (fun ls hl => ?_)
      exact jn_30  0  (by first | exact ((f2_a (by rw [nb_o (fun z => c_7 (h23.mpr z))]; decide)).trans (nb_o (fun z => c_7 (h23.mpr z)))).symm | exact ((f2_b (nb_i (h23.mp c_7))).trans (uk_o c_20)).symm | exact ((f2_b (nb_i (h23.mp c_7))).trans (uk_i c_20)).symm)   _ _ hP hD hS ls (lv_sub hl [0, 1, 2, 3] rfl)
    · replace c_20 := b1_z c_20
      refine lv_bipush (v := (-2)) hx hb dX5_loudest_23 (by decide) ?_
      refine lv_goto (tgt := 29) hx hb dX5_loudest_25 (by decide) ?_
      refine lv_istore_n (lv' := [(3, .int (-2)), (0, .ref (r 0)), (1, .int h), (2, .int q)]) hx hb dX5_loudest_29 rfl hl (by decide) rfl (fun ls hl => ?_)
      exact jn_30  (-2)  (by first | exact ((f2_a (by rw [nb_o (fun z => c_7 (h23.mpr z))]; decide)).trans (nb_o (fun z => c_7 (h23.mpr z)))).symm | exact ((f2_b (nb_i (h23.mp c_7))).trans (uk_o c_20)).symm | exact ((f2_b (nb_i (h23.mp c_7))).trans (uk_i c_20)).symm)   _ _ hP hD hS ls (lv_sub hl [0, 1, 2, 3] rfl)
  · replace c_7 := b1_z c_7
    refine lv_iconst (v := (-1)) hx hb dX5_loudest_10 (by decide) ?_
    refine lv_goto (tgt := 29) hx hb dX5_loudest_11 (by decide) ?_
    refine lv_istore_n (lv' := [(3, .int (-1)), (0, .ref (r 0)), (1, .int h), (2, .int q)]) hx hb dX5_loudest_29 rfl hl (by decide) rfl (fun ls hl => ?_)
    exact jn_30  (-1)  (by first | exact ((f2_a (by rw [nb_o (fun z => c_7 (h23.mpr z))]; decide)).trans (nb_o (fun z => c_7 (h23.mpr z)))).symm | exact ((f2_b (nb_i (h23.mp c_7))).trans (uk_o c_20)).symm | exact ((f2_b (nb_i (h23.mp c_7))).trans (uk_i c_20)).symm)   _ _ hP hD hS ls (lv_sub hl [0, 1, 2, 3] rfl)

theorem okX5_behind : jok yX5_behind wsX5_behind cX5_behind 5 (some .int) 2 := ⟨⟨_, rfl⟩, by decide +kernel, by decide +kernel⟩
set_option maxHeartbeats 2000000 in
set_option maxRecDepth 100000 in
theorem qX5_behind (l : Launch) (D : va_G) (cI cB : ClassId) (r : Nat → Nat) (B : BayT) (M : MT) (v : Int32) (q : Int32) (hI : bI_ B) : jMi D cI cB l yX5_behind wsX5_behind 7 [.ref (r 0), .int v, .int q] (mW cI r B M) (S := MT) (fun r u => r = (if wNW_ v q = 0 then (if q = 0 then il_ (hs_ (tn_ v) B) else oI_ (ow_ (hs_ (tn_ v) B))) else wNW_ v q) ∧ oQ_ M u (wNW_ v q)) (fun u => mW cI r B u) := by
  refine jMi.of (cc := cX5_behind) (maxL := 5) (ret := (some .int)) okX5_behind (Nat.le_of_ble_eq_true rfl) ?_
  intro p e s m below meth c ls A hx hb hr hts hown hlk hml hP hK hD hA hS hl
  replace hown : s.vm.findClass RX5 = some m.cls := hown
  replace hl : lv_has ls 5 [(0, .ref (r 0)), (1, .int v), (2, .int q)] := hl
  have hn7 := hI.1
  have hinX5 : ∀ w ∈ wsX50, w ∈ wsX5_behind := by decide +kernel
  refine lv_iload_n hx hb dX5_behind_0 rfl (lv_at hl 1 rfl) ?_
  refine kSiS hx hb hml hown hts hK hP gX5_behind_X5_notHours okX5_notHours (qX5_notHours l D cI cB v ) [] rfl (by decide) hl.1 rfl rfl (Nat.le_of_ble_eq_true rfl) dX5_behind_1 (by decide) (fun r_1 hr_2 => ?_)
  replace hr_2 : r_1 = ob_ v 0 99 := hr_2
  subst r_1
  refine lv_istore_n (lv' := [(3, .int (ob_ v 0 99)), (0, .ref (r 0)), (1, .int v), (2, .int q)]) hx hb dX5_behind_4 rfl hl (by decide) rfl (fun ls hl => ?_)
  have jn_21 : ∀  (x3_21 : Int32) , (x3_21 = wNW_ v q) → ∀ (H : Heap) (locs : List Loc), va_P D vwCl (mW cI r B M) H → va_D A (mW cI r B M) → va_S A s.heap H locs → ∀ ls : Array Slot, lv_has ls 5 [(3, .int x3_21), (0, .ref (r 0)), (1, .int v), (2, .int q)] → W p l e (jR 7) s m ([.ref (r 0), .int v, .int q] : List Value).toArray below meth c H locs 0 0 (MQ below (va_Qi (S := MT) (fun r u => r = (if wNW_ v q = 0 then (if q = 0 then il_ (hs_ (tn_ v) B) else oI_ (ow_ (hs_ (tn_ v) B))) else wNW_ v q) ∧ oQ_ M u (wNW_ v q)) (fun u t => va_P D vwCl ((fun u => mW cI r B u) u) t.heap) A) ([.ref (r 0), .int v, .int q] : List Value).toArray s 0 0 A) (F0 m 21 ls []) := by
      intro x3_21 hx3_21 H locs hP hD hS ls hl
      subst x3_21
      replace hl : lv_has ls 5 [(3, .int (wNW_ v q)), (0, .ref (r 0)), (1, .int v), (2, .int q)] := hl
      replace hP : va_P D vwCl (mW cI r B M) H := hP
      replace hD : va_D A (mW cI r B M) := hD
      refine lv_iload_n hx hb dX5_behind_21 rfl (lv_at hl 0 rfl) ?_
      refine lv_if_eq (tgt := 31) hx hb dX5_behind_22 (by decide) (fun c_22 => ?_) (fun c_22 => ?_)
      · skip
        have w0 := c_22
        simp only [wS_, wSN_, wSNW_, wNW_, wTh_, wTr_, f2_0, nb_0, ob_0, uk_0, lo_0, hi_0] at w0
        obtain ⟨v_, hv_, rfl⟩ := pl_le (n := 99) (by decide) w0.1
        replace hl : lv_has ls 5 [(3, .int (wNW_ (nI v_) q)), (0, .ref (r 0)), (1, .int (nI v_)), (2, .int q)] := hl
        refine lv_aload_n hx hb dX5_behind_31 rfl (lv_at hl 1 rfl) ?_
        refine kMvV hx hb hml hown hts hK hP hD hA hS gX5_behind_X5_thinks okX5_thinks (qX5_thinksE l D cI cB r B M ) [0, 1, 2, 3, 4, 5, 6, 7, 8, 9, 10, 11, 12, 13, 14, 15] rfl (by decide) (fun _ => mW_adE rfl) rfl rfl rfl (by decide) hl.1 rfl rfl (Nat.le_of_ble_eq_true rfl) dX5_behind_32 (by decide) (fun u_4 H locs hw_5 hP hD hS => ?_)
        replace hP : va_P D vwCl ([(r 0, .inr (5, [.ref (r 1), .ref (r 2), .ref (r 3), .ref (r 4), .ref (r 5), .ref (r 6), .int (nI (sn_ B)), .int (qt_ B), .int (il_ B), .int (pa_ B), .int (ho_ B), .int (dy_ B), .ref (r 13), .ref (r 14), .ref (r 15), .ref (r 16), .int (nI (mtn_ M)), .int (nI (mrd_ M)), .int (nI (msm_ M)), .ref (r 20), .int (mhi_ M), .int (1), .int (nI (41 * 2 + 41)), .int (nI (mbk_ M)), .ref (r 25), .ref (r 26), .int (mlw_ M), .int (mhg_ M), .int (msl_ M), .ref (r 30), .int (nI (mrm_ M)), .ref (r 32), .int (mlo_ M)])), (r 1, .inl (cI, 7, .inl (mrf_ M))), (r 2, .inl (cI, 7, .inl (kd_ B))), (r 3, .inl (cI, 7, .inl (fg_ B))), (r 4, .inl (cI, 7, .inl (pl_ B))), (r 5, .inl (cI, 7, .inl (pw_ B))), (r 6, .inl (cI, 7, .inl (jy_ B))), (r 13, .inl (cI, 96, .inl (mtp_ M))), (r 14, .inl (cI, 48, .inl (mlt_ M))), (r 15, .inl (cI, 48, .inl (mla_ M))), (r 16, .inl (cI, 144, .inl (mtd_ M))), (r 20, .inl (cI, 451, .inl (flatK (va_up (mkp_ M) 2 B)))), (r 25, .inl (cI, 7, .inl (mof_ M))), (r 26, .inl (cI, 7, .inl (mfa_ M))), (r 30, .inl (cI, 12, .inl (mrw_ M))), (r 32, .inl (cI, 8, .inl (mhb_ M)))]) H := hP
        replace hD : va_D A ([(r 0, .inr (5, [.ref (r 1), .ref (r 2), .ref (r 3), .ref (r 4), .ref (r 5), .ref (r 6), .int (nI (sn_ B)), .int (qt_ B), .int (il_ B), .int (pa_ B), .int (ho_ B), .int (dy_ B), .ref (r 13), .ref (r 14), .ref (r 15), .ref (r 16), .int (nI (mtn_ M)), .int (nI (mrd_ M)), .int (nI (msm_ M)), .ref (r 20), .int (mhi_ M), .int (1), .int (nI (41 * 2 + 41)), .int (nI (mbk_ M)), .ref (r 25), .ref (r 26), .int (mlw_ M), .int (mhg_ M), .int (msl_ M), .ref (r 30), .int (nI (mrm_ M)), .ref (r 32), .int (mlo_ M)])), (r 1, .inl (cI, 7, .inl (mrf_ M))), (r 2, .inl (cI, 7, .inl (kd_ B))), (r 3, .inl (cI, 7, .inl (fg_ B))), (r 4, .inl (cI, 7, .inl (pl_ B))), (r 5, .inl (cI, 7, .inl (pw_ B))), (r 6, .inl (cI, 7, .inl (jy_ B))), (r 13, .inl (cI, 96, .inl (mtp_ M))), (r 14, .inl (cI, 48, .inl (mlt_ M))), (r 15, .inl (cI, 48, .inl (mla_ M))), (r 16, .inl (cI, 144, .inl (mtd_ M))), (r 20, .inl (cI, 451, .inl (flatK (va_up (mkp_ M) 2 B)))), (r 25, .inl (cI, 7, .inl (mof_ M))), (r 26, .inl (cI, 7, .inl (mfa_ M))), (r 30, .inl (cI, 12, .inl (mrw_ M))), (r 32, .inl (cI, 8, .inl (mhb_ M)))]) := hD
        refine lv_aload_n hx hb dX5_behind_35 rfl (lv_at hl 1 rfl) ?_
        refine lv_iload_n hx hb dX5_behind_36 rfl (lv_at hl 2 rfl) ?_
        refine kMvV hx hb hml hown hts hK hP hD hA hS gX5_behind_X5_goes okX5_goes (qX5_goes l D cI cB r B (mkM (mrf_ M) (mtp_ M) (mlt_ M) (mla_ M) (mtd_ M) (va_up (mkp_ M) 2 B) (mof_ M) (mfa_ M) (mrw_ M) (mhb_ M) (mtn_ M) (mrd_ M) (msm_ M) (41 * 2 + 41) (mbk_ M) (mrm_ M) (mhi_ M) 1 (mlw_ M) (mhg_ M) (msl_ M) (mlo_ M)) v_ hI (by omega)) [0, 1, 2, 3, 4, 5, 6, 7, 8, 9, 10, 11, 12, 13, 14, 15] rfl (by decide) (fun _ => mW_adr _ _ _ _ _ _) rfl rfl rfl (by decide) hl.1 rfl rfl (Nat.le_of_ble_eq_true rfl) dX5_behind_37 (by decide) (fun u_7 H locs hw_8 hP hD hS => ?_)
        replace hw_8 : u_7 = hs_ v_ B := hw_8
        subst u_7
        replace hP : va_P D vwCl ([(r 0, .inr (5, [.ref (r 1), .ref (r 2), .ref (r 3), .ref (r 4), .ref (r 5), .ref (r 6), .int (nI (sn_ (hs_ v_ B))), .int (qt_ (hs_ v_ B)), .int (il_ (hs_ v_ B)), .int (pa_ (hs_ v_ B)), .int (ho_ (hs_ v_ B)), .int (dy_ (hs_ v_ B)), .ref (r 13), .ref (r 14), .ref (r 15), .ref (r 16), .int (nI (mtn_ M)), .int (nI (mrd_ M)), .int (nI (msm_ M)), .ref (r 20), .int (mhi_ M), .int (1), .int (nI (41 * 2 + 41)), .int (nI (mbk_ M)), .ref (r 25), .ref (r 26), .int (mlw_ M), .int (mhg_ M), .int (msl_ M), .ref (r 30), .int (nI (mrm_ M)), .ref (r 32), .int (mlo_ M)])), (r 1, .inl (cI, 7, .inl (mrf_ M))), (r 2, .inl (cI, 7, .inl (kd_ (hs_ v_ B)))), (r 3, .inl (cI, 7, .inl (fg_ (hs_ v_ B)))), (r 4, .inl (cI, 7, .inl (pl_ (hs_ v_ B)))), (r 5, .inl (cI, 7, .inl (pw_ (hs_ v_ B)))), (r 6, .inl (cI, 7, .inl (jy_ (hs_ v_ B)))), (r 13, .inl (cI, 96, .inl (mtp_ M))), (r 14, .inl (cI, 48, .inl (mlt_ M))), (r 15, .inl (cI, 48, .inl (mla_ M))), (r 16, .inl (cI, 144, .inl (mtd_ M))), (r 20, .inl (cI, 451, .inl (flatK (va_up (mkp_ M) 2 B)))), (r 25, .inl (cI, 7, .inl (mof_ M))), (r 26, .inl (cI, 7, .inl (mfa_ M))), (r 30, .inl (cI, 12, .inl (mrw_ M))), (r 32, .inl (cI, 8, .inl (mhb_ M)))]) H := hP
        replace hD : va_D A ([(r 0, .inr (5, [.ref (r 1), .ref (r 2), .ref (r 3), .ref (r 4), .ref (r 5), .ref (r 6), .int (nI (sn_ (hs_ v_ B))), .int (qt_ (hs_ v_ B)), .int (il_ (hs_ v_ B)), .int (pa_ (hs_ v_ B)), .int (ho_ (hs_ v_ B)), .int (dy_ (hs_ v_ B)), .ref (r 13), .ref (r 14), .ref (r 15), .ref (r 16), .int (nI (mtn_ M)), .int (nI (mrd_ M)), .int (nI (msm_ M)), .ref (r 20), .int (mhi_ M), .int (1), .int (nI (41 * 2 + 41)), .int (nI (mbk_ M)), .ref (r 25), .ref (r 26), .int (mlw_ M), .int (mhg_ M), .int (msl_ M), .ref (r 30), .int (nI (mrm_ M)), .ref (r 32), .int (mlo_ M)])), (r 1, .inl (cI, 7, .inl (mrf_ M))), (r 2, .inl (cI, 7, .inl (kd_ (hs_ v_ B)))), (r 3, .inl (cI, 7, .inl (fg_ (hs_ v_ B)))), (r 4, .inl (cI, 7, .inl (pl_ (hs_ v_ B)))), (r 5, .inl (cI, 7, .inl (pw_ (hs_ v_ B)))), (r 6, .inl (cI, 7, .inl (jy_ (hs_ v_ B)))), (r 13, .inl (cI, 96, .inl (mtp_ M))), (r 14, .inl (cI, 48, .inl (mlt_ M))), (r 15, .inl (cI, 48, .inl (mla_ M))), (r 16, .inl (cI, 144, .inl (mtd_ M))), (r 20, .inl (cI, 451, .inl (flatK (va_up (mkp_ M) 2 B)))), (r 25, .inl (cI, 7, .inl (mof_ M))), (r 26, .inl (cI, 7, .inl (mfa_ M))), (r 30, .inl (cI, 12, .inl (mrw_ M))), (r 32, .inl (cI, 8, .inl (mhb_ M)))]) := hD
        refine lv_iload_n hx hb dX5_behind_40 rfl (lv_at hl 3 rfl) ?_
        refine lv_if_ne (tgt := 51) hx hb dX5_behind_41 (by decide) (fun c_41 => ?_) (fun c_41 => ?_)
        · skip
          refine lv_aload_n hx hb dX5_behind_51 rfl (lv_at hl 1 rfl) ?_
          refine kSiV hx hb hml hown hts hK hP gX5_behind_X5_holder okX5_holder (qX5_holder l D cI cB r (hs_ v_ B) (mkM (mrf_ M) (mtp_ M) (mlt_ M) (mla_ M) (mtd_ M) (va_up (mkp_ M) 2 B) (mof_ M) (mfa_ M) (mrw_ M) (mhb_ M) (mtn_ M) (mrd_ M) (msm_ M) (41 * 2 + 41) (mbk_ M) (mrm_ M) (mhi_ M) 1 (mlw_ M) (mhg_ M) (msl_ M) (mlo_ M)) (by rw [sn_hs]; exact hn7)) [0, 1, 2, 3, 4, 5, 6, 7, 8, 9, 10, 11, 12, 13, 14, 15] rfl rfl rfl rfl (by decide) hl.1 rfl rfl (Nat.le_of_ble_eq_true rfl) dX5_behind_52 (by decide) (fun r_9 hr_10 => ?_)
          replace hr_10 : r_9 = oI_ (ow_ (hs_ v_ B)) := hr_10
          subst r_9
          refine lv_istore (lv' := [(4, .int (oI_ (ow_ (hs_ v_ B)))), (3, .int (wNW_ (nI v_) q)), (0, .ref (r 0)), (1, .int (nI v_)), (2, .int q)]) hx hb dX5_behind_55 hl (by decide) rfl (fun ls hl => ?_)
          refine lv_aload_n hx hb dX5_behind_57 rfl (lv_at hl 2 rfl) ?_
          refine kMvV hx hb hml hown hts hK hP hD hA hS gX5_behind_X5_forgets okX5_forgets (qX5_forgetsE l D cI cB r (hs_ v_ B) (mkM (mrf_ M) (mtp_ M) (mlt_ M) (mla_ M) (mtd_ M) (va_up (mkp_ M) 2 B) (mof_ M) (mfa_ M) (mrw_ M) (mhb_ M) (mtn_ M) (mrd_ M) (msm_ M) (41 * 2 + 41) (mbk_ M) (mrm_ M) (mhi_ M) 1 (mlw_ M) (mhg_ M) (msl_ M) (mlo_ M)) ) [0, 1, 2, 3, 4, 5, 6, 7, 8, 9, 10, 11, 12, 13, 14, 15] rfl (by decide) (fun _ => mW_adE rfl) rfl rfl rfl (by decide) hl.1 rfl rfl (Nat.le_of_ble_eq_true rfl) dX5_behind_58 (by decide) (fun u_12 H locs hw_13 hP hD hS => ?_)
          replace hP : va_P D vwCl ([(r 0, .inr (5, [.ref (r 1), .ref (r 2), .ref (r 3), .ref (r 4), .ref (r 5), .ref (r 6), .int (nI (sn_ B)), .int (qt_ B), .int (il_ B), .int (pa_ B), .int (ho_ B), .int (dy_ B), .ref (r 13), .ref (r 14), .ref (r 15), .ref (r 16), .int (nI (mtn_ M)), .int (nI (mrd_ M)), .int (nI (msm_ M)), .ref (r 20), .int (mhi_ M), .int (0), .int (nI (41 * 2 + 41)), .int (nI (mbk_ M)), .ref (r 25), .ref (r 26), .int (mlw_ M), .int (mhg_ M), .int (msl_ M), .ref (r 30), .int (nI (mrm_ M)), .ref (r 32), .int (mlo_ M)])), (r 1, .inl (cI, 7, .inl (mrf_ M))), (r 2, .inl (cI, 7, .inl (kd_ B))), (r 3, .inl (cI, 7, .inl (fg_ B))), (r 4, .inl (cI, 7, .inl (pl_ B))), (r 5, .inl (cI, 7, .inl (pw_ B))), (r 6, .inl (cI, 7, .inl (jy_ B))), (r 13, .inl (cI, 96, .inl (mtp_ M))), (r 14, .inl (cI, 48, .inl (mlt_ M))), (r 15, .inl (cI, 48, .inl (mla_ M))), (r 16, .inl (cI, 144, .inl (mtd_ M))), (r 20, .inl (cI, 451, .inl (flatK (va_up (mkp_ M) 2 B)))), (r 25, .inl (cI, 7, .inl (mof_ M))), (r 26, .inl (cI, 7, .inl (mfa_ M))), (r 30, .inl (cI, 12, .inl (mrw_ M))), (r 32, .inl (cI, 8, .inl (mhb_ M)))]) H := hP
          replace hD : va_D A ([(r 0, .inr (5, [.ref (r 1), .ref (r 2), .ref (r 3), .ref (r 4), .ref (r 5), .ref (r 6), .int (nI (sn_ B)), .int (qt_ B), .int (il_ B), .int (pa_ B), .int (ho_ B), .int (dy_ B), .ref (r 13), .ref (r 14), .ref (r 15), .ref (r 16), .int (nI (mtn_ M)), .int (nI (mrd_ M)), .int (nI (msm_ M)), .ref (r 20), .int (mhi_ M), .int (0), .int (nI (41 * 2 + 41)), .int (nI (mbk_ M)), .ref (r 25), .ref (r 26), .int (mlw_ M), .int (mhg_ M), .int (msl_ M), .ref (r 30), .int (nI (mrm_ M)), .ref (r 32), .int (mlo_ M)])), (r 1, .inl (cI, 7, .inl (mrf_ M))), (r 2, .inl (cI, 7, .inl (kd_ B))), (r 3, .inl (cI, 7, .inl (fg_ B))), (r 4, .inl (cI, 7, .inl (pl_ B))), (r 5, .inl (cI, 7, .inl (pw_ B))), (r 6, .inl (cI, 7, .inl (jy_ B))), (r 13, .inl (cI, 96, .inl (mtp_ M))), (r 14, .inl (cI, 48, .inl (mlt_ M))), (r 15, .inl (cI, 48, .inl (mla_ M))), (r 16, .inl (cI, 144, .inl (mtd_ M))), (r 20, .inl (cI, 451, .inl (flatK (va_up (mkp_ M) 2 B)))), (r 25, .inl (cI, 7, .inl (mof_ M))), (r 26, .inl (cI, 7, .inl (mfa_ M))), (r 30, .inl (cI, 12, .inl (mrw_ M))), (r 32, .inl (cI, 8, .inl (mhb_ M)))]) := hD
          refine lv_iload hx hb dX5_behind_61 (lv_at hl 0 rfl) ?_
          refine rMi hx hb hr hlk hS (mkM (mrf_ M) (mtp_ M) (mlt_ M) (mla_ M) (mtd_ M) (va_up (mkp_ M) 2 B) (mof_ M) (mfa_ M) (mrw_ M) (mhb_ M) (mtn_ M) (mrd_ M) (msm_ M) (41 * 2 + 41) (mbk_ M) (mrm_ M) (mhi_ M) 0 (mlw_ M) (mhg_ M) (msl_ M) (mlo_ M)) hP ?_ dX5_behind_63
          first | exact ⟨(if_neg c_22).symm, oQ_n _ _⟩ | (refine ⟨?_, oQ_0 c_22 ?_⟩; · (rw [if_pos c_22]; simp only [tn_n (show v_ < 2147483648 by omega)]; first | (rw [if_pos c_41]; done) | (rw [if_neg c_41]; done) | (rw [if_pos c_41]; rfl) | (rw [if_neg c_41]; rfl)); · (first | exact (oN_mk (by assumption)).m | exact oM_.rf _ | exact (oN_pp _ _).m | exact (oN_fo _ _ _ _).m | assumption | (apply oN_.m; assumption) | exact oM_.tr (by assumption) (by assumption)))
        · skip
          refine lv_aload_n hx hb dX5_behind_44 rfl (lv_at hl 1 rfl) ?_
          refine va_get (ci := 5) (C := RX5) (T := TX5) (N := 33) hx hb hts hinX5 hown hK.1 hP 0 rfl rfl 8 (by decide) (hts _ (List.mem_of_getElem? (i := 1) rfl)) (fun _ h9 => h9) rfl dX5_behind_45 ?_
          refine lv_goto (tgt := 55) hx hb dX5_behind_48 (by decide) ?_
          refine lv_istore (lv' := [(4, .int (il_ (hs_ v_ B))), (3, .int (wNW_ (nI v_) q)), (0, .ref (r 0)), (1, .int (nI v_)), (2, .int q)]) hx hb dX5_behind_55 hl (by decide) rfl (fun ls hl => ?_)
          refine lv_aload_n hx hb dX5_behind_57 rfl (lv_at hl 2 rfl) ?_
          refine kMvV hx hb hml hown hts hK hP hD hA hS gX5_behind_X5_forgets okX5_forgets (qX5_forgetsE l D cI cB r (hs_ v_ B) (mkM (mrf_ M) (mtp_ M) (mlt_ M) (mla_ M) (mtd_ M) (va_up (mkp_ M) 2 B) (mof_ M) (mfa_ M) (mrw_ M) (mhb_ M) (mtn_ M) (mrd_ M) (msm_ M) (41 * 2 + 41) (mbk_ M) (mrm_ M) (mhi_ M) 1 (mlw_ M) (mhg_ M) (msl_ M) (mlo_ M)) ) [0, 1, 2, 3, 4, 5, 6, 7, 8, 9, 10, 11, 12, 13, 14, 15] rfl (by decide) (fun _ => mW_adE rfl) rfl rfl rfl (by decide) hl.1 rfl rfl (Nat.le_of_ble_eq_true rfl) dX5_behind_58 (by decide) (fun u_15 H locs hw_16 hP hD hS => ?_)
          replace hP : va_P D vwCl ([(r 0, .inr (5, [.ref (r 1), .ref (r 2), .ref (r 3), .ref (r 4), .ref (r 5), .ref (r 6), .int (nI (sn_ B)), .int (qt_ B), .int (il_ B), .int (pa_ B), .int (ho_ B), .int (dy_ B), .ref (r 13), .ref (r 14), .ref (r 15), .ref (r 16), .int (nI (mtn_ M)), .int (nI (mrd_ M)), .int (nI (msm_ M)), .ref (r 20), .int (mhi_ M), .int (0), .int (nI (41 * 2 + 41)), .int (nI (mbk_ M)), .ref (r 25), .ref (r 26), .int (mlw_ M), .int (mhg_ M), .int (msl_ M), .ref (r 30), .int (nI (mrm_ M)), .ref (r 32), .int (mlo_ M)])), (r 1, .inl (cI, 7, .inl (mrf_ M))), (r 2, .inl (cI, 7, .inl (kd_ B))), (r 3, .inl (cI, 7, .inl (fg_ B))), (r 4, .inl (cI, 7, .inl (pl_ B))), (r 5, .inl (cI, 7, .inl (pw_ B))), (r 6, .inl (cI, 7, .inl (jy_ B))), (r 13, .inl (cI, 96, .inl (mtp_ M))), (r 14, .inl (cI, 48, .inl (mlt_ M))), (r 15, .inl (cI, 48, .inl (mla_ M))), (r 16, .inl (cI, 144, .inl (mtd_ M))), (r 20, .inl (cI, 451, .inl (flatK (va_up (mkp_ M) 2 B)))), (r 25, .inl (cI, 7, .inl (mof_ M))), (r 26, .inl (cI, 7, .inl (mfa_ M))), (r 30, .inl (cI, 12, .inl (mrw_ M))), (r 32, .inl (cI, 8, .inl (mhb_ M)))]) H := hP
          replace hD : va_D A ([(r 0, .inr (5, [.ref (r 1), .ref (r 2), .ref (r 3), .ref (r 4), .ref (r 5), .ref (r 6), .int (nI (sn_ B)), .int (qt_ B), .int (il_ B), .int (pa_ B), .int (ho_ B), .int (dy_ B), .ref (r 13), .ref (r 14), .ref (r 15), .ref (r 16), .int (nI (mtn_ M)), .int (nI (mrd_ M)), .int (nI (msm_ M)), .ref (r 20), .int (mhi_ M), .int (0), .int (nI (41 * 2 + 41)), .int (nI (mbk_ M)), .ref (r 25), .ref (r 26), .int (mlw_ M), .int (mhg_ M), .int (msl_ M), .ref (r 30), .int (nI (mrm_ M)), .ref (r 32), .int (mlo_ M)])), (r 1, .inl (cI, 7, .inl (mrf_ M))), (r 2, .inl (cI, 7, .inl (kd_ B))), (r 3, .inl (cI, 7, .inl (fg_ B))), (r 4, .inl (cI, 7, .inl (pl_ B))), (r 5, .inl (cI, 7, .inl (pw_ B))), (r 6, .inl (cI, 7, .inl (jy_ B))), (r 13, .inl (cI, 96, .inl (mtp_ M))), (r 14, .inl (cI, 48, .inl (mlt_ M))), (r 15, .inl (cI, 48, .inl (mla_ M))), (r 16, .inl (cI, 144, .inl (mtd_ M))), (r 20, .inl (cI, 451, .inl (flatK (va_up (mkp_ M) 2 B)))), (r 25, .inl (cI, 7, .inl (mof_ M))), (r 26, .inl (cI, 7, .inl (mfa_ M))), (r 30, .inl (cI, 12, .inl (mrw_ M))), (r 32, .inl (cI, 8, .inl (mhb_ M)))]) := hD
          refine lv_iload hx hb dX5_behind_61 (lv_at hl 0 rfl) ?_
          refine rMi hx hb hr hlk hS (mkM (mrf_ M) (mtp_ M) (mlt_ M) (mla_ M) (mtd_ M) (va_up (mkp_ M) 2 B) (mof_ M) (mfa_ M) (mrw_ M) (mhb_ M) (mtn_ M) (mrd_ M) (msm_ M) (41 * 2 + 41) (mbk_ M) (mrm_ M) (mhi_ M) 0 (mlw_ M) (mhg_ M) (msl_ M) (mlo_ M)) hP ?_ dX5_behind_63
          first | exact ⟨(if_neg c_22).symm, oQ_n _ _⟩ | (refine ⟨?_, oQ_0 c_22 ?_⟩; · (rw [if_pos c_22]; simp only [tn_n (show v_ < 2147483648 by omega)]; first | (rw [if_pos c_41]; done) | (rw [if_neg c_41]; done) | (rw [if_pos c_41]; rfl) | (rw [if_neg c_41]; rfl)); · (first | exact (oN_mk (by assumption)).m | exact oM_.rf _ | exact (oN_pp _ _).m | exact (oN_fo _ _ _ _).m | assumption | (apply oN_.m; assumption) | exact oM_.tr (by assumption) (by assumption)))
      · skip
        refine lv_aload_n hx hb dX5_behind_25 rfl (lv_at hl 1 rfl) ?_
        refine lv_iload_n hx hb dX5_behind_26 rfl (lv_at hl 0 rfl) ?_
        refine kMiV hx hb hml hown hts hK hP hD hA hS gX5_behind_X5_no okX5_no (qX5_no l D cI cB r B M (wNW_ v q) (rc0_n (by first | exact rc0_wS _ _ | exact rc0_wSN _ _ _ | exact rc0_wSNW _ _ _ _ | exact rc0_wNW _ _ | exact rc0_wTh _ _ _ _ _ | exact rc0_wTr _ _ _ _ | exact rc0_nb _ _ | exact rc0_uk _ _ | exact rc0_ob _ _ _ | exact rc0_f2 (rc0_nb _ _) (rc0_nb _ _) | exact rc0_f2 (rc0_nb _ _) (rc0_uk _ _) | exact rc0_f2 (rc0_ob _ _ _) (rc0_uk _ _) | exact rc0_f2 (rc0_uk _ _) (rc0_f2 (rc0_uk _ _) (rc0_ob _ _ _))) c_22)) [0, 1, 2, 3, 4, 5, 6, 7, 8, 9, 10, 11, 12, 13, 14, 15] rfl (by decide) (fun _ => mW_adr _ _ _ _ _ _) rfl rfl rfl (by decide) hl.1 rfl rfl (Nat.le_of_ble_eq_true rfl) dX5_behind_27 (by decide) (fun r_17 u_18 H locs hw_19 hP hD hS => ?_)
        replace hw_19 : r_17 = wNW_ v q ∧ u_18 = (rfm_ M (wNW_ v q)) := hw_19
        obtain ⟨hw_19a, hw_19b⟩ := hw_19
        subst r_17
        subst u_18
        replace hP : va_P D vwCl ([(r 0, .inr (5, [.ref (r 1), .ref (r 2), .ref (r 3), .ref (r 4), .ref (r 5), .ref (r 6), .int (nI (sn_ B)), .int (qt_ B), .int (il_ B), .int (pa_ B), .int (ho_ B), .int (dy_ B), .ref (r 13), .ref (r 14), .ref (r 15), .ref (r 16), .int (nI (mtn_ M)), .int (nI (mrd_ M)), .int (nI (msm_ M)), .ref (r 20), .int (mhi_ M), .int (mik_ M), .int (nI (mcu_ M)), .int (nI (mbk_ M)), .ref (r 25), .ref (r 26), .int (mlw_ M), .int (mhg_ M), .int (msl_ M), .ref (r 30), .int (nI (mrm_ M)), .ref (r 32), .int (mlo_ M)])), (r 1, .inl (cI, 7, .inl (rfx_ (mrf_ M) (wNW_ v q)))), (r 2, .inl (cI, 7, .inl (kd_ B))), (r 3, .inl (cI, 7, .inl (fg_ B))), (r 4, .inl (cI, 7, .inl (pl_ B))), (r 5, .inl (cI, 7, .inl (pw_ B))), (r 6, .inl (cI, 7, .inl (jy_ B))), (r 13, .inl (cI, 96, .inl (mtp_ M))), (r 14, .inl (cI, 48, .inl (mlt_ M))), (r 15, .inl (cI, 48, .inl (mla_ M))), (r 16, .inl (cI, 144, .inl (mtd_ M))), (r 20, .inl (cI, 451, .inl (flatK (mkp_ M)))), (r 25, .inl (cI, 7, .inl (mof_ M))), (r 26, .inl (cI, 7, .inl (mfa_ M))), (r 30, .inl (cI, 12, .inl (mrw_ M))), (r 32, .inl (cI, 8, .inl (mhb_ M)))]) H := hP
        replace hD : va_D A ([(r 0, .inr (5, [.ref (r 1), .ref (r 2), .ref (r 3), .ref (r 4), .ref (r 5), .ref (r 6), .int (nI (sn_ B)), .int (qt_ B), .int (il_ B), .int (pa_ B), .int (ho_ B), .int (dy_ B), .ref (r 13), .ref (r 14), .ref (r 15), .ref (r 16), .int (nI (mtn_ M)), .int (nI (mrd_ M)), .int (nI (msm_ M)), .ref (r 20), .int (mhi_ M), .int (mik_ M), .int (nI (mcu_ M)), .int (nI (mbk_ M)), .ref (r 25), .ref (r 26), .int (mlw_ M), .int (mhg_ M), .int (msl_ M), .ref (r 30), .int (nI (mrm_ M)), .ref (r 32), .int (mlo_ M)])), (r 1, .inl (cI, 7, .inl (rfx_ (mrf_ M) (wNW_ v q)))), (r 2, .inl (cI, 7, .inl (kd_ B))), (r 3, .inl (cI, 7, .inl (fg_ B))), (r 4, .inl (cI, 7, .inl (pl_ B))), (r 5, .inl (cI, 7, .inl (pw_ B))), (r 6, .inl (cI, 7, .inl (jy_ B))), (r 13, .inl (cI, 96, .inl (mtp_ M))), (r 14, .inl (cI, 48, .inl (mlt_ M))), (r 15, .inl (cI, 48, .inl (mla_ M))), (r 16, .inl (cI, 144, .inl (mtd_ M))), (r 20, .inl (cI, 451, .inl (flatK (mkp_ M)))), (r 25, .inl (cI, 7, .inl (mof_ M))), (r 26, .inl (cI, 7, .inl (mfa_ M))), (r 30, .inl (cI, 12, .inl (mrw_ M))), (r 32, .inl (cI, 8, .inl (mhb_ M)))]) := hD
        refine rMi hx hb hr hlk hS (rfm_ M (wNW_ v q)) hP ?_ dX5_behind_30
        first | exact ⟨(if_neg c_22).symm, oQ_n _ _⟩ | (refine ⟨?_, oQ_0 c_22 ?_⟩; · (rw [if_pos c_22]; simp only [tn_n (show v_ < 2147483648 by omega)]; first | (rw [if_pos c_41]; done) | (rw [if_neg c_41]; done) | (rw [if_pos c_41]; rfl) | (rw [if_neg c_41]; rfl)); · (first | exact (oN_mk (by assumption)).m | exact oM_.rf _ | exact (oN_pp _ _).m | exact (oN_fo _ _ _ _).m | assumption | (apply oN_.m; assumption) | exact oM_.tr (by assumption) (by assumption)))
  refine lv_iload_n hx hb dX5_behind_5 rfl (lv_at hl 0 rfl) ?_
  refine lv_if_ne (tgt := 21) hx hb dX5_behind_6 (by decide) (fun c_6 => ?_) (fun c_6 => ?_)
  · skip
    exact jn_21  (ob_ v 0 99)  (by first | exact (f2_a c_6).symm | exact c_6.trans ((f2_b c_6).trans (uk_i c_15)).symm | exact ((f2_b c_6).trans (uk_o c_15)).symm)   _ _ hP hD hS ls (lv_sub hl [0, 1, 2, 3] rfl)
  · skip
    refine lv_iload_n hx hb dX5_behind_9 rfl (lv_at hl 3 rfl) ?_
    refine lv_iconst (v := 0) hx hb dX5_behind_10 (by decide) ?_
    refine lv_iconst (v := 1) hx hb dX5_behind_11 (by decide) ?_
    refine kSiS hx hb hml hown hts hK hP gX5_behind_X5_isIn okX5_isIn (qX5_isIn l D cI cB q 0 1 ) [] rfl (by decide) hl.1 rfl rfl (Nat.le_of_ble_eq_true rfl) dX5_behind_12 (by decide) (fun r_20 hr_21 => ?_)
    replace hr_21 : r_20 = b1 (0 ≤ q ∧ q ≤ 1) := hr_21
    subst r_20
    refine lv_if_ne (tgt := 21) hx hb dX5_behind_15 (by decide) (fun c_15 => ?_) (fun c_15 => ?_)
    · replace c_15 := b1_n c_15
      exact jn_21  (ob_ v 0 99)  (by first | exact (f2_a c_6).symm | exact c_6.trans ((f2_b c_6).trans (uk_i c_15)).symm | exact ((f2_b c_6).trans (uk_o c_15)).symm)   _ _ hP hD hS ls (lv_sub hl [0, 1, 2, 3] rfl)
    · replace c_15 := b1_z c_15
      refine lv_bipush (v := (-2)) hx hb dX5_behind_18 (by decide) ?_
      refine lv_istore_n (lv' := [(3, .int (-2)), (0, .ref (r 0)), (1, .int v), (2, .int q)]) hx hb dX5_behind_20 rfl hl (by decide) rfl (fun ls hl => ?_)
      exact jn_21  (-2)  (by first | exact (f2_a c_6).symm | exact c_6.trans ((f2_b c_6).trans (uk_i c_15)).symm | exact ((f2_b c_6).trans (uk_o c_15)).symm)   _ _ hP hD hS ls (lv_sub hl [0, 1, 2, 3] rfl)

theorem okX5_shoreBehind : jok yX5_shoreBehind wsX5_shoreBehind cX5_shoreBehind 6 (some .int) 3 := ⟨⟨_, rfl⟩, by decide +kernel, by decide +kernel⟩
set_option maxHeartbeats 2000000 in
set_option maxRecDepth 100000 in
theorem qX5_shoreBehind (l : Launch) (D : va_G) (cI cB : ClassId) (r : Nat → Nat) (B : BayT) (M : MT) (a : Int32) (v : Int32) (q : Int32) (hI : bI_ B) : jMi D cI cB l yX5_shoreBehind wsX5_shoreBehind 7 [.ref (r 0), .int a, .int v, .int q] (mW cI r B M) (S := MT) (fun r u => r = (if wSNW_ (sn_ B) a v q = 0 then (if q = 0 then jy_ (hs_ (tn_ v) B) (tn_ a) else pw_ (hs_ (tn_ v) B) (tn_ a)) else wSNW_ (sn_ B) a v q) ∧ oQ_ M u (wSNW_ (sn_ B) a v q)) (fun u => mW cI r B u) := by
  refine jMi.of (cc := cX5_shoreBehind) (maxL := 6) (ret := (some .int)) okX5_shoreBehind (Nat.le_of_ble_eq_true rfl) ?_
  intro p e s m below meth c ls A hx hb hr hts hown hlk hml hP hK hD hA hS hl
  replace hown : s.vm.findClass RX5 = some m.cls := hown
  replace hl : lv_has ls 6 [(0, .ref (r 0)), (1, .int a), (2, .int v), (3, .int q)] := hl
  have hn7 := hI.1
  have hinX5 : ∀ w ∈ wsX50, w ∈ wsX5_shoreBehind := by decide +kernel
  have jn_18 : ∀  (x4_18 : Int32) , (x4_18 = wSN_ (sn_ B) a v) → ∀ (H : Heap) (locs : List Loc), va_P D vwCl (mW cI r B M) H → va_D A (mW cI r B M) → va_S A s.heap H locs → ∀ ls : Array Slot, lv_has ls 6 [(4, .int x4_18), (0, .ref (r 0)), (1, .int a), (2, .int v), (3, .int q)] → W p l e (jR 7) s m ([.ref (r 0), .int a, .int v, .int q] : List Value).toArray below meth c H locs 0 0 (MQ below (va_Qi (S := MT) (fun r u => r = (if wSNW_ (sn_ B) a v q = 0 then (if q = 0 then jy_ (hs_ (tn_ v) B) (tn_ a) else pw_ (hs_ (tn_ v) B) (tn_ a)) else wSNW_ (sn_ B) a v q) ∧ oQ_ M u (wSNW_ (sn_ B) a v q)) (fun u t => va_P D vwCl ((fun u => mW cI r B u) u) t.heap) A) ([.ref (r 0), .int a, .int v, .int q] : List Value).toArray s 0 0 A) (F0 m 18 ls []) := by
      intro x4_18 hx4_18 H locs hP hD hS ls hl
      subst x4_18
      replace hl : lv_has ls 6 [(4, .int (wSN_ (sn_ B) a v)), (0, .ref (r 0)), (1, .int a), (2, .int v), (3, .int q)] := hl
      replace hP : va_P D vwCl (mW cI r B M) H := hP
      replace hD : va_D A (mW cI r B M) := hD
      have jn_36 : ∀  (x4_36 : Int32) , (x4_36 = wSNW_ (sn_ B) a v q) → ∀ (H : Heap) (locs : List Loc), va_P D vwCl (mW cI r B M) H → va_D A (mW cI r B M) → va_S A s.heap H locs → ∀ ls : Array Slot, lv_has ls 6 [(4, .int x4_36), (0, .ref (r 0)), (1, .int a), (2, .int v), (3, .int q)] → W p l e (jR 7) s m ([.ref (r 0), .int a, .int v, .int q] : List Value).toArray below meth c H locs 0 0 (MQ below (va_Qi (S := MT) (fun r u => r = (if wSNW_ (sn_ B) a v q = 0 then (if q = 0 then jy_ (hs_ (tn_ v) B) (tn_ a) else pw_ (hs_ (tn_ v) B) (tn_ a)) else wSNW_ (sn_ B) a v q) ∧ oQ_ M u (wSNW_ (sn_ B) a v q)) (fun u t => va_P D vwCl ((fun u => mW cI r B u) u) t.heap) A) ([.ref (r 0), .int a, .int v, .int q] : List Value).toArray s 0 0 A) (F0 m 36 ls []) := by
          intro x4_36 hx4_36 H locs hP hD hS ls hl
          subst x4_36
          replace hl : lv_has ls 6 [(4, .int (wSNW_ (sn_ B) a v q)), (0, .ref (r 0)), (1, .int a), (2, .int v), (3, .int q)] := hl
          replace hP : va_P D vwCl (mW cI r B M) H := hP
          replace hD : va_D A (mW cI r B M) := hD
          refine lv_iload hx hb dX5_shoreBehind_36 (lv_at hl 0 rfl) ?_
          refine lv_if_eq (tgt := 48) hx hb dX5_shoreBehind_38 (by decide) (fun c_38 => ?_) (fun c_38 => ?_)
          · skip
            have w0 := c_38
            simp only [wS_, wSN_, wSNW_, wNW_, wTh_, wTr_, f2_0, nb_0, ob_0, uk_0, lo_0, hi_0] at w0
            obtain ⟨a_, ha_, rfl⟩ := pl_lt (n := sn_ B) (by omega) w0.1.1
            obtain ⟨v_, hv_, rfl⟩ := pl_le (n := 99) (by decide) w0.1.2
            replace hl : lv_has ls 6 [(4, .int (wSNW_ (sn_ B) (nI a_) (nI v_) q)), (0, .ref (r 0)), (1, .int (nI a_)), (2, .int (nI v_)), (3, .int q)] := hl
            refine lv_aload_n hx hb dX5_shoreBehind_48 rfl (lv_at hl 1 rfl) ?_
            refine kMvV hx hb hml hown hts hK hP hD hA hS gX5_shoreBehind_X5_thinks okX5_thinks (qX5_thinksE l D cI cB r B M ) [0, 1, 2, 3, 4, 5, 6, 7, 8, 9, 10, 11, 12, 13, 14, 15] rfl (by decide) (fun _ => mW_adE rfl) rfl rfl rfl (by decide) hl.1 rfl rfl (Nat.le_of_ble_eq_true rfl) dX5_shoreBehind_49 (by decide) (fun u_2 H locs hw_3 hP hD hS => ?_)
            replace hP : va_P D vwCl ([(r 0, .inr (5, [.ref (r 1), .ref (r 2), .ref (r 3), .ref (r 4), .ref (r 5), .ref (r 6), .int (nI (sn_ B)), .int (qt_ B), .int (il_ B), .int (pa_ B), .int (ho_ B), .int (dy_ B), .ref (r 13), .ref (r 14), .ref (r 15), .ref (r 16), .int (nI (mtn_ M)), .int (nI (mrd_ M)), .int (nI (msm_ M)), .ref (r 20), .int (mhi_ M), .int (1), .int (nI (41 * 2 + 41)), .int (nI (mbk_ M)), .ref (r 25), .ref (r 26), .int (mlw_ M), .int (mhg_ M), .int (msl_ M), .ref (r 30), .int (nI (mrm_ M)), .ref (r 32), .int (mlo_ M)])), (r 1, .inl (cI, 7, .inl (mrf_ M))), (r 2, .inl (cI, 7, .inl (kd_ B))), (r 3, .inl (cI, 7, .inl (fg_ B))), (r 4, .inl (cI, 7, .inl (pl_ B))), (r 5, .inl (cI, 7, .inl (pw_ B))), (r 6, .inl (cI, 7, .inl (jy_ B))), (r 13, .inl (cI, 96, .inl (mtp_ M))), (r 14, .inl (cI, 48, .inl (mlt_ M))), (r 15, .inl (cI, 48, .inl (mla_ M))), (r 16, .inl (cI, 144, .inl (mtd_ M))), (r 20, .inl (cI, 451, .inl (flatK (va_up (mkp_ M) 2 B)))), (r 25, .inl (cI, 7, .inl (mof_ M))), (r 26, .inl (cI, 7, .inl (mfa_ M))), (r 30, .inl (cI, 12, .inl (mrw_ M))), (r 32, .inl (cI, 8, .inl (mhb_ M)))]) H := hP
            replace hD : va_D A ([(r 0, .inr (5, [.ref (r 1), .ref (r 2), .ref (r 3), .ref (r 4), .ref (r 5), .ref (r 6), .int (nI (sn_ B)), .int (qt_ B), .int (il_ B), .int (pa_ B), .int (ho_ B), .int (dy_ B), .ref (r 13), .ref (r 14), .ref (r 15), .ref (r 16), .int (nI (mtn_ M)), .int (nI (mrd_ M)), .int (nI (msm_ M)), .ref (r 20), .int (mhi_ M), .int (1), .int (nI (41 * 2 + 41)), .int (nI (mbk_ M)), .ref (r 25), .ref (r 26), .int (mlw_ M), .int (mhg_ M), .int (msl_ M), .ref (r 30), .int (nI (mrm_ M)), .ref (r 32), .int (mlo_ M)])), (r 1, .inl (cI, 7, .inl (mrf_ M))), (r 2, .inl (cI, 7, .inl (kd_ B))), (r 3, .inl (cI, 7, .inl (fg_ B))), (r 4, .inl (cI, 7, .inl (pl_ B))), (r 5, .inl (cI, 7, .inl (pw_ B))), (r 6, .inl (cI, 7, .inl (jy_ B))), (r 13, .inl (cI, 96, .inl (mtp_ M))), (r 14, .inl (cI, 48, .inl (mlt_ M))), (r 15, .inl (cI, 48, .inl (mla_ M))), (r 16, .inl (cI, 144, .inl (mtd_ M))), (r 20, .inl (cI, 451, .inl (flatK (va_up (mkp_ M) 2 B)))), (r 25, .inl (cI, 7, .inl (mof_ M))), (r 26, .inl (cI, 7, .inl (mfa_ M))), (r 30, .inl (cI, 12, .inl (mrw_ M))), (r 32, .inl (cI, 8, .inl (mhb_ M)))]) := hD
            refine lv_aload_n hx hb dX5_shoreBehind_52 rfl (lv_at hl 1 rfl) ?_
            refine lv_iload_n hx hb dX5_shoreBehind_53 rfl (lv_at hl 3 rfl) ?_
            refine kMvV hx hb hml hown hts hK hP hD hA hS gX5_shoreBehind_X5_goes okX5_goes (qX5_goes l D cI cB r B (mkM (mrf_ M) (mtp_ M) (mlt_ M) (mla_ M) (mtd_ M) (va_up (mkp_ M) 2 B) (mof_ M) (mfa_ M) (mrw_ M) (mhb_ M) (mtn_ M) (mrd_ M) (msm_ M) (41 * 2 + 41) (mbk_ M) (mrm_ M) (mhi_ M) 1 (mlw_ M) (mhg_ M) (msl_ M) (mlo_ M)) v_ hI (by omega)) [0, 1, 2, 3, 4, 5, 6, 7, 8, 9, 10, 11, 12, 13, 14, 15] rfl (by decide) (fun _ => mW_adr _ _ _ _ _ _) rfl rfl rfl (by decide) hl.1 rfl rfl (Nat.le_of_ble_eq_true rfl) dX5_shoreBehind_54 (by decide) (fun u_5 H locs hw_6 hP hD hS => ?_)
            replace hw_6 : u_5 = hs_ v_ B := hw_6
            subst u_5
            replace hP : va_P D vwCl ([(r 0, .inr (5, [.ref (r 1), .ref (r 2), .ref (r 3), .ref (r 4), .ref (r 5), .ref (r 6), .int (nI (sn_ (hs_ v_ B))), .int (qt_ (hs_ v_ B)), .int (il_ (hs_ v_ B)), .int (pa_ (hs_ v_ B)), .int (ho_ (hs_ v_ B)), .int (dy_ (hs_ v_ B)), .ref (r 13), .ref (r 14), .ref (r 15), .ref (r 16), .int (nI (mtn_ M)), .int (nI (mrd_ M)), .int (nI (msm_ M)), .ref (r 20), .int (mhi_ M), .int (1), .int (nI (41 * 2 + 41)), .int (nI (mbk_ M)), .ref (r 25), .ref (r 26), .int (mlw_ M), .int (mhg_ M), .int (msl_ M), .ref (r 30), .int (nI (mrm_ M)), .ref (r 32), .int (mlo_ M)])), (r 1, .inl (cI, 7, .inl (mrf_ M))), (r 2, .inl (cI, 7, .inl (kd_ (hs_ v_ B)))), (r 3, .inl (cI, 7, .inl (fg_ (hs_ v_ B)))), (r 4, .inl (cI, 7, .inl (pl_ (hs_ v_ B)))), (r 5, .inl (cI, 7, .inl (pw_ (hs_ v_ B)))), (r 6, .inl (cI, 7, .inl (jy_ (hs_ v_ B)))), (r 13, .inl (cI, 96, .inl (mtp_ M))), (r 14, .inl (cI, 48, .inl (mlt_ M))), (r 15, .inl (cI, 48, .inl (mla_ M))), (r 16, .inl (cI, 144, .inl (mtd_ M))), (r 20, .inl (cI, 451, .inl (flatK (va_up (mkp_ M) 2 B)))), (r 25, .inl (cI, 7, .inl (mof_ M))), (r 26, .inl (cI, 7, .inl (mfa_ M))), (r 30, .inl (cI, 12, .inl (mrw_ M))), (r 32, .inl (cI, 8, .inl (mhb_ M)))]) H := hP
            replace hD : va_D A ([(r 0, .inr (5, [.ref (r 1), .ref (r 2), .ref (r 3), .ref (r 4), .ref (r 5), .ref (r 6), .int (nI (sn_ (hs_ v_ B))), .int (qt_ (hs_ v_ B)), .int (il_ (hs_ v_ B)), .int (pa_ (hs_ v_ B)), .int (ho_ (hs_ v_ B)), .int (dy_ (hs_ v_ B)), .ref (r 13), .ref (r 14), .ref (r 15), .ref (r 16), .int (nI (mtn_ M)), .int (nI (mrd_ M)), .int (nI (msm_ M)), .ref (r 20), .int (mhi_ M), .int (1), .int (nI (41 * 2 + 41)), .int (nI (mbk_ M)), .ref (r 25), .ref (r 26), .int (mlw_ M), .int (mhg_ M), .int (msl_ M), .ref (r 30), .int (nI (mrm_ M)), .ref (r 32), .int (mlo_ M)])), (r 1, .inl (cI, 7, .inl (mrf_ M))), (r 2, .inl (cI, 7, .inl (kd_ (hs_ v_ B)))), (r 3, .inl (cI, 7, .inl (fg_ (hs_ v_ B)))), (r 4, .inl (cI, 7, .inl (pl_ (hs_ v_ B)))), (r 5, .inl (cI, 7, .inl (pw_ (hs_ v_ B)))), (r 6, .inl (cI, 7, .inl (jy_ (hs_ v_ B)))), (r 13, .inl (cI, 96, .inl (mtp_ M))), (r 14, .inl (cI, 48, .inl (mlt_ M))), (r 15, .inl (cI, 48, .inl (mla_ M))), (r 16, .inl (cI, 144, .inl (mtd_ M))), (r 20, .inl (cI, 451, .inl (flatK (va_up (mkp_ M) 2 B)))), (r 25, .inl (cI, 7, .inl (mof_ M))), (r 26, .inl (cI, 7, .inl (mfa_ M))), (r 30, .inl (cI, 12, .inl (mrw_ M))), (r 32, .inl (cI, 8, .inl (mhb_ M)))]) := hD
            refine lv_iload_n hx hb dX5_shoreBehind_57 rfl (lv_at hl 4 rfl) ?_
            refine lv_if_ne (tgt := 70) hx hb dX5_shoreBehind_58 (by decide) (fun c_58 => ?_) (fun c_58 => ?_)
            · skip
              refine lv_aload_n hx hb dX5_shoreBehind_70 rfl (lv_at hl 1 rfl) ?_
              refine va_get (ci := 5) (C := RX5) (T := TX5) (N := 33) hx hb hts hinX5 hown hK.1 hP 0 rfl rfl 4 (by decide) (hts _ (List.mem_of_getElem? (i := 2) rfl)) (fun _ h9 => h9) rfl dX5_shoreBehind_71 ?_
              refine lv_iload_n hx hb dX5_shoreBehind_74 rfl (lv_at hl 2 rfl) ?_
              refine jald hx hb hK.1 hP 5 0 a_ rfl rfl rfl (by omega) (Nat.le_of_ble_eq_true rfl) dX5_shoreBehind_75 ?_
              refine lv_istore (lv' := [(5, .int ((pw_ (hs_ v_ B)) a_)), (4, .int (wSNW_ (sn_ B) (nI a_) (nI v_) q)), (0, .ref (r 0)), (1, .int (nI a_)), (2, .int (nI v_)), (3, .int q)]) hx hb dX5_shoreBehind_76 hl (by decide) rfl (fun ls hl => ?_)
              refine lv_aload_n hx hb dX5_shoreBehind_78 rfl (lv_at hl 2 rfl) ?_
              refine kMvV hx hb hml hown hts hK hP hD hA hS gX5_shoreBehind_X5_forgets okX5_forgets (qX5_forgetsE l D cI cB r (hs_ v_ B) (mkM (mrf_ M) (mtp_ M) (mlt_ M) (mla_ M) (mtd_ M) (va_up (mkp_ M) 2 B) (mof_ M) (mfa_ M) (mrw_ M) (mhb_ M) (mtn_ M) (mrd_ M) (msm_ M) (41 * 2 + 41) (mbk_ M) (mrm_ M) (mhi_ M) 1 (mlw_ M) (mhg_ M) (msl_ M) (mlo_ M)) ) [0, 1, 2, 3, 4, 5, 6, 7, 8, 9, 10, 11, 12, 13, 14, 15] rfl (by decide) (fun _ => mW_adE rfl) rfl rfl rfl (by decide) hl.1 rfl rfl (Nat.le_of_ble_eq_true rfl) dX5_shoreBehind_79 (by decide) (fun u_8 H locs hw_9 hP hD hS => ?_)
              replace hP : va_P D vwCl ([(r 0, .inr (5, [.ref (r 1), .ref (r 2), .ref (r 3), .ref (r 4), .ref (r 5), .ref (r 6), .int (nI (sn_ B)), .int (qt_ B), .int (il_ B), .int (pa_ B), .int (ho_ B), .int (dy_ B), .ref (r 13), .ref (r 14), .ref (r 15), .ref (r 16), .int (nI (mtn_ M)), .int (nI (mrd_ M)), .int (nI (msm_ M)), .ref (r 20), .int (mhi_ M), .int (0), .int (nI (41 * 2 + 41)), .int (nI (mbk_ M)), .ref (r 25), .ref (r 26), .int (mlw_ M), .int (mhg_ M), .int (msl_ M), .ref (r 30), .int (nI (mrm_ M)), .ref (r 32), .int (mlo_ M)])), (r 1, .inl (cI, 7, .inl (mrf_ M))), (r 2, .inl (cI, 7, .inl (kd_ B))), (r 3, .inl (cI, 7, .inl (fg_ B))), (r 4, .inl (cI, 7, .inl (pl_ B))), (r 5, .inl (cI, 7, .inl (pw_ B))), (r 6, .inl (cI, 7, .inl (jy_ B))), (r 13, .inl (cI, 96, .inl (mtp_ M))), (r 14, .inl (cI, 48, .inl (mlt_ M))), (r 15, .inl (cI, 48, .inl (mla_ M))), (r 16, .inl (cI, 144, .inl (mtd_ M))), (r 20, .inl (cI, 451, .inl (flatK (va_up (mkp_ M) 2 B)))), (r 25, .inl (cI, 7, .inl (mof_ M))), (r 26, .inl (cI, 7, .inl (mfa_ M))), (r 30, .inl (cI, 12, .inl (mrw_ M))), (r 32, .inl (cI, 8, .inl (mhb_ M)))]) H := hP
              replace hD : va_D A ([(r 0, .inr (5, [.ref (r 1), .ref (r 2), .ref (r 3), .ref (r 4), .ref (r 5), .ref (r 6), .int (nI (sn_ B)), .int (qt_ B), .int (il_ B), .int (pa_ B), .int (ho_ B), .int (dy_ B), .ref (r 13), .ref (r 14), .ref (r 15), .ref (r 16), .int (nI (mtn_ M)), .int (nI (mrd_ M)), .int (nI (msm_ M)), .ref (r 20), .int (mhi_ M), .int (0), .int (nI (41 * 2 + 41)), .int (nI (mbk_ M)), .ref (r 25), .ref (r 26), .int (mlw_ M), .int (mhg_ M), .int (msl_ M), .ref (r 30), .int (nI (mrm_ M)), .ref (r 32), .int (mlo_ M)])), (r 1, .inl (cI, 7, .inl (mrf_ M))), (r 2, .inl (cI, 7, .inl (kd_ B))), (r 3, .inl (cI, 7, .inl (fg_ B))), (r 4, .inl (cI, 7, .inl (pl_ B))), (r 5, .inl (cI, 7, .inl (pw_ B))), (r 6, .inl (cI, 7, .inl (jy_ B))), (r 13, .inl (cI, 96, .inl (mtp_ M))), (r 14, .inl (cI, 48, .inl (mlt_ M))), (r 15, .inl (cI, 48, .inl (mla_ M))), (r 16, .inl (cI, 144, .inl (mtd_ M))), (r 20, .inl (cI, 451, .inl (flatK (va_up (mkp_ M) 2 B)))), (r 25, .inl (cI, 7, .inl (mof_ M))), (r 26, .inl (cI, 7, .inl (mfa_ M))), (r 30, .inl (cI, 12, .inl (mrw_ M))), (r 32, .inl (cI, 8, .inl (mhb_ M)))]) := hD
              refine lv_iload hx hb dX5_shoreBehind_82 (lv_at hl 0 rfl) ?_
              refine rMi hx hb hr hlk hS (mkM (mrf_ M) (mtp_ M) (mlt_ M) (mla_ M) (mtd_ M) (va_up (mkp_ M) 2 B) (mof_ M) (mfa_ M) (mrw_ M) (mhb_ M) (mtn_ M) (mrd_ M) (msm_ M) (41 * 2 + 41) (mbk_ M) (mrm_ M) (mhi_ M) 0 (mlw_ M) (mhg_ M) (msl_ M) (mlo_ M)) hP ?_ dX5_shoreBehind_84
              first | exact ⟨(if_neg c_38).symm, oQ_n _ _⟩ | (refine ⟨?_, oQ_0 c_38 ?_⟩; · (rw [if_pos c_38]; simp only [tn_n (show a_ < 2147483648 by omega), tn_n (show v_ < 2147483648 by omega)]; first | (rw [if_pos c_58]; done) | (rw [if_neg c_58]; done) | (rw [if_pos c_58]; rfl) | (rw [if_neg c_58]; rfl)); · (first | exact (oN_mk (by assumption)).m | exact oM_.rf _ | exact (oN_pp _ _).m | exact (oN_fo _ _ _ _).m | assumption | (apply oN_.m; assumption) | exact oM_.tr (by assumption) (by assumption)))
            · skip
              refine lv_aload_n hx hb dX5_shoreBehind_61 rfl (lv_at hl 1 rfl) ?_
              refine va_get (ci := 5) (C := RX5) (T := TX5) (N := 33) hx hb hts hinX5 hown hK.1 hP 0 rfl rfl 5 (by decide) (hts _ (List.mem_of_getElem? (i := 1) rfl)) (fun _ h9 => h9) rfl dX5_shoreBehind_62 ?_
              refine lv_iload_n hx hb dX5_shoreBehind_65 rfl (lv_at hl 2 rfl) ?_
              refine jald hx hb hK.1 hP 6 0 a_ rfl rfl rfl (by omega) (Nat.le_of_ble_eq_true rfl) dX5_shoreBehind_66 ?_
              refine lv_goto (tgt := 76) hx hb dX5_shoreBehind_67 (by decide) ?_
              refine lv_istore (lv' := [(5, .int ((jy_ (hs_ v_ B)) a_)), (4, .int (wSNW_ (sn_ B) (nI a_) (nI v_) q)), (0, .ref (r 0)), (1, .int (nI a_)), (2, .int (nI v_)), (3, .int q)]) hx hb dX5_shoreBehind_76 hl (by decide) rfl (fun ls hl => ?_)
              refine lv_aload_n hx hb dX5_shoreBehind_78 rfl (lv_at hl 2 rfl) ?_
              refine kMvV hx hb hml hown hts hK hP hD hA hS gX5_shoreBehind_X5_forgets okX5_forgets (qX5_forgetsE l D cI cB r (hs_ v_ B) (mkM (mrf_ M) (mtp_ M) (mlt_ M) (mla_ M) (mtd_ M) (va_up (mkp_ M) 2 B) (mof_ M) (mfa_ M) (mrw_ M) (mhb_ M) (mtn_ M) (mrd_ M) (msm_ M) (41 * 2 + 41) (mbk_ M) (mrm_ M) (mhi_ M) 1 (mlw_ M) (mhg_ M) (msl_ M) (mlo_ M)) ) [0, 1, 2, 3, 4, 5, 6, 7, 8, 9, 10, 11, 12, 13, 14, 15] rfl (by decide) (fun _ => mW_adE rfl) rfl rfl rfl (by decide) hl.1 rfl rfl (Nat.le_of_ble_eq_true rfl) dX5_shoreBehind_79 (by decide) (fun u_11 H locs hw_12 hP hD hS => ?_)
              replace hP : va_P D vwCl ([(r 0, .inr (5, [.ref (r 1), .ref (r 2), .ref (r 3), .ref (r 4), .ref (r 5), .ref (r 6), .int (nI (sn_ B)), .int (qt_ B), .int (il_ B), .int (pa_ B), .int (ho_ B), .int (dy_ B), .ref (r 13), .ref (r 14), .ref (r 15), .ref (r 16), .int (nI (mtn_ M)), .int (nI (mrd_ M)), .int (nI (msm_ M)), .ref (r 20), .int (mhi_ M), .int (0), .int (nI (41 * 2 + 41)), .int (nI (mbk_ M)), .ref (r 25), .ref (r 26), .int (mlw_ M), .int (mhg_ M), .int (msl_ M), .ref (r 30), .int (nI (mrm_ M)), .ref (r 32), .int (mlo_ M)])), (r 1, .inl (cI, 7, .inl (mrf_ M))), (r 2, .inl (cI, 7, .inl (kd_ B))), (r 3, .inl (cI, 7, .inl (fg_ B))), (r 4, .inl (cI, 7, .inl (pl_ B))), (r 5, .inl (cI, 7, .inl (pw_ B))), (r 6, .inl (cI, 7, .inl (jy_ B))), (r 13, .inl (cI, 96, .inl (mtp_ M))), (r 14, .inl (cI, 48, .inl (mlt_ M))), (r 15, .inl (cI, 48, .inl (mla_ M))), (r 16, .inl (cI, 144, .inl (mtd_ M))), (r 20, .inl (cI, 451, .inl (flatK (va_up (mkp_ M) 2 B)))), (r 25, .inl (cI, 7, .inl (mof_ M))), (r 26, .inl (cI, 7, .inl (mfa_ M))), (r 30, .inl (cI, 12, .inl (mrw_ M))), (r 32, .inl (cI, 8, .inl (mhb_ M)))]) H := hP
              replace hD : va_D A ([(r 0, .inr (5, [.ref (r 1), .ref (r 2), .ref (r 3), .ref (r 4), .ref (r 5), .ref (r 6), .int (nI (sn_ B)), .int (qt_ B), .int (il_ B), .int (pa_ B), .int (ho_ B), .int (dy_ B), .ref (r 13), .ref (r 14), .ref (r 15), .ref (r 16), .int (nI (mtn_ M)), .int (nI (mrd_ M)), .int (nI (msm_ M)), .ref (r 20), .int (mhi_ M), .int (0), .int (nI (41 * 2 + 41)), .int (nI (mbk_ M)), .ref (r 25), .ref (r 26), .int (mlw_ M), .int (mhg_ M), .int (msl_ M), .ref (r 30), .int (nI (mrm_ M)), .ref (r 32), .int (mlo_ M)])), (r 1, .inl (cI, 7, .inl (mrf_ M))), (r 2, .inl (cI, 7, .inl (kd_ B))), (r 3, .inl (cI, 7, .inl (fg_ B))), (r 4, .inl (cI, 7, .inl (pl_ B))), (r 5, .inl (cI, 7, .inl (pw_ B))), (r 6, .inl (cI, 7, .inl (jy_ B))), (r 13, .inl (cI, 96, .inl (mtp_ M))), (r 14, .inl (cI, 48, .inl (mlt_ M))), (r 15, .inl (cI, 48, .inl (mla_ M))), (r 16, .inl (cI, 144, .inl (mtd_ M))), (r 20, .inl (cI, 451, .inl (flatK (va_up (mkp_ M) 2 B)))), (r 25, .inl (cI, 7, .inl (mof_ M))), (r 26, .inl (cI, 7, .inl (mfa_ M))), (r 30, .inl (cI, 12, .inl (mrw_ M))), (r 32, .inl (cI, 8, .inl (mhb_ M)))]) := hD
              refine lv_iload hx hb dX5_shoreBehind_82 (lv_at hl 0 rfl) ?_
              refine rMi hx hb hr hlk hS (mkM (mrf_ M) (mtp_ M) (mlt_ M) (mla_ M) (mtd_ M) (va_up (mkp_ M) 2 B) (mof_ M) (mfa_ M) (mrw_ M) (mhb_ M) (mtn_ M) (mrd_ M) (msm_ M) (41 * 2 + 41) (mbk_ M) (mrm_ M) (mhi_ M) 0 (mlw_ M) (mhg_ M) (msl_ M) (mlo_ M)) hP ?_ dX5_shoreBehind_84
              first | exact ⟨(if_neg c_38).symm, oQ_n _ _⟩ | (refine ⟨?_, oQ_0 c_38 ?_⟩; · (rw [if_pos c_38]; simp only [tn_n (show a_ < 2147483648 by omega), tn_n (show v_ < 2147483648 by omega)]; first | (rw [if_pos c_58]; done) | (rw [if_neg c_58]; done) | (rw [if_pos c_58]; rfl) | (rw [if_neg c_58]; rfl)); · (first | exact (oN_mk (by assumption)).m | exact oM_.rf _ | exact (oN_pp _ _).m | exact (oN_fo _ _ _ _).m | assumption | (apply oN_.m; assumption) | exact oM_.tr (by assumption) (by assumption)))
          · skip
            refine lv_aload_n hx hb dX5_shoreBehind_41 rfl (lv_at hl 1 rfl) ?_
            refine lv_iload hx hb dX5_shoreBehind_42 (lv_at hl 0 rfl) ?_
            refine kMiV hx hb hml hown hts hK hP hD hA hS gX5_shoreBehind_X5_no okX5_no (qX5_no l D cI cB r B M (wSNW_ (sn_ B) a v q) (rc0_n (by first | exact rc0_wS _ _ | exact rc0_wSN _ _ _ | exact rc0_wSNW _ _ _ _ | exact rc0_wNW _ _ | exact rc0_wTh _ _ _ _ _ | exact rc0_wTr _ _ _ _ | exact rc0_nb _ _ | exact rc0_uk _ _ | exact rc0_ob _ _ _ | exact rc0_f2 (rc0_nb _ _) (rc0_nb _ _) | exact rc0_f2 (rc0_nb _ _) (rc0_uk _ _) | exact rc0_f2 (rc0_ob _ _ _) (rc0_uk _ _) | exact rc0_f2 (rc0_uk _ _) (rc0_f2 (rc0_uk _ _) (rc0_ob _ _ _))) c_38)) [0, 1, 2, 3, 4, 5, 6, 7, 8, 9, 10, 11, 12, 13, 14, 15] rfl (by decide) (fun _ => mW_adr _ _ _ _ _ _) rfl rfl rfl (by decide) hl.1 rfl rfl (Nat.le_of_ble_eq_true rfl) dX5_shoreBehind_44 (by decide) (fun r_13 u_14 H locs hw_15 hP hD hS => ?_)
            replace hw_15 : r_13 = wSNW_ (sn_ B) a v q ∧ u_14 = (rfm_ M (wSNW_ (sn_ B) a v q)) := hw_15
            obtain ⟨hw_15a, hw_15b⟩ := hw_15
            subst r_13
            subst u_14
            replace hP : va_P D vwCl ([(r 0, .inr (5, [.ref (r 1), .ref (r 2), .ref (r 3), .ref (r 4), .ref (r 5), .ref (r 6), .int (nI (sn_ B)), .int (qt_ B), .int (il_ B), .int (pa_ B), .int (ho_ B), .int (dy_ B), .ref (r 13), .ref (r 14), .ref (r 15), .ref (r 16), .int (nI (mtn_ M)), .int (nI (mrd_ M)), .int (nI (msm_ M)), .ref (r 20), .int (mhi_ M), .int (mik_ M), .int (nI (mcu_ M)), .int (nI (mbk_ M)), .ref (r 25), .ref (r 26), .int (mlw_ M), .int (mhg_ M), .int (msl_ M), .ref (r 30), .int (nI (mrm_ M)), .ref (r 32), .int (mlo_ M)])), (r 1, .inl (cI, 7, .inl (rfx_ (mrf_ M) (wSNW_ (sn_ B) a v q)))), (r 2, .inl (cI, 7, .inl (kd_ B))), (r 3, .inl (cI, 7, .inl (fg_ B))), (r 4, .inl (cI, 7, .inl (pl_ B))), (r 5, .inl (cI, 7, .inl (pw_ B))), (r 6, .inl (cI, 7, .inl (jy_ B))), (r 13, .inl (cI, 96, .inl (mtp_ M))), (r 14, .inl (cI, 48, .inl (mlt_ M))), (r 15, .inl (cI, 48, .inl (mla_ M))), (r 16, .inl (cI, 144, .inl (mtd_ M))), (r 20, .inl (cI, 451, .inl (flatK (mkp_ M)))), (r 25, .inl (cI, 7, .inl (mof_ M))), (r 26, .inl (cI, 7, .inl (mfa_ M))), (r 30, .inl (cI, 12, .inl (mrw_ M))), (r 32, .inl (cI, 8, .inl (mhb_ M)))]) H := hP
            replace hD : va_D A ([(r 0, .inr (5, [.ref (r 1), .ref (r 2), .ref (r 3), .ref (r 4), .ref (r 5), .ref (r 6), .int (nI (sn_ B)), .int (qt_ B), .int (il_ B), .int (pa_ B), .int (ho_ B), .int (dy_ B), .ref (r 13), .ref (r 14), .ref (r 15), .ref (r 16), .int (nI (mtn_ M)), .int (nI (mrd_ M)), .int (nI (msm_ M)), .ref (r 20), .int (mhi_ M), .int (mik_ M), .int (nI (mcu_ M)), .int (nI (mbk_ M)), .ref (r 25), .ref (r 26), .int (mlw_ M), .int (mhg_ M), .int (msl_ M), .ref (r 30), .int (nI (mrm_ M)), .ref (r 32), .int (mlo_ M)])), (r 1, .inl (cI, 7, .inl (rfx_ (mrf_ M) (wSNW_ (sn_ B) a v q)))), (r 2, .inl (cI, 7, .inl (kd_ B))), (r 3, .inl (cI, 7, .inl (fg_ B))), (r 4, .inl (cI, 7, .inl (pl_ B))), (r 5, .inl (cI, 7, .inl (pw_ B))), (r 6, .inl (cI, 7, .inl (jy_ B))), (r 13, .inl (cI, 96, .inl (mtp_ M))), (r 14, .inl (cI, 48, .inl (mlt_ M))), (r 15, .inl (cI, 48, .inl (mla_ M))), (r 16, .inl (cI, 144, .inl (mtd_ M))), (r 20, .inl (cI, 451, .inl (flatK (mkp_ M)))), (r 25, .inl (cI, 7, .inl (mof_ M))), (r 26, .inl (cI, 7, .inl (mfa_ M))), (r 30, .inl (cI, 12, .inl (mrw_ M))), (r 32, .inl (cI, 8, .inl (mhb_ M)))]) := hD
            refine rMi hx hb hr hlk hS (rfm_ M (wSNW_ (sn_ B) a v q)) hP ?_ dX5_shoreBehind_47
            first | exact ⟨(if_neg c_38).symm, oQ_n _ _⟩ | (refine ⟨?_, oQ_0 c_38 ?_⟩; · (rw [if_pos c_38]; simp only [tn_n (show a_ < 2147483648 by omega), tn_n (show v_ < 2147483648 by omega)]; first | (rw [if_pos c_58]; done) | (rw [if_neg c_58]; done) | (rw [if_pos c_58]; rfl) | (rw [if_neg c_58]; rfl)); · (first | exact (oN_mk (by assumption)).m | exact oM_.rf _ | exact (oN_pp _ _).m | exact (oN_fo _ _ _ _).m | assumption | (apply oN_.m; assumption) | exact oM_.tr (by assumption) (by assumption)))
      refine lv_iload hx hb dX5_shoreBehind_18 (lv_at hl 0 rfl) ?_
      refine lv_if_ne (tgt := 36) hx hb dX5_shoreBehind_20 (by decide) (fun c_20 => ?_) (fun c_20 => ?_)
      · skip
        exact jn_36  (wSN_ (sn_ B) a v)  (by first | exact (f2_a c_20).symm | exact c_20.trans ((f2_b c_20).trans (uk_i c_29)).symm | exact ((f2_b c_20).trans (uk_o c_29)).symm)   _ _ hP hD hS ls (lv_sub hl [0, 1, 2, 3, 4] rfl)
      · skip
        refine lv_iload_n hx hb dX5_shoreBehind_23 rfl (lv_at hl 4 rfl) ?_
        refine lv_iconst (v := 0) hx hb dX5_shoreBehind_24 (by decide) ?_
        refine lv_iconst (v := 1) hx hb dX5_shoreBehind_25 (by decide) ?_
        refine kSiS hx hb hml hown hts hK hP gX5_shoreBehind_X5_isIn okX5_isIn (qX5_isIn l D cI cB q 0 1 ) [] rfl (by decide) hl.1 rfl rfl (Nat.le_of_ble_eq_true rfl) dX5_shoreBehind_26 (by decide) (fun r_16 hr_17 => ?_)
        replace hr_17 : r_16 = b1 (0 ≤ q ∧ q ≤ 1) := hr_17
        subst r_16
        refine lv_if_ne (tgt := 36) hx hb dX5_shoreBehind_29 (by decide) (fun c_29 => ?_) (fun c_29 => ?_)
        · replace c_29 := b1_n c_29
          exact jn_36  (wSN_ (sn_ B) a v)  (by first | exact (f2_a c_20).symm | exact c_20.trans ((f2_b c_20).trans (uk_i c_29)).symm | exact ((f2_b c_20).trans (uk_o c_29)).symm)   _ _ hP hD hS ls (lv_sub hl [0, 1, 2, 3, 4] rfl)
        · replace c_29 := b1_z c_29
          refine lv_bipush (v := (-2)) hx hb dX5_shoreBehind_32 (by decide) ?_
          refine lv_istore (lv' := [(4, .int (-2)), (0, .ref (r 0)), (1, .int a), (2, .int v), (3, .int q)]) hx hb dX5_shoreBehind_34 hl (by decide) rfl (fun ls hl => ?_)
          exact jn_36  (-2)  (by first | exact (f2_a c_20).symm | exact c_20.trans ((f2_b c_20).trans (uk_i c_29)).symm | exact ((f2_b c_20).trans (uk_o c_29)).symm)   _ _ hP hD hS ls (lv_sub hl [0, 1, 2, 3, 4] rfl)
  refine lv_aload_n hx hb dX5_shoreBehind_0 rfl (lv_at hl 0 rfl) ?_
  refine lv_iload_n hx hb dX5_shoreBehind_1 rfl (lv_at hl 1 rfl) ?_
  refine kSiV hx hb hml hown hts hK hP gX5_shoreBehind_X5_isShore okX5_isShore (qX5_isShore l D cI cB r B M a (by show sn_ B ≤ 7; omega)) [0, 1, 2, 3, 4, 5, 6, 7, 8, 9, 10, 11, 12, 13, 14, 15] rfl rfl rfl rfl (by decide) hl.1 rfl rfl (Nat.le_of_ble_eq_true rfl) dX5_shoreBehind_2 (by decide) (fun r_18 hr_19 => ?_)
  replace hr_19 : r_18 = b1 (0 ≤ a ∧ a < nI (sn_ B)) := hr_19
  subst r_18
  refine lv_if_ne (tgt := 12) hx hb dX5_shoreBehind_5 (by decide) (fun c_5 => ?_) (fun c_5 => ?_)
  · replace c_5 := b1_n c_5
    refine lv_iload_n hx hb dX5_shoreBehind_12 rfl (lv_at hl 2 rfl) ?_
    refine kSiS hx hb hml hown hts hK hP gX5_shoreBehind_X5_notHours okX5_notHours (qX5_notHours l D cI cB v ) [] rfl (by decide) hl.1 rfl rfl (Nat.le_of_ble_eq_true rfl) dX5_shoreBehind_13 (by decide) (fun r_20 hr_21 => ?_)
    replace hr_21 : r_20 = ob_ v 0 99 := hr_21
    subst r_20
    refine lv_istore (lv' := [(4, .int (ob_ v 0 99)), (0, .ref (r 0)), (1, .int a), (2, .int v), (3, .int q)]) hx hb dX5_shoreBehind_16 hl (by decide) rfl (fun ls hl => ?_)
    exact jn_18  (ob_ v 0 99)  (by first | exact (f2_b (nb_i c_5)).symm | exact ((f2_a (by rw [nb_o c_5]; decide)).trans (nb_o c_5)).symm)   _ _ hP hD hS ls (lv_sub hl [0, 1, 2, 3, 4] rfl)
  · replace c_5 := b1_z c_5
    refine lv_iconst (v := (-1)) hx hb dX5_shoreBehind_8 (by decide) ?_
    refine lv_goto (tgt := 16) hx hb dX5_shoreBehind_9 (by decide) ?_
    refine lv_istore (lv' := [(4, .int (-1)), (0, .ref (r 0)), (1, .int a), (2, .int v), (3, .int q)]) hx hb dX5_shoreBehind_16 hl (by decide) rfl (fun ls hl => ?_)
    exact jn_18  (-1)  (by first | exact (f2_b (nb_i c_5)).symm | exact ((f2_a (by rw [nb_o c_5]; decide)).trans (nb_o c_5)).symm)   _ _ hP hD hS ls (lv_sub hl [0, 1, 2, 3, 4] rfl)

theorem okX5_first : jok yX5_first wsX5_first cX5_first 2 (some .int) 1 := ⟨⟨_, rfl⟩, by decide +kernel, by decide +kernel⟩
set_option maxHeartbeats 2000000 in
set_option maxRecDepth 100000 in
theorem qX5_first (l : Launch) (D : va_G) (cI cB : ClassId) (r : Nat → Nat) (B : BayT) (M : MT) (a : Int32) (hI : bI_ B) : jMi D cI cB l yX5_first wsX5_first 7 [.ref (r 0), .int a] (mW cI r B M) (S := MT) (fun r u => r = (if wS_ (sn_ B) a = 0 then oI_ (fh_ B (tn_ a) 100 0) else wS_ (sn_ B) a) ∧ oQ_ M u (wS_ (sn_ B) a)) (fun u => mW cI r B u) := by
  refine jMi.of (cc := cX5_first) (maxL := 2) (ret := (some .int)) okX5_first (Nat.le_of_ble_eq_true rfl) ?_
  intro p e s m below meth c ls A hx hb hr hts hown hlk hml hP hK hD hA hS hl
  replace hown : s.vm.findClass RX5 = some m.cls := hown
  replace hl : lv_has ls 2 [(0, .ref (r 0)), (1, .int a)] := hl
  have hn7 := hI.1
  have hinX5 : ∀ w ∈ wsX50, w ∈ wsX5_first := by decide +kernel
  refine lv_aload_n hx hb dX5_first_0 rfl (lv_at hl 0 rfl) ?_
  refine lv_iload_n hx hb dX5_first_1 rfl (lv_at hl 1 rfl) ?_
  refine kSiV hx hb hml hown hts hK hP gX5_first_X5_isShore okX5_isShore (qX5_isShore l D cI cB r B M a (by show sn_ B ≤ 7; omega)) [0, 1, 2, 3, 4, 5, 6, 7, 8, 9, 10, 11, 12, 13, 14, 15] rfl rfl rfl rfl (by decide) hl.1 rfl rfl (Nat.le_of_ble_eq_true rfl) dX5_first_2 (by decide) (fun r_1 hr_2 => ?_)
  replace hr_2 : r_1 = b1 (0 ≤ a ∧ a < nI (sn_ B)) := hr_2
  subst r_1
  refine lv_if_ne (tgt := 14) hx hb dX5_first_5 (by decide) (fun c_5 => ?_) (fun c_5 => ?_)
  · replace c_5 := b1_n c_5
    obtain ⟨a_, ha_, rfl⟩ := pl_lt (n := sn_ B) (by omega) c_5
    replace hl : lv_has ls 2 [(0, .ref (r 0)), (1, .int (nI a_))] := hl
    refine lv_aload_n hx hb dX5_first_14 rfl (lv_at hl 0 rfl) ?_
    refine lv_iconst (v := 0) hx hb dX5_first_15 (by decide) ?_
    refine lv_bipush (v := 99) hx hb dX5_first_16 (by decide) ?_
    refine kMvV hx hb hml hown hts hK hP hD hA hS gX5_first_X5_findOften okX5_findOften (qX5_findOften l D cI cB r B M 0 99 hI (by decide) (by decide)) [0, 1, 2, 3, 4, 5, 6, 7, 8, 9, 10, 11, 12, 13, 14, 15] rfl (by decide) (fun _ => mW_adr _ _ _ _ _ _) rfl rfl rfl (by decide) hl.1 rfl rfl (Nat.le_of_ble_eq_true rfl) dX5_first_18 (by decide) (fun u_4 H locs hw_5 hP hD hS => ?_)
    replace hw_5 : u_4 = pu_ (fom_ M B 0 100) 2 := hw_5
    obtain ⟨N9, hN9⟩ : ∃ N : Nat, N = 100 := ⟨_, rfl⟩
    rw [← hN9] at hw_5
    have hNu_4 : oN_ M u_4 := by rw [hw_5]; exact oN_fo _ _ _ _
    have eMOF : mof_ u_4 = ofn_ B 0 N9 := fo_mof hw_5
    have eMFA : mfa_ u_4 = fan_ B N9 := fo_mfa hw_5
    have eMLW : mlw_ u_4 = lwn_ B N9 := fo_mlw hw_5
    have eMHG : mhg_ u_4 = hgn_ B N9 := fo_mhg hw_5
    have eMSL : msl_ u_4 = sln_ B N9 := fo_msl hw_5
    have eMHB : mhb_ u_4 = mhb_ M := fo_mhb hw_5
    replace hP : va_P D vwCl (mW cI r B u_4) H := hP
    replace hD : va_D A (mW cI r B u_4) := hD
    refine lv_aload_n hx hb dX5_first_21 rfl (lv_at hl 0 rfl) ?_
    refine va_get (ci := 5) (C := RX5) (T := TX5) (N := 33) hx hb hts hinX5 hown hK.1 hP 0 rfl rfl 25 (by decide) (hts _ (List.mem_of_getElem? (i := 1) rfl)) (fun _ h9 => h9) rfl dX5_first_22 ?_
    refine lv_iload_n hx hb dX5_first_25 rfl (lv_at hl 1 rfl) ?_
    refine jald hx hb hK.1 hP 13 0 a_ rfl rfl rfl (by omega) (Nat.le_of_ble_eq_true rfl) dX5_first_26 ?_
    refine rMi hx hb hr hlk hS u_4 hP ?_ dX5_first_27
    first | (have hW : wS_ (sn_ B) _ = -1 := nb_o c_5; rw [hW]; exact ⟨(if_neg (by decide)).symm, oQ_n _ _⟩) | (have hW : wS_ (sn_ B) _ = 0 := nb_i c_5; rw [hW]; refine ⟨?_, oQ_0 rfl ?_⟩; · (rw [if_pos rfl]; simp only [tn_n (show a_ < 2147483648 by omega)]; subst hN9; exact (congrFun eMFA a_).trans (fan_eq hI ha_)); · (first | exact (oN_mk (by assumption)).m | exact oM_.rf _ | exact (oN_pp _ _).m | exact (oN_fo _ _ _ _).m | assumption | (apply oN_.m; assumption) | exact oM_.tr (by assumption) (by assumption)))
  · replace c_5 := b1_z c_5
    refine lv_aload_n hx hb dX5_first_8 rfl (lv_at hl 0 rfl) ?_
    refine lv_iconst (v := (-1)) hx hb dX5_first_9 (by decide) ?_
    refine kMiV hx hb hml hown hts hK hP hD hA hS gX5_first_X5_no okX5_no (qX5_no l D cI cB r B M (-1) (Or.inl rfl)) [0, 1, 2, 3, 4, 5, 6, 7, 8, 9, 10, 11, 12, 13, 14, 15] rfl (by decide) (fun _ => mW_adr _ _ _ _ _ _) rfl rfl rfl (by decide) hl.1 rfl rfl (Nat.le_of_ble_eq_true rfl) dX5_first_10 (by decide) (fun r_6 u_7 H locs hw_8 hP hD hS => ?_)
    replace hw_8 : r_6 = (-1) ∧ u_7 = (rfm_ M (-1)) := hw_8
    obtain ⟨hw_8a, hw_8b⟩ := hw_8
    subst r_6
    subst u_7
    replace hP : va_P D vwCl ([(r 0, .inr (5, [.ref (r 1), .ref (r 2), .ref (r 3), .ref (r 4), .ref (r 5), .ref (r 6), .int (nI (sn_ B)), .int (qt_ B), .int (il_ B), .int (pa_ B), .int (ho_ B), .int (dy_ B), .ref (r 13), .ref (r 14), .ref (r 15), .ref (r 16), .int (nI (mtn_ M)), .int (nI (mrd_ M)), .int (nI (msm_ M)), .ref (r 20), .int (mhi_ M), .int (mik_ M), .int (nI (mcu_ M)), .int (nI (mbk_ M)), .ref (r 25), .ref (r 26), .int (mlw_ M), .int (mhg_ M), .int (msl_ M), .ref (r 30), .int (nI (mrm_ M)), .ref (r 32), .int (mlo_ M)])), (r 1, .inl (cI, 7, .inl (rfx_ (mrf_ M) (-1)))), (r 2, .inl (cI, 7, .inl (kd_ B))), (r 3, .inl (cI, 7, .inl (fg_ B))), (r 4, .inl (cI, 7, .inl (pl_ B))), (r 5, .inl (cI, 7, .inl (pw_ B))), (r 6, .inl (cI, 7, .inl (jy_ B))), (r 13, .inl (cI, 96, .inl (mtp_ M))), (r 14, .inl (cI, 48, .inl (mlt_ M))), (r 15, .inl (cI, 48, .inl (mla_ M))), (r 16, .inl (cI, 144, .inl (mtd_ M))), (r 20, .inl (cI, 451, .inl (flatK (mkp_ M)))), (r 25, .inl (cI, 7, .inl (mof_ M))), (r 26, .inl (cI, 7, .inl (mfa_ M))), (r 30, .inl (cI, 12, .inl (mrw_ M))), (r 32, .inl (cI, 8, .inl (mhb_ M)))]) H := hP
    replace hD : va_D A ([(r 0, .inr (5, [.ref (r 1), .ref (r 2), .ref (r 3), .ref (r 4), .ref (r 5), .ref (r 6), .int (nI (sn_ B)), .int (qt_ B), .int (il_ B), .int (pa_ B), .int (ho_ B), .int (dy_ B), .ref (r 13), .ref (r 14), .ref (r 15), .ref (r 16), .int (nI (mtn_ M)), .int (nI (mrd_ M)), .int (nI (msm_ M)), .ref (r 20), .int (mhi_ M), .int (mik_ M), .int (nI (mcu_ M)), .int (nI (mbk_ M)), .ref (r 25), .ref (r 26), .int (mlw_ M), .int (mhg_ M), .int (msl_ M), .ref (r 30), .int (nI (mrm_ M)), .ref (r 32), .int (mlo_ M)])), (r 1, .inl (cI, 7, .inl (rfx_ (mrf_ M) (-1)))), (r 2, .inl (cI, 7, .inl (kd_ B))), (r 3, .inl (cI, 7, .inl (fg_ B))), (r 4, .inl (cI, 7, .inl (pl_ B))), (r 5, .inl (cI, 7, .inl (pw_ B))), (r 6, .inl (cI, 7, .inl (jy_ B))), (r 13, .inl (cI, 96, .inl (mtp_ M))), (r 14, .inl (cI, 48, .inl (mlt_ M))), (r 15, .inl (cI, 48, .inl (mla_ M))), (r 16, .inl (cI, 144, .inl (mtd_ M))), (r 20, .inl (cI, 451, .inl (flatK (mkp_ M)))), (r 25, .inl (cI, 7, .inl (mof_ M))), (r 26, .inl (cI, 7, .inl (mfa_ M))), (r 30, .inl (cI, 12, .inl (mrw_ M))), (r 32, .inl (cI, 8, .inl (mhb_ M)))]) := hD
    refine rMi hx hb hr hlk hS (rfm_ M (-1)) hP ?_ dX5_first_13
    first | (have hW : wS_ (sn_ B) _ = -1 := nb_o c_5; rw [hW]; exact ⟨(if_neg (by decide)).symm, oQ_n _ _⟩) | (have hW : wS_ (sn_ B) _ = 0 := nb_i c_5; rw [hW]; refine ⟨?_, oQ_0 rfl ?_⟩; · (rw [if_pos rfl]; simp only [tn_n (show a_ < 2147483648 by omega)]; subst hN9; exact (congrFun eMFA a_).trans (fan_eq hI ha_)); · (first | exact (oN_mk (by assumption)).m | exact oM_.rf _ | exact (oN_pp _ _).m | exact (oN_fo _ _ _ _).m | assumption | (apply oN_.m; assumption) | exact oM_.tr (by assumption) (by assumption)))

theorem okX5_whoFirst : jok yX5_whoFirst wsX5_whoFirst cX5_whoFirst 5 (some .int) 1 := ⟨⟨_, rfl⟩, by decide +kernel, by decide +kernel⟩
set_option maxHeartbeats 2000000 in
set_option maxRecDepth 100000 in
theorem qX5_whoFirst (l : Launch) (D : va_G) (cI cB : ClassId) (r : Nat → Nat) (B : BayT) (M : MT) (q : Int32) (hI : bI_ B) : jMi D cI cB l yX5_whoFirst wsX5_whoFirst 7 [.ref (r 0), .int q] (mW cI r B M) (S := MT) (fun r u => r = (if uk_ q 2 = 0 then wfX_ B q else uk_ q 2) ∧ oQ_ M u (uk_ q 2)) (fun u => mW cI r B u) := by
  refine jMi.of (cc := cX5_whoFirst) (maxL := 5) (ret := (some .int)) okX5_whoFirst (Nat.le_of_ble_eq_true rfl) ?_
  intro p e s m below meth c ls A hx hb hr hts hown hlk hml hP hK hD hA hS hl
  replace hown : s.vm.findClass RX5 = some m.cls := hown
  replace hl : lv_has ls 5 [(0, .ref (r 0)), (1, .int q)] := hl
  have hn7 := hI.1
  have hinX5 : ∀ w ∈ wsX50, w ∈ wsX5_whoFirst := by decide +kernel
  refine lv_iload_n hx hb dX5_whoFirst_0 rfl (lv_at hl 1 rfl) ?_
  refine lv_iconst (v := 0) hx hb dX5_whoFirst_1 (by decide) ?_
  refine lv_iconst (v := 2) hx hb dX5_whoFirst_2 (by decide) ?_
  refine kSiS hx hb hml hown hts hK hP gX5_whoFirst_X5_isIn okX5_isIn (qX5_isIn l D cI cB q 0 2 ) [] rfl (by decide) hl.1 rfl rfl (Nat.le_of_ble_eq_true rfl) dX5_whoFirst_3 (by decide) (fun r_1 hr_2 => ?_)
  replace hr_2 : r_1 = b1 (0 ≤ q ∧ q ≤ 2) := hr_2
  subst r_1
  refine lv_if_ne (tgt := 16) hx hb dX5_whoFirst_6 (by decide) (fun c_6 => ?_) (fun c_6 => ?_)
  · replace c_6 := b1_n c_6
    refine lv_aload_n hx hb dX5_whoFirst_16 rfl (lv_at hl 0 rfl) ?_
    refine lv_iconst (v := 0) hx hb dX5_whoFirst_17 (by decide) ?_
    refine lv_bipush (v := 99) hx hb dX5_whoFirst_18 (by decide) ?_
    refine kMvV hx hb hml hown hts hK hP hD hA hS gX5_whoFirst_X5_findOften okX5_findOften (qX5_findOften l D cI cB r B M 0 99 hI (by decide) (by decide)) [0, 1, 2, 3, 4, 5, 6, 7, 8, 9, 10, 11, 12, 13, 14, 15] rfl (by decide) (fun _ => mW_adr _ _ _ _ _ _) rfl rfl rfl (by decide) hl.1 rfl rfl (Nat.le_of_ble_eq_true rfl) dX5_whoFirst_20 (by decide) (fun u_4 H locs hw_5 hP hD hS => ?_)
    replace hw_5 : u_4 = pu_ (fom_ M B 0 100) 2 := hw_5
    obtain ⟨N9, hN9⟩ : ∃ N : Nat, N = 100 := ⟨_, rfl⟩
    rw [← hN9] at hw_5
    have hNu_4 : oN_ M u_4 := by rw [hw_5]; exact oN_fo _ _ _ _
    have eMOF : mof_ u_4 = ofn_ B 0 N9 := fo_mof hw_5
    have eMFA : mfa_ u_4 = fan_ B N9 := fo_mfa hw_5
    have eMLW : mlw_ u_4 = lwn_ B N9 := fo_mlw hw_5
    have eMHG : mhg_ u_4 = hgn_ B N9 := fo_mhg hw_5
    have eMSL : msl_ u_4 = sln_ B N9 := fo_msl hw_5
    have eMHB : mhb_ u_4 = mhb_ M := fo_mhb hw_5
    replace hP : va_P D vwCl (mW cI r B u_4) H := hP
    replace hD : va_D A (mW cI r B u_4) := hD
    refine lv_bipush (v := (-9)) hx hb dX5_whoFirst_23 (by decide) ?_
    refine lv_istore_n (lv' := [(2, .int (-9)), (0, .ref (r 0)), (1, .int q)]) hx hb dX5_whoFirst_25 rfl hl (by decide) rfl (fun ls hl => ?_)
    refine lv_iconst (v := 0) hx hb dX5_whoFirst_26 (by decide) ?_
    refine lv_istore_n (lv' := [(3, .int 0), (2, .int (-9)), (0, .ref (r 0)), (1, .int q)]) hx hb dX5_whoFirst_27 rfl hl (by decide) rfl (fun ls hl => ?_)
    refine lv_iconst (v := 0) hx hb dX5_whoFirst_28 (by decide) ?_
    refine lv_istore (lv' := [(4, .int 0), (3, .int 0), (2, .int (-9)), (0, .ref (r 0)), (1, .int q)]) hx hb dX5_whoFirst_29 hl (by decide) rfl (fun ls hl => ?_)
    have lp_31 : ∀ (fu_31 : Nat) (i : Nat) (x2_31 : Int32) (x3_31 : Int32) (x4_31 : Int32) , (x2_31 = oI_ (wf_ (fan_ B N9) i)) → (x3_31 = nv_ (fan_ B N9) i) → (x4_31 = nI i) → (i ≤ sn_ B) → sn_ B - i < fu_31 → ∀ (H : Heap) (locs : List Loc), va_P D vwCl (mW cI r B u_4) H → va_D A (mW cI r B u_4) → va_S A s.heap H locs → ∀ ls : Array Slot, lv_has ls 5 [(4, .int x4_31), (3, .int x3_31), (2, .int x2_31), (0, .ref (r 0)), (1, .int q)] → W p l e (jR 7) s m ([.ref (r 0), .int q] : List Value).toArray below meth c H locs 0 0 (MQ below (va_Qi (S := MT) (fun r u => r = (if uk_ q 2 = 0 then wfX_ B q else uk_ q 2) ∧ oQ_ M u (uk_ q 2)) (fun u t => va_P D vwCl ((fun u => mW cI r B u) u) t.heap) A) ([.ref (r 0), .int q] : List Value).toArray s 0 0 A) (F0 m 31 ls []) := by
      intro fu_31
      induction fu_31 with
      | zero => intro i x2_31 x3_31 x4_31 hx2_31 hx3_31 hx4_31 hi hfu; exact absurd hfu (Nat.not_lt_zero _)
      | succ fu_31 ih_31 =>
        intro i x2_31 x3_31 x4_31 hx2_31 hx3_31 hx4_31 hi hfu_31 H locs hP hD hS ls hl
        subst x2_31
        subst x3_31
        subst x4_31
        replace hl : lv_has ls 5 [(4, .int (nI i)), (3, .int (nv_ (fan_ B N9) i)), (2, .int (oI_ (wf_ (fan_ B N9) i))), (0, .ref (r 0)), (1, .int q)] := hl
        replace hP : va_P D vwCl (mW cI r B u_4) H := hP
        replace hD : va_D A (mW cI r B u_4) := hD
        rcases hL : wf_ (fan_ B N9) i with _ | t
        · rw [hL] at hl
          replace hl : lv_has ls 5 [(4, .int (nI i)), (3, .int (nv_ (fan_ B N9) i)), (2, .int (-9)), (0, .ref (r 0)), (1, .int q)] := hl
          refine lv_iload hx hb dX5_whoFirst_31 (lv_at hl 0 rfl) ?_
          refine lv_aload_n hx hb dX5_whoFirst_33 rfl (lv_at hl 3 rfl) ?_
          refine va_get (ci := 5) (C := RX5) (T := TX5) (N := 33) hx hb hts hinX5 hown hK.1 hP 0 rfl rfl 6 (by decide) (hts _ (List.mem_of_getElem? (i := 1) rfl)) (fun _ h9 => h9) rfl dX5_whoFirst_34 ?_
          refine lv_icmp_ge (tgt := 100) hx hb dX5_whoFirst_37 (by decide) (fun c_37 => ?_) (fun c_37 => ?_)
          · replace c_37 : nI (sn_ B) ≤ nI i := c_37
            rw [jle (by omega) (by omega)] at c_37
            refine lv_iload_n hx hb dX5_whoFirst_100 rfl (lv_at hl 4 rfl) ?_
            refine lv_if_ne (tgt := 108) hx hb dX5_whoFirst_101 (by decide) (fun c_101 => ?_) (fun c_101 => ?_)
            · skip
              refine lv_iload_n hx hb dX5_whoFirst_108 rfl (lv_at hl 4 rfl) ?_
              refine lv_iconst (v := 1) hx hb dX5_whoFirst_109 (by decide) ?_
              refine lv_icmp_ne (tgt := 117) hx hb dX5_whoFirst_110 (by decide) (fun c_110 => ?_) (fun c_110 => ?_)
              · skip
                refine lv_aload_n hx hb dX5_whoFirst_117 rfl (lv_at hl 3 rfl) ?_
                refine va_get (ci := 5) (C := RX5) (T := TX5) (N := 33) hx hb hts hinX5 hown hK.1 hP 0 rfl rfl 28 (by decide) (hts _ (List.mem_of_getElem? (i := 3) rfl)) (fun _ h9 => h9) rfl dX5_whoFirst_118 ?_
                refine rMi hx hb hr hlk hS u_4 hP ?_ dX5_whoFirst_121
                first | (have hW : uk_ q 2 = -2 := uk_o c_6; rw [hW]; exact ⟨(if_neg (by decide)).symm, oQ_n _ _⟩) | (have hW : uk_ q 2 = 0 := uk_i c_6; have e9 : i = sn_ B := by omega; rw [e9] at hL; rw [hW]; refine ⟨?_, oQ_0 rfl (oN_mk (by assumption)).m⟩; subst hN9; rw [if_pos rfl]; unfold wfX_; first | (rw [if_pos c_101, ← wf_fo hI, hL]; rfl) | (rw [if_neg c_101, if_pos c_110, e9]; exact nv_eq hI) | (rw [if_neg c_101, if_neg c_110]; exact eMSL.trans (sln_eq B)))
              · skip
                refine lv_iload_n hx hb dX5_whoFirst_113 rfl (lv_at hl 1 rfl) ?_
                refine lv_goto (tgt := 121) hx hb dX5_whoFirst_114 (by decide) ?_
                refine rMi hx hb hr hlk hS u_4 hP ?_ dX5_whoFirst_121
                first | (have hW : uk_ q 2 = -2 := uk_o c_6; rw [hW]; exact ⟨(if_neg (by decide)).symm, oQ_n _ _⟩) | (have hW : uk_ q 2 = 0 := uk_i c_6; have e9 : i = sn_ B := by omega; rw [e9] at hL; rw [hW]; refine ⟨?_, oQ_0 rfl (oN_mk (by assumption)).m⟩; subst hN9; rw [if_pos rfl]; unfold wfX_; first | (rw [if_pos c_101, ← wf_fo hI, hL]; rfl) | (rw [if_neg c_101, if_pos c_110, e9]; exact nv_eq hI) | (rw [if_neg c_101, if_neg c_110]; exact eMSL.trans (sln_eq B)))
            · skip
              refine lv_iload_n hx hb dX5_whoFirst_104 rfl (lv_at hl 2 rfl) ?_
              refine lv_goto (tgt := 121) hx hb dX5_whoFirst_105 (by decide) ?_
              refine rMi hx hb hr hlk hS u_4 hP ?_ dX5_whoFirst_121
              first | (have hW : uk_ q 2 = -2 := uk_o c_6; rw [hW]; exact ⟨(if_neg (by decide)).symm, oQ_n _ _⟩) | (have hW : uk_ q 2 = 0 := uk_i c_6; have e9 : i = sn_ B := by omega; rw [e9] at hL; rw [hW]; refine ⟨?_, oQ_0 rfl (oN_mk (by assumption)).m⟩; subst hN9; rw [if_pos rfl]; unfold wfX_; first | (rw [if_pos c_101, ← wf_fo hI, hL]; rfl) | (rw [if_neg c_101, if_pos c_110, e9]; exact nv_eq hI) | (rw [if_neg c_101, if_neg c_110]; exact eMSL.trans (sln_eq B)))
          · replace c_37 : ¬ nI (sn_ B) ≤ nI i := c_37
            rw [jle (by omega) (by omega)] at c_37
            have jn_59 : ∀   (y9 : Int32), (y9 = (if (fan_ B N9) i < 0 then (1 : Int32) <<< (nI i &&& 31) else 0)) → ∀ (H : Heap) (locs : List Loc), va_P D vwCl (mW cI r B u_4) H → va_D A (mW cI r B u_4) → va_S A s.heap H locs → ∀ ls : Array Slot, lv_has ls 5 [(4, .int (nI i)), (3, .int (nv_ (fan_ B N9) i)), (2, .int (-9)), (0, .ref (r 0)), (1, .int q)] → W p l e (jR 7) s m ([.ref (r 0), .int q] : List Value).toArray below meth c H locs 0 0 (MQ below (va_Qi (S := MT) (fun r u => r = (if uk_ q 2 = 0 then wfX_ B q else uk_ q 2) ∧ oQ_ M u (uk_ q 2)) (fun u t => va_P D vwCl ((fun u => mW cI r B u) u) t.heap) A) ([.ref (r 0), .int q] : List Value).toArray s 0 0 A) (F0 m 59 ls [.int y9, .int (nv_ (fan_ B N9) i)]) := by
                intro y9 hy9 H locs hP hD hS ls hl
                subst y9
                replace hl : lv_has ls 5 [(4, .int (nI i)), (3, .int (nv_ (fan_ B N9) i)), (2, .int (-9)), (0, .ref (r 0)), (1, .int q)] := hl
                replace hP : va_P D vwCl (mW cI r B u_4) H := hP
                replace hD : va_D A (mW cI r B u_4) := hD
                refine lv_ior hx hb dX5_whoFirst_59 ?_
                refine lv_istore_n (lv' := [(3, .int ((nv_ (fan_ B N9) i) ||| (if (fan_ B N9) i < 0 then (1 : Int32) <<< (nI i &&& 31) else 0))), (4, .int (nI i)), (2, .int (-9)), (0, .ref (r 0)), (1, .int q)]) hx hb dX5_whoFirst_60 rfl hl (by decide) rfl (fun ls hl => ?_)
                refine lv_aload_n hx hb dX5_whoFirst_61 rfl (lv_at hl 3 rfl) ?_
                refine va_get (ci := 5) (C := RX5) (T := TX5) (N := 33) hx hb hts hinX5 hown hK.1 hP 0 rfl rfl 25 (by decide) (hts _ (List.mem_of_getElem? (i := 2) rfl)) (fun _ h9 => h9) rfl dX5_whoFirst_62 ?_
                refine lv_iload hx hb dX5_whoFirst_65 (lv_at hl 1 rfl) ?_
                refine jald hx hb hK.1 hP 13 0 i rfl rfl rfl (by omega) (Nat.le_of_ble_eq_true rfl) dX5_whoFirst_67 ?_
                refine sti (x := (mfa_ u_4) i) (y := fan_ B N9 i) (congrFun eMFA i) ?_
                refine lv_if_lt (tgt := 94) hx hb dX5_whoFirst_68 (by decide) (fun c_68 => ?_) (fun c_68 => ?_)
                · have d_68 := Int32.not_le.mpr c_68
                  refine lv_iinc (v := (nI i) + 1) (lv' := [(4, .int ((nI i) + 1)), (3, .int ((nv_ (fan_ B N9) i) ||| (if (fan_ B N9) i < 0 then (1 : Int32) <<< (nI i &&& 31) else 0))), (2, .int (-9)), (0, .ref (r 0)), (1, .int q)]) hx hb dX5_whoFirst_94 hl (k := 1) rfl (by first | rfl | decide) (by decide) rfl (fun ls hl => ?_)
                  refine lv_goto (tgt := 31) hx hb dX5_whoFirst_97 (by decide) ?_
                  exact ih_31 (i + 1) (-9) ((nv_ (fan_ B N9) i) ||| (if (fan_ B N9) i < 0 then (1 : Int32) <<< (nI i &&& 31) else 0)) ((nI i) + 1)  (by first | (rw [wf_d d_68, hL]; rfl) | (rw [wf_a d_68 hL]; rfl) | (rw [wf_b d_68 hL d_88]; rfl) | (rw [wf_c d_68 hL d_88]; rfl)) (rfl) (by first | rfl | exact nI_1 _) (by omega) (by omega) _ _ hP hD hS ls (lv_sub hl [0, 1, 2, 3, 4] rfl)
                · have d_68 := Int32.not_lt.mp c_68
                  refine lv_iload_n hx hb dX5_whoFirst_71 rfl (lv_at hl 2 rfl) ?_
                  refine lv_if_lt (tgt := 91) hx hb dX5_whoFirst_72 (by decide) (fun _ => ?_) (fun q => absurd q (by decide))
                  refine lv_iload hx hb dX5_whoFirst_91 (lv_at hl 1 rfl) ?_
                  refine lv_istore_n (lv' := [(2, .int (nI i)), (3, .int ((nv_ (fan_ B N9) i) ||| (if (fan_ B N9) i < 0 then (1 : Int32) <<< (nI i &&& 31) else 0))), (4, .int (nI i)), (0, .ref (r 0)), (1, .int q)]) hx hb dX5_whoFirst_93 rfl hl (by decide) rfl (fun ls hl => ?_)
                  refine lv_iinc (v := (nI i) + 1) (lv' := [(4, .int ((nI i) + 1)), (2, .int (nI i)), (3, .int ((nv_ (fan_ B N9) i) ||| (if (fan_ B N9) i < 0 then (1 : Int32) <<< (nI i &&& 31) else 0))), (0, .ref (r 0)), (1, .int q)]) hx hb dX5_whoFirst_94 hl (k := 2) rfl (by first | rfl | decide) (by decide) rfl (fun ls hl => ?_)
                  refine lv_goto (tgt := 31) hx hb dX5_whoFirst_97 (by decide) ?_
                  exact ih_31 (i + 1) (nI i) ((nv_ (fan_ B N9) i) ||| (if (fan_ B N9) i < 0 then (1 : Int32) <<< (nI i &&& 31) else 0)) ((nI i) + 1)  (by first | (rw [wf_d d_68, hL]; rfl) | (rw [wf_a d_68 hL]; rfl) | (rw [wf_b d_68 hL d_88]; rfl) | (rw [wf_c d_68 hL d_88]; rfl)) (rfl) (by first | rfl | exact nI_1 _) (by omega) (by omega) _ _ hP hD hS ls (lv_sub hl [0, 2, 1, 3, 4] rfl)
            refine lv_iload_n hx hb dX5_whoFirst_40 rfl (lv_at hl 1 rfl) ?_
            refine lv_aload_n hx hb dX5_whoFirst_41 rfl (lv_at hl 3 rfl) ?_
            refine va_get (ci := 5) (C := RX5) (T := TX5) (N := 33) hx hb hts hinX5 hown hK.1 hP 0 rfl rfl 25 (by decide) (hts _ (List.mem_of_getElem? (i := 2) rfl)) (fun _ h9 => h9) rfl dX5_whoFirst_42 ?_
            refine lv_iload hx hb dX5_whoFirst_45 (lv_at hl 0 rfl) ?_
            refine jald hx hb hK.1 hP 13 0 i rfl rfl rfl (by omega) (Nat.le_of_ble_eq_true rfl) dX5_whoFirst_47 ?_
            refine sti (x := (mfa_ u_4) i) (y := fan_ B N9 i) (congrFun eMFA i) ?_
            refine lv_if_ge (tgt := 58) hx hb dX5_whoFirst_48 (by decide) (fun c_48 => ?_) (fun c_48 => ?_)
            · have d_48 := Int32.not_lt.mpr c_48
              refine lv_iconst (v := 0) hx hb dX5_whoFirst_58 (by decide) ?_
              exact jn_59   0 (by first | exact (if_pos (by first | assumption | exact Int32.not_le.mp (by assumption))).symm | exact (if_neg (by first | assumption | exact Int32.not_lt.mpr (by assumption))).symm)   _ _ hP hD hS ls (lv_sub hl [0, 1, 2, 3, 4] rfl)
            · have d_48 := Int32.not_le.mp c_48
              refine lv_iconst (v := 1) hx hb dX5_whoFirst_51 (by decide) ?_
              refine lv_iload hx hb dX5_whoFirst_52 (lv_at hl 0 rfl) ?_
              refine lv_ishl hx hb dX5_whoFirst_54 ?_
              refine lv_goto (tgt := 59) hx hb dX5_whoFirst_55 (by decide) ?_
              exact jn_59   (1 <<< ((nI i) &&& 31)) (by first | exact (if_pos (by first | assumption | exact Int32.not_le.mp (by assumption))).symm | exact (if_neg (by first | assumption | exact Int32.not_lt.mpr (by assumption))).symm)   _ _ hP hD hS ls (lv_sub hl [0, 1, 2, 3, 4] rfl)
        · rw [hL] at hl
          replace hl : lv_has ls 5 [(4, .int (nI i)), (3, .int (nv_ (fan_ B N9) i)), (2, .int (nI t)), (0, .ref (r 0)), (1, .int q)] := hl
          have ht := (wf_lt _ _ hL).1
          refine lv_iload hx hb dX5_whoFirst_31 (lv_at hl 0 rfl) ?_
          refine lv_aload_n hx hb dX5_whoFirst_33 rfl (lv_at hl 3 rfl) ?_
          refine va_get (ci := 5) (C := RX5) (T := TX5) (N := 33) hx hb hts hinX5 hown hK.1 hP 0 rfl rfl 6 (by decide) (hts _ (List.mem_of_getElem? (i := 1) rfl)) (fun _ h9 => h9) rfl dX5_whoFirst_34 ?_
          refine lv_icmp_ge (tgt := 100) hx hb dX5_whoFirst_37 (by decide) (fun c_37 => ?_) (fun c_37 => ?_)
          · replace c_37 : nI (sn_ B) ≤ nI i := c_37
            rw [jle (by omega) (by omega)] at c_37
            refine lv_iload_n hx hb dX5_whoFirst_100 rfl (lv_at hl 4 rfl) ?_
            refine lv_if_ne (tgt := 108) hx hb dX5_whoFirst_101 (by decide) (fun c_101 => ?_) (fun c_101 => ?_)
            · skip
              refine lv_iload_n hx hb dX5_whoFirst_108 rfl (lv_at hl 4 rfl) ?_
              refine lv_iconst (v := 1) hx hb dX5_whoFirst_109 (by decide) ?_
              refine lv_icmp_ne (tgt := 117) hx hb dX5_whoFirst_110 (by decide) (fun c_110 => ?_) (fun c_110 => ?_)
              · skip
                refine lv_aload_n hx hb dX5_whoFirst_117 rfl (lv_at hl 3 rfl) ?_
                refine va_get (ci := 5) (C := RX5) (T := TX5) (N := 33) hx hb hts hinX5 hown hK.1 hP 0 rfl rfl 28 (by decide) (hts _ (List.mem_of_getElem? (i := 3) rfl)) (fun _ h9 => h9) rfl dX5_whoFirst_118 ?_
                refine rMi hx hb hr hlk hS u_4 hP ?_ dX5_whoFirst_121
                first | (have hW : uk_ q 2 = -2 := uk_o c_6; rw [hW]; exact ⟨(if_neg (by decide)).symm, oQ_n _ _⟩) | (have hW : uk_ q 2 = 0 := uk_i c_6; have e9 : i = sn_ B := by omega; rw [e9] at hL; rw [hW]; refine ⟨?_, oQ_0 rfl (oN_mk (by assumption)).m⟩; subst hN9; rw [if_pos rfl]; unfold wfX_; first | (rw [if_pos c_101, ← wf_fo hI, hL]; rfl) | (rw [if_neg c_101, if_pos c_110, e9]; exact nv_eq hI) | (rw [if_neg c_101, if_neg c_110]; exact eMSL.trans (sln_eq B)))
              · skip
                refine lv_iload_n hx hb dX5_whoFirst_113 rfl (lv_at hl 1 rfl) ?_
                refine lv_goto (tgt := 121) hx hb dX5_whoFirst_114 (by decide) ?_
                refine rMi hx hb hr hlk hS u_4 hP ?_ dX5_whoFirst_121
                first | (have hW : uk_ q 2 = -2 := uk_o c_6; rw [hW]; exact ⟨(if_neg (by decide)).symm, oQ_n _ _⟩) | (have hW : uk_ q 2 = 0 := uk_i c_6; have e9 : i = sn_ B := by omega; rw [e9] at hL; rw [hW]; refine ⟨?_, oQ_0 rfl (oN_mk (by assumption)).m⟩; subst hN9; rw [if_pos rfl]; unfold wfX_; first | (rw [if_pos c_101, ← wf_fo hI, hL]; rfl) | (rw [if_neg c_101, if_pos c_110, e9]; exact nv_eq hI) | (rw [if_neg c_101, if_neg c_110]; exact eMSL.trans (sln_eq B)))
            · skip
              refine lv_iload_n hx hb dX5_whoFirst_104 rfl (lv_at hl 2 rfl) ?_
              refine lv_goto (tgt := 121) hx hb dX5_whoFirst_105 (by decide) ?_
              refine rMi hx hb hr hlk hS u_4 hP ?_ dX5_whoFirst_121
              first | (have hW : uk_ q 2 = -2 := uk_o c_6; rw [hW]; exact ⟨(if_neg (by decide)).symm, oQ_n _ _⟩) | (have hW : uk_ q 2 = 0 := uk_i c_6; have e9 : i = sn_ B := by omega; rw [e9] at hL; rw [hW]; refine ⟨?_, oQ_0 rfl (oN_mk (by assumption)).m⟩; subst hN9; rw [if_pos rfl]; unfold wfX_; first | (rw [if_pos c_101, ← wf_fo hI, hL]; rfl) | (rw [if_neg c_101, if_pos c_110, e9]; exact nv_eq hI) | (rw [if_neg c_101, if_neg c_110]; exact eMSL.trans (sln_eq B)))
          · replace c_37 : ¬ nI (sn_ B) ≤ nI i := c_37
            rw [jle (by omega) (by omega)] at c_37
            have jn_59 : ∀   (y9 : Int32), (y9 = (if (fan_ B N9) i < 0 then (1 : Int32) <<< (nI i &&& 31) else 0)) → ∀ (H : Heap) (locs : List Loc), va_P D vwCl (mW cI r B u_4) H → va_D A (mW cI r B u_4) → va_S A s.heap H locs → ∀ ls : Array Slot, lv_has ls 5 [(4, .int (nI i)), (3, .int (nv_ (fan_ B N9) i)), (2, .int (nI t)), (0, .ref (r 0)), (1, .int q)] → W p l e (jR 7) s m ([.ref (r 0), .int q] : List Value).toArray below meth c H locs 0 0 (MQ below (va_Qi (S := MT) (fun r u => r = (if uk_ q 2 = 0 then wfX_ B q else uk_ q 2) ∧ oQ_ M u (uk_ q 2)) (fun u t => va_P D vwCl ((fun u => mW cI r B u) u) t.heap) A) ([.ref (r 0), .int q] : List Value).toArray s 0 0 A) (F0 m 59 ls [.int y9, .int (nv_ (fan_ B N9) i)]) := by
                intro y9 hy9 H locs hP hD hS ls hl
                subst y9
                replace hl : lv_has ls 5 [(4, .int (nI i)), (3, .int (nv_ (fan_ B N9) i)), (2, .int (nI t)), (0, .ref (r 0)), (1, .int q)] := hl
                replace hP : va_P D vwCl (mW cI r B u_4) H := hP
                replace hD : va_D A (mW cI r B u_4) := hD
                refine lv_ior hx hb dX5_whoFirst_59 ?_
                refine lv_istore_n (lv' := [(3, .int ((nv_ (fan_ B N9) i) ||| (if (fan_ B N9) i < 0 then (1 : Int32) <<< (nI i &&& 31) else 0))), (4, .int (nI i)), (2, .int (nI t)), (0, .ref (r 0)), (1, .int q)]) hx hb dX5_whoFirst_60 rfl hl (by decide) rfl (fun ls hl => ?_)
                refine lv_aload_n hx hb dX5_whoFirst_61 rfl (lv_at hl 3 rfl) ?_
                refine va_get (ci := 5) (C := RX5) (T := TX5) (N := 33) hx hb hts hinX5 hown hK.1 hP 0 rfl rfl 25 (by decide) (hts _ (List.mem_of_getElem? (i := 2) rfl)) (fun _ h9 => h9) rfl dX5_whoFirst_62 ?_
                refine lv_iload hx hb dX5_whoFirst_65 (lv_at hl 1 rfl) ?_
                refine jald hx hb hK.1 hP 13 0 i rfl rfl rfl (by omega) (Nat.le_of_ble_eq_true rfl) dX5_whoFirst_67 ?_
                refine sti (x := (mfa_ u_4) i) (y := fan_ B N9 i) (congrFun eMFA i) ?_
                refine lv_if_lt (tgt := 94) hx hb dX5_whoFirst_68 (by decide) (fun c_68 => ?_) (fun c_68 => ?_)
                · have d_68 := Int32.not_le.mpr c_68
                  refine lv_iinc (v := (nI i) + 1) (lv' := [(4, .int ((nI i) + 1)), (3, .int ((nv_ (fan_ B N9) i) ||| (if (fan_ B N9) i < 0 then (1 : Int32) <<< (nI i &&& 31) else 0))), (2, .int (nI t)), (0, .ref (r 0)), (1, .int q)]) hx hb dX5_whoFirst_94 hl (k := 1) rfl (by first | rfl | decide) (by decide) rfl (fun ls hl => ?_)
                  refine lv_goto (tgt := 31) hx hb dX5_whoFirst_97 (by decide) ?_
                  exact ih_31 (i + 1) (nI t) ((nv_ (fan_ B N9) i) ||| (if (fan_ B N9) i < 0 then (1 : Int32) <<< (nI i &&& 31) else 0)) ((nI i) + 1)  (by first | (rw [wf_d d_68, hL]; rfl) | (rw [wf_a d_68 hL]; rfl) | (rw [wf_b d_68 hL d_88]; rfl) | (rw [wf_c d_68 hL d_88]; rfl)) (rfl) (by first | rfl | exact nI_1 _) (by omega) (by omega) _ _ hP hD hS ls (lv_sub hl [0, 1, 2, 3, 4] rfl)
                · have d_68 := Int32.not_lt.mp c_68
                  refine lv_iload_n hx hb dX5_whoFirst_71 rfl (lv_at hl 2 rfl) ?_
                  refine lv_if_lt (tgt := 91) hx hb dX5_whoFirst_72 (by decide) (fun q => absurd q (nI_pos (by omega))) (fun _ => ?_)
                  refine lv_aload_n hx hb dX5_whoFirst_75 rfl (lv_at hl 3 rfl) ?_
                  refine va_get (ci := 5) (C := RX5) (T := TX5) (N := 33) hx hb hts hinX5 hown hK.1 hP 0 rfl rfl 25 (by decide) (hts _ (List.mem_of_getElem? (i := 2) rfl)) (fun _ h9 => h9) rfl dX5_whoFirst_76 ?_
                  refine lv_iload hx hb dX5_whoFirst_79 (lv_at hl 1 rfl) ?_
                  refine jald hx hb hK.1 hP 13 0 i rfl rfl rfl (by omega) (Nat.le_of_ble_eq_true rfl) dX5_whoFirst_81 ?_
                  refine sti (x := (mfa_ u_4) i) (y := fan_ B N9 i) (congrFun eMFA i) ?_
                  refine lv_aload_n hx hb dX5_whoFirst_82 rfl (lv_at hl 3 rfl) ?_
                  refine va_get (ci := 5) (C := RX5) (T := TX5) (N := 33) hx hb hts hinX5 hown hK.1 hP 0 rfl rfl 25 (by decide) (hts _ (List.mem_of_getElem? (i := 2) rfl)) (fun _ h9 => h9) rfl dX5_whoFirst_83 ?_
                  refine lv_iload_n hx hb dX5_whoFirst_86 rfl (lv_at hl 2 rfl) ?_
                  refine jald hx hb hK.1 hP 13 0 t rfl rfl rfl (by omega) (Nat.le_of_ble_eq_true rfl) dX5_whoFirst_87 ?_
                  refine sti (x := (mfa_ u_4) t) (y := fan_ B N9 t) (congrFun eMFA t) ?_
                  refine lv_icmp_ge (tgt := 94) hx hb dX5_whoFirst_88 (by decide) (fun c_88 => ?_) (fun c_88 => ?_)
                  · have d_88 := Int32.not_lt.mpr c_88
                    refine lv_iinc (v := (nI i) + 1) (lv' := [(4, .int ((nI i) + 1)), (3, .int ((nv_ (fan_ B N9) i) ||| (if (fan_ B N9) i < 0 then (1 : Int32) <<< (nI i &&& 31) else 0))), (2, .int (nI t)), (0, .ref (r 0)), (1, .int q)]) hx hb dX5_whoFirst_94 hl (k := 1) rfl (by first | rfl | decide) (by decide) rfl (fun ls hl => ?_)
                    refine lv_goto (tgt := 31) hx hb dX5_whoFirst_97 (by decide) ?_
                    exact ih_31 (i + 1) (nI t) ((nv_ (fan_ B N9) i) ||| (if (fan_ B N9) i < 0 then (1 : Int32) <<< (nI i &&& 31) else 0)) ((nI i) + 1)  (by first | (rw [wf_d d_68, hL]; rfl) | (rw [wf_a d_68 hL]; rfl) | (rw [wf_b d_68 hL d_88]; rfl) | (rw [wf_c d_68 hL d_88]; rfl)) (rfl) (by first | rfl | exact nI_1 _) (by omega) (by omega) _ _ hP hD hS ls (lv_sub hl [0, 1, 2, 3, 4] rfl)
                  · have d_88 := Int32.not_le.mp c_88
                    refine lv_iload hx hb dX5_whoFirst_91 (lv_at hl 1 rfl) ?_
                    refine lv_istore_n (lv' := [(2, .int (nI i)), (3, .int ((nv_ (fan_ B N9) i) ||| (if (fan_ B N9) i < 0 then (1 : Int32) <<< (nI i &&& 31) else 0))), (4, .int (nI i)), (0, .ref (r 0)), (1, .int q)]) hx hb dX5_whoFirst_93 rfl hl (by decide) rfl (fun ls hl => ?_)
                    refine lv_iinc (v := (nI i) + 1) (lv' := [(4, .int ((nI i) + 1)), (2, .int (nI i)), (3, .int ((nv_ (fan_ B N9) i) ||| (if (fan_ B N9) i < 0 then (1 : Int32) <<< (nI i &&& 31) else 0))), (0, .ref (r 0)), (1, .int q)]) hx hb dX5_whoFirst_94 hl (k := 2) rfl (by first | rfl | decide) (by decide) rfl (fun ls hl => ?_)
                    refine lv_goto (tgt := 31) hx hb dX5_whoFirst_97 (by decide) ?_
                    exact ih_31 (i + 1) (nI i) ((nv_ (fan_ B N9) i) ||| (if (fan_ B N9) i < 0 then (1 : Int32) <<< (nI i &&& 31) else 0)) ((nI i) + 1)  (by first | (rw [wf_d d_68, hL]; rfl) | (rw [wf_a d_68 hL]; rfl) | (rw [wf_b d_68 hL d_88]; rfl) | (rw [wf_c d_68 hL d_88]; rfl)) (rfl) (by first | rfl | exact nI_1 _) (by omega) (by omega) _ _ hP hD hS ls (lv_sub hl [0, 2, 1, 3, 4] rfl)
            refine lv_iload_n hx hb dX5_whoFirst_40 rfl (lv_at hl 1 rfl) ?_
            refine lv_aload_n hx hb dX5_whoFirst_41 rfl (lv_at hl 3 rfl) ?_
            refine va_get (ci := 5) (C := RX5) (T := TX5) (N := 33) hx hb hts hinX5 hown hK.1 hP 0 rfl rfl 25 (by decide) (hts _ (List.mem_of_getElem? (i := 2) rfl)) (fun _ h9 => h9) rfl dX5_whoFirst_42 ?_
            refine lv_iload hx hb dX5_whoFirst_45 (lv_at hl 0 rfl) ?_
            refine jald hx hb hK.1 hP 13 0 i rfl rfl rfl (by omega) (Nat.le_of_ble_eq_true rfl) dX5_whoFirst_47 ?_
            refine sti (x := (mfa_ u_4) i) (y := fan_ B N9 i) (congrFun eMFA i) ?_
            refine lv_if_ge (tgt := 58) hx hb dX5_whoFirst_48 (by decide) (fun c_48 => ?_) (fun c_48 => ?_)
            · have d_48 := Int32.not_lt.mpr c_48
              refine lv_iconst (v := 0) hx hb dX5_whoFirst_58 (by decide) ?_
              exact jn_59   0 (by first | exact (if_pos (by first | assumption | exact Int32.not_le.mp (by assumption))).symm | exact (if_neg (by first | assumption | exact Int32.not_lt.mpr (by assumption))).symm)   _ _ hP hD hS ls (lv_sub hl [0, 1, 2, 3, 4] rfl)
            · have d_48 := Int32.not_le.mp c_48
              refine lv_iconst (v := 1) hx hb dX5_whoFirst_51 (by decide) ?_
              refine lv_iload hx hb dX5_whoFirst_52 (lv_at hl 0 rfl) ?_
              refine lv_ishl hx hb dX5_whoFirst_54 ?_
              refine lv_goto (tgt := 59) hx hb dX5_whoFirst_55 (by decide) ?_
              exact jn_59   (1 <<< ((nI i) &&& 31)) (by first | exact (if_pos (by first | assumption | exact Int32.not_le.mp (by assumption))).symm | exact (if_neg (by first | assumption | exact Int32.not_lt.mpr (by assumption))).symm)   _ _ hP hD hS ls (lv_sub hl [0, 1, 2, 3, 4] rfl)
    exact lp_31 ((sn_ B) + 1) 0 (-9) 0 0  (rfl) (rfl) (by first | rfl | exact nI_0.symm) (by omega) (by omega) _ _ hP hD hS ls (lv_sub hl [0, 1, 2, 3, 4] rfl)
  · replace c_6 := b1_z c_6
    refine lv_aload_n hx hb dX5_whoFirst_9 rfl (lv_at hl 0 rfl) ?_
    refine lv_bipush (v := (-2)) hx hb dX5_whoFirst_10 (by decide) ?_
    refine kMiV hx hb hml hown hts hK hP hD hA hS gX5_whoFirst_X5_no okX5_no (qX5_no l D cI cB r B M (-2) (Or.inr (Or.inl rfl))) [0, 1, 2, 3, 4, 5, 6, 7, 8, 9, 10, 11, 12, 13, 14, 15] rfl (by decide) (fun _ => mW_adr _ _ _ _ _ _) rfl rfl rfl (by decide) hl.1 rfl rfl (Nat.le_of_ble_eq_true rfl) dX5_whoFirst_12 (by decide) (fun r_6 u_7 H locs hw_8 hP hD hS => ?_)
    replace hw_8 : r_6 = (-2) ∧ u_7 = (rfm_ M (-2)) := hw_8
    obtain ⟨hw_8a, hw_8b⟩ := hw_8
    subst r_6
    subst u_7
    replace hP : va_P D vwCl ([(r 0, .inr (5, [.ref (r 1), .ref (r 2), .ref (r 3), .ref (r 4), .ref (r 5), .ref (r 6), .int (nI (sn_ B)), .int (qt_ B), .int (il_ B), .int (pa_ B), .int (ho_ B), .int (dy_ B), .ref (r 13), .ref (r 14), .ref (r 15), .ref (r 16), .int (nI (mtn_ M)), .int (nI (mrd_ M)), .int (nI (msm_ M)), .ref (r 20), .int (mhi_ M), .int (mik_ M), .int (nI (mcu_ M)), .int (nI (mbk_ M)), .ref (r 25), .ref (r 26), .int (mlw_ M), .int (mhg_ M), .int (msl_ M), .ref (r 30), .int (nI (mrm_ M)), .ref (r 32), .int (mlo_ M)])), (r 1, .inl (cI, 7, .inl (rfx_ (mrf_ M) (-2)))), (r 2, .inl (cI, 7, .inl (kd_ B))), (r 3, .inl (cI, 7, .inl (fg_ B))), (r 4, .inl (cI, 7, .inl (pl_ B))), (r 5, .inl (cI, 7, .inl (pw_ B))), (r 6, .inl (cI, 7, .inl (jy_ B))), (r 13, .inl (cI, 96, .inl (mtp_ M))), (r 14, .inl (cI, 48, .inl (mlt_ M))), (r 15, .inl (cI, 48, .inl (mla_ M))), (r 16, .inl (cI, 144, .inl (mtd_ M))), (r 20, .inl (cI, 451, .inl (flatK (mkp_ M)))), (r 25, .inl (cI, 7, .inl (mof_ M))), (r 26, .inl (cI, 7, .inl (mfa_ M))), (r 30, .inl (cI, 12, .inl (mrw_ M))), (r 32, .inl (cI, 8, .inl (mhb_ M)))]) H := hP
    replace hD : va_D A ([(r 0, .inr (5, [.ref (r 1), .ref (r 2), .ref (r 3), .ref (r 4), .ref (r 5), .ref (r 6), .int (nI (sn_ B)), .int (qt_ B), .int (il_ B), .int (pa_ B), .int (ho_ B), .int (dy_ B), .ref (r 13), .ref (r 14), .ref (r 15), .ref (r 16), .int (nI (mtn_ M)), .int (nI (mrd_ M)), .int (nI (msm_ M)), .ref (r 20), .int (mhi_ M), .int (mik_ M), .int (nI (mcu_ M)), .int (nI (mbk_ M)), .ref (r 25), .ref (r 26), .int (mlw_ M), .int (mhg_ M), .int (msl_ M), .ref (r 30), .int (nI (mrm_ M)), .ref (r 32), .int (mlo_ M)])), (r 1, .inl (cI, 7, .inl (rfx_ (mrf_ M) (-2)))), (r 2, .inl (cI, 7, .inl (kd_ B))), (r 3, .inl (cI, 7, .inl (fg_ B))), (r 4, .inl (cI, 7, .inl (pl_ B))), (r 5, .inl (cI, 7, .inl (pw_ B))), (r 6, .inl (cI, 7, .inl (jy_ B))), (r 13, .inl (cI, 96, .inl (mtp_ M))), (r 14, .inl (cI, 48, .inl (mlt_ M))), (r 15, .inl (cI, 48, .inl (mla_ M))), (r 16, .inl (cI, 144, .inl (mtd_ M))), (r 20, .inl (cI, 451, .inl (flatK (mkp_ M)))), (r 25, .inl (cI, 7, .inl (mof_ M))), (r 26, .inl (cI, 7, .inl (mfa_ M))), (r 30, .inl (cI, 12, .inl (mrw_ M))), (r 32, .inl (cI, 8, .inl (mhb_ M)))]) := hD
    refine rMi hx hb hr hlk hS (rfm_ M (-2)) hP ?_ dX5_whoFirst_15
    first | (have hW : uk_ q 2 = -2 := uk_o c_6; rw [hW]; exact ⟨(if_neg (by decide)).symm, oQ_n _ _⟩) | (have hW : uk_ q 2 = 0 := uk_i c_6; have e9 : i = sn_ B := by omega; rw [e9] at hL; rw [hW]; refine ⟨?_, oQ_0 rfl (oN_mk (by assumption)).m⟩; subst hN9; rw [if_pos rfl]; unfold wfX_; first | (rw [if_pos c_101, ← wf_fo hI, hL]; rfl) | (rw [if_neg c_101, if_pos c_110, e9]; exact nv_eq hI) | (rw [if_neg c_101, if_neg c_110]; exact eMSL.trans (sln_eq B)))

theorem okX5_most : jok yX5_most wsX5_most cX5_most 7 (some .int) 2 := ⟨⟨_, rfl⟩, by decide +kernel, by decide +kernel⟩
set_option maxHeartbeats 2000000 in
set_option maxRecDepth 100000 in
theorem qX5_most (l : Launch) (D : va_G) (cI cB : ClassId) (r : Nat → Nat) (B : BayT) (M : MT) (v : Int32) (q : Int32) (hI : bI_ B) : jMi D cI cB l yX5_most wsX5_most 7 [.ref (r 0), .int v, .int q] (mW cI r B M) (S := MT) (fun r u => r = (if wNW_ v q = 0 then moX_ B (tn_ v) q else wNW_ v q) ∧ oQ_ M u (wNW_ v q)) (fun u => mW cI r B u) := by
  refine jMi.of (cc := cX5_most) (maxL := 7) (ret := (some .int)) okX5_most (Nat.le_of_ble_eq_true rfl) ?_
  intro p e s m below meth c ls A hx hb hr hts hown hlk hml hP hK hD hA hS hl
  replace hown : s.vm.findClass RX5 = some m.cls := hown
  replace hl : lv_has ls 7 [(0, .ref (r 0)), (1, .int v), (2, .int q)] := hl
  have hn7 := hI.1
  have hinX5 : ∀ w ∈ wsX50, w ∈ wsX5_most := by decide +kernel
  refine lv_iload_n hx hb dX5_most_0 rfl (lv_at hl 1 rfl) ?_
  refine kSiS hx hb hml hown hts hK hP gX5_most_X5_notHours okX5_notHours (qX5_notHours l D cI cB v ) [] rfl (by decide) hl.1 rfl rfl (Nat.le_of_ble_eq_true rfl) dX5_most_1 (by decide) (fun r_1 hr_2 => ?_)
  replace hr_2 : r_1 = ob_ v 0 99 := hr_2
  subst r_1
  refine lv_istore_n (lv' := [(3, .int (ob_ v 0 99)), (0, .ref (r 0)), (1, .int v), (2, .int q)]) hx hb dX5_most_4 rfl hl (by decide) rfl (fun ls hl => ?_)
  have jn_21 : ∀  (x3_21 : Int32) , (x3_21 = wNW_ v q) → ∀ (H : Heap) (locs : List Loc), va_P D vwCl (mW cI r B M) H → va_D A (mW cI r B M) → va_S A s.heap H locs → ∀ ls : Array Slot, lv_has ls 7 [(3, .int x3_21), (0, .ref (r 0)), (1, .int v), (2, .int q)] → W p l e (jR 7) s m ([.ref (r 0), .int v, .int q] : List Value).toArray below meth c H locs 0 0 (MQ below (va_Qi (S := MT) (fun r u => r = (if wNW_ v q = 0 then moX_ B (tn_ v) q else wNW_ v q) ∧ oQ_ M u (wNW_ v q)) (fun u t => va_P D vwCl ((fun u => mW cI r B u) u) t.heap) A) ([.ref (r 0), .int v, .int q] : List Value).toArray s 0 0 A) (F0 m 21 ls []) := by
      intro x3_21 hx3_21 H locs hP hD hS ls hl
      subst x3_21
      replace hl : lv_has ls 7 [(3, .int (wNW_ v q)), (0, .ref (r 0)), (1, .int v), (2, .int q)] := hl
      replace hP : va_P D vwCl (mW cI r B M) H := hP
      replace hD : va_D A (mW cI r B M) := hD
      refine lv_iload_n hx hb dX5_most_21 rfl (lv_at hl 0 rfl) ?_
      refine lv_if_eq (tgt := 31) hx hb dX5_most_22 (by decide) (fun c_22 => ?_) (fun c_22 => ?_)
      · skip
        have w0 := c_22
        simp only [wS_, wSN_, wSNW_, wNW_, wTh_, wTr_, f2_0, nb_0, ob_0, uk_0, lo_0, hi_0] at w0
        obtain ⟨v_, hv_, rfl⟩ := pl_le (n := 99) (by decide) w0.1
        replace hl : lv_has ls 7 [(3, .int (wNW_ (nI v_) q)), (0, .ref (r 0)), (1, .int (nI v_)), (2, .int q)] := hl
        refine lv_aload_n hx hb dX5_most_31 rfl (lv_at hl 1 rfl) ?_
        refine lv_iconst (v := 1) hx hb dX5_most_32 (by decide) ?_
        refine lv_iload_n hx hb dX5_most_33 rfl (lv_at hl 2 rfl) ?_
        refine kMvV hx hb hml hown hts hK hP hD hA hS gX5_most_X5_findOften okX5_findOften (qX5_findOften l D cI cB r B M 1 v_ hI (by decide) (by omega)) [0, 1, 2, 3, 4, 5, 6, 7, 8, 9, 10, 11, 12, 13, 14, 15] rfl (by decide) (fun _ => mW_adr _ _ _ _ _ _) rfl rfl rfl (by decide) hl.1 rfl rfl (Nat.le_of_ble_eq_true rfl) dX5_most_34 (by decide) (fun u_4 H locs hw_5 hP hD hS => ?_)
        replace hw_5 : u_4 = pu_ (fom_ M B 1 (v_ + 1)) 2 := hw_5
        have hNu_4 : oN_ M u_4 := by rw [hw_5]; exact oN_fo _ _ _ _
        have eMOF : mof_ u_4 = ofn_ B 1 (v_ + 1) := fo_mof hw_5
        have eMFA : mfa_ u_4 = fan_ B (v_ + 1) := fo_mfa hw_5
        have eMLW : mlw_ u_4 = lwn_ B (v_ + 1) := fo_mlw hw_5
        have eMHG : mhg_ u_4 = hgn_ B (v_ + 1) := fo_mhg hw_5
        have eMSL : msl_ u_4 = sln_ B (v_ + 1) := fo_msl hw_5
        have eMHB : mhb_ u_4 = mhb_ M := fo_mhb hw_5
        replace hP : va_P D vwCl (mW cI r B u_4) H := hP
        replace hD : va_D A (mW cI r B u_4) := hD
        refine lv_bipush (v := (-9)) hx hb dX5_most_37 (by decide) ?_
        refine lv_istore (lv' := [(4, .int (-9)), (3, .int (wNW_ (nI v_) q)), (0, .ref (r 0)), (1, .int (nI v_)), (2, .int q)]) hx hb dX5_most_39 hl (by decide) rfl (fun ls hl => ?_)
        refine lv_iconst (v := 0) hx hb dX5_most_41 (by decide) ?_
        refine lv_istore (lv' := [(5, .int 0), (4, .int (-9)), (3, .int (wNW_ (nI v_) q)), (0, .ref (r 0)), (1, .int (nI v_)), (2, .int q)]) hx hb dX5_most_42 hl (by decide) rfl (fun ls hl => ?_)
        refine lv_iconst (v := 0) hx hb dX5_most_44 (by decide) ?_
        refine lv_istore (lv' := [(6, .int 0), (5, .int 0), (4, .int (-9)), (3, .int (wNW_ (nI v_) q)), (0, .ref (r 0)), (1, .int (nI v_)), (2, .int q)]) hx hb dX5_most_45 hl (by decide) rfl (fun ls hl => ?_)
        have lp_47 : ∀ (fu_47 : Nat) (i : Nat) (x4_47 : Int32) (x5_47 : Int32) (x6_47 : Int32) , (x4_47 = oI_ (bs_ (fun j => tc_ B j v_) 0 i).1) → (x5_47 = (bs_ (fun j => tc_ B j v_) 0 i).2) → (x6_47 = nI i) → (i ≤ sn_ B) → sn_ B - i < fu_47 → ∀ (H : Heap) (locs : List Loc), va_P D vwCl (mW cI r B u_4) H → va_D A (mW cI r B u_4) → va_S A s.heap H locs → ∀ ls : Array Slot, lv_has ls 7 [(6, .int x6_47), (5, .int x5_47), (4, .int x4_47), (3, .int (wNW_ (nI v_) q)), (0, .ref (r 0)), (1, .int (nI v_)), (2, .int q)] → W p l e (jR 7) s m ([.ref (r 0), .int (nI v_), .int q] : List Value).toArray below meth c H locs 0 0 (MQ below (va_Qi (S := MT) (fun r u => r = (if wNW_ (nI v_) q = 0 then moX_ B (tn_ (nI v_)) q else wNW_ (nI v_) q) ∧ oQ_ M u (wNW_ (nI v_) q)) (fun u t => va_P D vwCl ((fun u => mW cI r B u) u) t.heap) A) ([.ref (r 0), .int (nI v_), .int q] : List Value).toArray s 0 0 A) (F0 m 47 ls []) := by
          intro fu_47
          induction fu_47 with
          | zero => intro i x4_47 x5_47 x6_47 hx4_47 hx5_47 hx6_47 hi hfu; exact absurd hfu (Nat.not_lt_zero _)
          | succ fu_47 ih_47 =>
            intro i x4_47 x5_47 x6_47 hx4_47 hx5_47 hx6_47 hi hfu_47 H locs hP hD hS ls hl
            subst x4_47
            subst x5_47
            subst x6_47
            replace hl : lv_has ls 7 [(6, .int (nI i)), (5, .int ((bs_ (fun j => tc_ B j v_) 0 i).2)), (4, .int (oI_ (bs_ (fun j => tc_ B j v_) 0 i).1)), (3, .int (wNW_ (nI v_) q)), (0, .ref (r 0)), (1, .int (nI v_)), (2, .int q)] := hl
            replace hP : va_P D vwCl (mW cI r B u_4) H := hP
            replace hD : va_D A (mW cI r B u_4) := hD
            refine lv_iload hx hb dX5_most_47 (lv_at hl 0 rfl) ?_
            refine lv_aload_n hx hb dX5_most_49 rfl (lv_at hl 4 rfl) ?_
            refine va_get (ci := 5) (C := RX5) (T := TX5) (N := 33) hx hb hts hinX5 hown hK.1 hP 0 rfl rfl 6 (by decide) (hts _ (List.mem_of_getElem? (i := 1) rfl)) (fun _ h9 => h9) rfl dX5_most_50 ?_
            refine lv_icmp_ge (tgt := 90) hx hb dX5_most_53 (by decide) (fun c_53 => ?_) (fun c_53 => ?_)
            · replace c_53 : nI (sn_ B) ≤ nI i := c_53
              rw [jle (by omega) (by omega)] at c_53
              refine lv_iload_n hx hb dX5_most_90 rfl (lv_at hl 6 rfl) ?_
              refine lv_if_ne (tgt := 99) hx hb dX5_most_91 (by decide) (fun c_91 => ?_) (fun c_91 => ?_)
              · skip
                refine lv_iload hx hb dX5_most_99 (lv_at hl 1 rfl) ?_
                refine rMi hx hb hr hlk hS u_4 hP ?_ dX5_most_101
                first | exact ⟨(if_neg c_22).symm, oQ_n _ _⟩ | (refine ⟨?_, oQ_0 c_22 ?_⟩; · (rw [if_pos c_22]; simp only [tn_n (show v_ < 2147483648 by omega)]; rw [moX_eq, show i = sn_ B by omega]; first | (rw [if_pos c_91]; done) | (rw [if_neg c_91]; done) | (rw [if_pos c_91]; rfl) | (rw [if_neg c_91]; rfl)); · (first | exact (oN_mk (by assumption)).m | exact oM_.rf _ | exact (oN_pp _ _).m | exact (oN_fo _ _ _ _).m | assumption | (apply oN_.m; assumption) | exact oM_.tr (by assumption) (by assumption)))
              · skip
                refine lv_iload hx hb dX5_most_94 (lv_at hl 2 rfl) ?_
                refine lv_goto (tgt := 101) hx hb dX5_most_96 (by decide) ?_
                refine rMi hx hb hr hlk hS u_4 hP ?_ dX5_most_101
                first | exact ⟨(if_neg c_22).symm, oQ_n _ _⟩ | (refine ⟨?_, oQ_0 c_22 ?_⟩; · (rw [if_pos c_22]; simp only [tn_n (show v_ < 2147483648 by omega)]; rw [moX_eq, show i = sn_ B by omega]; first | (rw [if_pos c_91]; done) | (rw [if_neg c_91]; done) | (rw [if_pos c_91]; rfl) | (rw [if_neg c_91]; rfl)); · (first | exact (oN_mk (by assumption)).m | exact oM_.rf _ | exact (oN_pp _ _).m | exact (oN_fo _ _ _ _).m | assumption | (apply oN_.m; assumption) | exact oM_.tr (by assumption) (by assumption)))
            · replace c_53 : ¬ nI (sn_ B) ≤ nI i := c_53
              rw [jle (by omega) (by omega)] at c_53
              refine lv_aload_n hx hb dX5_most_56 rfl (lv_at hl 4 rfl) ?_
              refine va_get (ci := 5) (C := RX5) (T := TX5) (N := 33) hx hb hts hinX5 hown hK.1 hP 0 rfl rfl 24 (by decide) (hts _ (List.mem_of_getElem? (i := 2) rfl)) (fun _ h9 => h9) rfl dX5_most_57 ?_
              refine lv_iload hx hb dX5_most_60 (lv_at hl 0 rfl) ?_
              refine jald hx hb hK.1 hP 12 0 i rfl rfl rfl (by omega) (Nat.le_of_ble_eq_true rfl) dX5_most_62 ?_
              refine sti (x := (mof_ u_4) i) (y := tc_ B i v_) ((congrFun eMOF i).trans (ofn_tc hI (by omega) _)) ?_
              refine lv_iload hx hb dX5_most_63 (lv_at hl 1 rfl) ?_
              refine lv_icmp_gt (tgt := 71) hx hb dX5_most_65 (by decide) (fun c_65 => ?_) (fun c_65 => ?_)
              · have d_65 := Int32.not_le.mpr c_65
                refine lv_iload hx hb dX5_most_71 (lv_at hl 0 rfl) ?_
                refine lv_istore (lv' := [(4, .int (nI i)), (6, .int (nI i)), (5, .int ((bs_ (fun j => tc_ B j v_) 0 i).2)), (3, .int (wNW_ (nI v_) q)), (0, .ref (r 0)), (1, .int (nI v_)), (2, .int q)]) hx hb dX5_most_73 hl (by decide) rfl (fun ls hl => ?_)
                refine lv_aload_n hx hb dX5_most_75 rfl (lv_at hl 4 rfl) ?_
                refine va_get (ci := 5) (C := RX5) (T := TX5) (N := 33) hx hb hts hinX5 hown hK.1 hP 0 rfl rfl 24 (by decide) (hts _ (List.mem_of_getElem? (i := 2) rfl)) (fun _ h9 => h9) rfl dX5_most_76 ?_
                refine lv_iload hx hb dX5_most_79 (lv_at hl 1 rfl) ?_
                refine jald hx hb hK.1 hP 12 0 i rfl rfl rfl (by omega) (Nat.le_of_ble_eq_true rfl) dX5_most_81 ?_
                refine sti (x := (mof_ u_4) i) (y := tc_ B i v_) ((congrFun eMOF i).trans (ofn_tc hI (by omega) _)) ?_
                refine lv_istore (lv' := [(5, .int (tc_ B i v_)), (4, .int (nI i)), (6, .int (nI i)), (3, .int (wNW_ (nI v_) q)), (0, .ref (r 0)), (1, .int (nI v_)), (2, .int q)]) hx hb dX5_most_82 hl (by decide) rfl (fun ls hl => ?_)
                refine lv_iinc (v := (nI i) + 1) (lv' := [(6, .int ((nI i) + 1)), (5, .int (tc_ B i v_)), (4, .int (nI i)), (3, .int (wNW_ (nI v_) q)), (0, .ref (r 0)), (1, .int (nI v_)), (2, .int q)]) hx hb dX5_most_84 hl (k := 2) rfl (by first | rfl | decide) (by decide) rfl (fun ls hl => ?_)
                refine lv_goto (tgt := 47) hx hb dX5_most_87 (by decide) ?_
                exact ih_47 (i + 1) (nI i) (tc_ B i v_) ((nI i) + 1)  (by first | exact bs_o1 (f := fun j => tc_ B j v_) rfl d_65 | exact bs_o2 (f := fun j => tc_ B j v_) rfl d_65) (by first | exact bs_m1 (f := fun j => tc_ B j v_) rfl d_65 | exact bs_m2 (f := fun j => tc_ B j v_) rfl d_65) (by first | rfl | exact nI_1 _) (by omega) (by omega) _ _ hP hD hS ls (lv_sub hl [0, 1, 2, 3, 4, 5, 6] rfl)
              · have d_65 := Int32.not_lt.mp c_65
                refine lv_goto (tgt := 84) hx hb dX5_most_68 (by decide) ?_
                refine lv_iinc (v := (nI i) + 1) (lv' := [(6, .int ((nI i) + 1)), (5, .int ((bs_ (fun j => tc_ B j v_) 0 i).2)), (4, .int (oI_ (bs_ (fun j => tc_ B j v_) 0 i).1)), (3, .int (wNW_ (nI v_) q)), (0, .ref (r 0)), (1, .int (nI v_)), (2, .int q)]) hx hb dX5_most_84 hl (k := 0) rfl (by first | rfl | decide) (by decide) rfl (fun ls hl => ?_)
                refine lv_goto (tgt := 47) hx hb dX5_most_87 (by decide) ?_
                exact ih_47 (i + 1) (oI_ (bs_ (fun j => tc_ B j v_) 0 i).1) ((bs_ (fun j => tc_ B j v_) 0 i).2) ((nI i) + 1)  (by first | exact bs_o1 (f := fun j => tc_ B j v_) rfl d_65 | exact bs_o2 (f := fun j => tc_ B j v_) rfl d_65) (by first | exact bs_m1 (f := fun j => tc_ B j v_) rfl d_65 | exact bs_m2 (f := fun j => tc_ B j v_) rfl d_65) (by first | rfl | exact nI_1 _) (by omega) (by omega) _ _ hP hD hS ls (lv_sub hl [0, 1, 2, 3, 4, 5, 6] rfl)
        exact lp_47 ((sn_ B) + 1) 0 (-9) 0 0  (rfl) (rfl) (by first | rfl | exact nI_0.symm) (by omega) (by omega) _ _ hP hD hS ls (lv_sub hl [0, 1, 2, 3, 4, 5, 6] rfl)
      · skip
        refine lv_aload_n hx hb dX5_most_25 rfl (lv_at hl 1 rfl) ?_
        refine lv_iload_n hx hb dX5_most_26 rfl (lv_at hl 0 rfl) ?_
        refine kMiV hx hb hml hown hts hK hP hD hA hS gX5_most_X5_no okX5_no (qX5_no l D cI cB r B M (wNW_ v q) (rc0_n (by first | exact rc0_wS _ _ | exact rc0_wSN _ _ _ | exact rc0_wSNW _ _ _ _ | exact rc0_wNW _ _ | exact rc0_wTh _ _ _ _ _ | exact rc0_wTr _ _ _ _ | exact rc0_nb _ _ | exact rc0_uk _ _ | exact rc0_ob _ _ _ | exact rc0_f2 (rc0_nb _ _) (rc0_nb _ _) | exact rc0_f2 (rc0_nb _ _) (rc0_uk _ _) | exact rc0_f2 (rc0_ob _ _ _) (rc0_uk _ _) | exact rc0_f2 (rc0_uk _ _) (rc0_f2 (rc0_uk _ _) (rc0_ob _ _ _))) c_22)) [0, 1, 2, 3, 4, 5, 6, 7, 8, 9, 10, 11, 12, 13, 14, 15] rfl (by decide) (fun _ => mW_adr _ _ _ _ _ _) rfl rfl rfl (by decide) hl.1 rfl rfl (Nat.le_of_ble_eq_true rfl) dX5_most_27 (by decide) (fun r_6 u_7 H locs hw_8 hP hD hS => ?_)
        replace hw_8 : r_6 = wNW_ v q ∧ u_7 = (rfm_ M (wNW_ v q)) := hw_8
        obtain ⟨hw_8a, hw_8b⟩ := hw_8
        subst r_6
        subst u_7
        replace hP : va_P D vwCl ([(r 0, .inr (5, [.ref (r 1), .ref (r 2), .ref (r 3), .ref (r 4), .ref (r 5), .ref (r 6), .int (nI (sn_ B)), .int (qt_ B), .int (il_ B), .int (pa_ B), .int (ho_ B), .int (dy_ B), .ref (r 13), .ref (r 14), .ref (r 15), .ref (r 16), .int (nI (mtn_ M)), .int (nI (mrd_ M)), .int (nI (msm_ M)), .ref (r 20), .int (mhi_ M), .int (mik_ M), .int (nI (mcu_ M)), .int (nI (mbk_ M)), .ref (r 25), .ref (r 26), .int (mlw_ M), .int (mhg_ M), .int (msl_ M), .ref (r 30), .int (nI (mrm_ M)), .ref (r 32), .int (mlo_ M)])), (r 1, .inl (cI, 7, .inl (rfx_ (mrf_ M) (wNW_ v q)))), (r 2, .inl (cI, 7, .inl (kd_ B))), (r 3, .inl (cI, 7, .inl (fg_ B))), (r 4, .inl (cI, 7, .inl (pl_ B))), (r 5, .inl (cI, 7, .inl (pw_ B))), (r 6, .inl (cI, 7, .inl (jy_ B))), (r 13, .inl (cI, 96, .inl (mtp_ M))), (r 14, .inl (cI, 48, .inl (mlt_ M))), (r 15, .inl (cI, 48, .inl (mla_ M))), (r 16, .inl (cI, 144, .inl (mtd_ M))), (r 20, .inl (cI, 451, .inl (flatK (mkp_ M)))), (r 25, .inl (cI, 7, .inl (mof_ M))), (r 26, .inl (cI, 7, .inl (mfa_ M))), (r 30, .inl (cI, 12, .inl (mrw_ M))), (r 32, .inl (cI, 8, .inl (mhb_ M)))]) H := hP
        replace hD : va_D A ([(r 0, .inr (5, [.ref (r 1), .ref (r 2), .ref (r 3), .ref (r 4), .ref (r 5), .ref (r 6), .int (nI (sn_ B)), .int (qt_ B), .int (il_ B), .int (pa_ B), .int (ho_ B), .int (dy_ B), .ref (r 13), .ref (r 14), .ref (r 15), .ref (r 16), .int (nI (mtn_ M)), .int (nI (mrd_ M)), .int (nI (msm_ M)), .ref (r 20), .int (mhi_ M), .int (mik_ M), .int (nI (mcu_ M)), .int (nI (mbk_ M)), .ref (r 25), .ref (r 26), .int (mlw_ M), .int (mhg_ M), .int (msl_ M), .ref (r 30), .int (nI (mrm_ M)), .ref (r 32), .int (mlo_ M)])), (r 1, .inl (cI, 7, .inl (rfx_ (mrf_ M) (wNW_ v q)))), (r 2, .inl (cI, 7, .inl (kd_ B))), (r 3, .inl (cI, 7, .inl (fg_ B))), (r 4, .inl (cI, 7, .inl (pl_ B))), (r 5, .inl (cI, 7, .inl (pw_ B))), (r 6, .inl (cI, 7, .inl (jy_ B))), (r 13, .inl (cI, 96, .inl (mtp_ M))), (r 14, .inl (cI, 48, .inl (mlt_ M))), (r 15, .inl (cI, 48, .inl (mla_ M))), (r 16, .inl (cI, 144, .inl (mtd_ M))), (r 20, .inl (cI, 451, .inl (flatK (mkp_ M)))), (r 25, .inl (cI, 7, .inl (mof_ M))), (r 26, .inl (cI, 7, .inl (mfa_ M))), (r 30, .inl (cI, 12, .inl (mrw_ M))), (r 32, .inl (cI, 8, .inl (mhb_ M)))]) := hD
        refine rMi hx hb hr hlk hS (rfm_ M (wNW_ v q)) hP ?_ dX5_most_30
        first | exact ⟨(if_neg c_22).symm, oQ_n _ _⟩ | (refine ⟨?_, oQ_0 c_22 ?_⟩; · (rw [if_pos c_22]; simp only [tn_n (show v_ < 2147483648 by omega)]; rw [moX_eq, show i = sn_ B by omega]; first | (rw [if_pos c_91]; done) | (rw [if_neg c_91]; done) | (rw [if_pos c_91]; rfl) | (rw [if_neg c_91]; rfl)); · (first | exact (oN_mk (by assumption)).m | exact oM_.rf _ | exact (oN_pp _ _).m | exact (oN_fo _ _ _ _).m | assumption | (apply oN_.m; assumption) | exact oM_.tr (by assumption) (by assumption)))
  refine lv_iload_n hx hb dX5_most_5 rfl (lv_at hl 0 rfl) ?_
  refine lv_if_ne (tgt := 21) hx hb dX5_most_6 (by decide) (fun c_6 => ?_) (fun c_6 => ?_)
  · skip
    exact jn_21  (ob_ v 0 99)  (by first | exact (f2_a c_6).symm | exact c_6.trans ((f2_b c_6).trans (uk_i c_15)).symm | exact ((f2_b c_6).trans (uk_o c_15)).symm)   _ _ hP hD hS ls (lv_sub hl [0, 1, 2, 3] rfl)
  · skip
    refine lv_iload_n hx hb dX5_most_9 rfl (lv_at hl 3 rfl) ?_
    refine lv_iconst (v := 0) hx hb dX5_most_10 (by decide) ?_
    refine lv_iconst (v := 1) hx hb dX5_most_11 (by decide) ?_
    refine kSiS hx hb hml hown hts hK hP gX5_most_X5_isIn okX5_isIn (qX5_isIn l D cI cB q 0 1 ) [] rfl (by decide) hl.1 rfl rfl (Nat.le_of_ble_eq_true rfl) dX5_most_12 (by decide) (fun r_9 hr_10 => ?_)
    replace hr_10 : r_9 = b1 (0 ≤ q ∧ q ≤ 1) := hr_10
    subst r_9
    refine lv_if_ne (tgt := 21) hx hb dX5_most_15 (by decide) (fun c_15 => ?_) (fun c_15 => ?_)
    · replace c_15 := b1_n c_15
      exact jn_21  (ob_ v 0 99)  (by first | exact (f2_a c_6).symm | exact c_6.trans ((f2_b c_6).trans (uk_i c_15)).symm | exact ((f2_b c_6).trans (uk_o c_15)).symm)   _ _ hP hD hS ls (lv_sub hl [0, 1, 2, 3] rfl)
    · replace c_15 := b1_z c_15
      refine lv_bipush (v := (-2)) hx hb dX5_most_18 (by decide) ?_
      refine lv_istore_n (lv' := [(3, .int (-2)), (0, .ref (r 0)), (1, .int v), (2, .int q)]) hx hb dX5_most_20 rfl hl (by decide) rfl (fun ls hl => ?_)
      exact jn_21  (-2)  (by first | exact (f2_a c_6).symm | exact c_6.trans ((f2_b c_6).trans (uk_i c_15)).symm | exact ((f2_b c_6).trans (uk_o c_15)).symm)   _ _ hP hD hS ls (lv_sub hl [0, 1, 2, 3] rfl)

theorem okX5_farthest : jok yX5_farthest wsX5_farthest cX5_farthest 4 (some .int) 2 := ⟨⟨_, rfl⟩, by decide +kernel, by decide +kernel⟩
set_option maxHeartbeats 2000000 in
set_option maxRecDepth 100000 in
theorem qX5_farthest (l : Launch) (D : va_G) (cI cB : ClassId) (r : Nat → Nat) (B : BayT) (M : MT) (v : Int32) (q : Int32) (hI : bI_ B) : jMi D cI cB l yX5_farthest wsX5_farthest 7 [.ref (r 0), .int v, .int q] (mW cI r B M) (S := MT) (fun r u => r = (if wNW_ v q = 0 then (if q = 0 then lp_ B (tn_ v) else gp_ B (tn_ v)) else wNW_ v q) ∧ oQ_ M u (wNW_ v q)) (fun u => mW cI r B u) := by
  refine jMi.of (cc := cX5_farthest) (maxL := 4) (ret := (some .int)) okX5_farthest (Nat.le_of_ble_eq_true rfl) ?_
  intro p e s m below meth c ls A hx hb hr hts hown hlk hml hP hK hD hA hS hl
  replace hown : s.vm.findClass RX5 = some m.cls := hown
  replace hl : lv_has ls 4 [(0, .ref (r 0)), (1, .int v), (2, .int q)] := hl
  have hn7 := hI.1
  have hinX5 : ∀ w ∈ wsX50, w ∈ wsX5_farthest := by decide +kernel
  refine lv_iload_n hx hb dX5_farthest_0 rfl (lv_at hl 1 rfl) ?_
  refine kSiS hx hb hml hown hts hK hP gX5_farthest_X5_notHours okX5_notHours (qX5_notHours l D cI cB v ) [] rfl (by decide) hl.1 rfl rfl (Nat.le_of_ble_eq_true rfl) dX5_farthest_1 (by decide) (fun r_1 hr_2 => ?_)
  replace hr_2 : r_1 = ob_ v 0 99 := hr_2
  subst r_1
  refine lv_istore_n (lv' := [(3, .int (ob_ v 0 99)), (0, .ref (r 0)), (1, .int v), (2, .int q)]) hx hb dX5_farthest_4 rfl hl (by decide) rfl (fun ls hl => ?_)
  have jn_21 : ∀  (x3_21 : Int32) , (x3_21 = wNW_ v q) → ∀ (H : Heap) (locs : List Loc), va_P D vwCl (mW cI r B M) H → va_D A (mW cI r B M) → va_S A s.heap H locs → ∀ ls : Array Slot, lv_has ls 4 [(3, .int x3_21), (0, .ref (r 0)), (1, .int v), (2, .int q)] → W p l e (jR 7) s m ([.ref (r 0), .int v, .int q] : List Value).toArray below meth c H locs 0 0 (MQ below (va_Qi (S := MT) (fun r u => r = (if wNW_ v q = 0 then (if q = 0 then lp_ B (tn_ v) else gp_ B (tn_ v)) else wNW_ v q) ∧ oQ_ M u (wNW_ v q)) (fun u t => va_P D vwCl ((fun u => mW cI r B u) u) t.heap) A) ([.ref (r 0), .int v, .int q] : List Value).toArray s 0 0 A) (F0 m 21 ls []) := by
      intro x3_21 hx3_21 H locs hP hD hS ls hl
      subst x3_21
      replace hl : lv_has ls 4 [(3, .int (wNW_ v q)), (0, .ref (r 0)), (1, .int v), (2, .int q)] := hl
      replace hP : va_P D vwCl (mW cI r B M) H := hP
      replace hD : va_D A (mW cI r B M) := hD
      refine lv_iload_n hx hb dX5_farthest_21 rfl (lv_at hl 0 rfl) ?_
      refine lv_if_eq (tgt := 31) hx hb dX5_farthest_22 (by decide) (fun c_22 => ?_) (fun c_22 => ?_)
      · skip
        have w0 := c_22
        simp only [wS_, wSN_, wSNW_, wNW_, wTh_, wTr_, f2_0, nb_0, ob_0, uk_0, lo_0, hi_0] at w0
        obtain ⟨v_, hv_, rfl⟩ := pl_le (n := 99) (by decide) w0.1
        replace hl : lv_has ls 4 [(3, .int (wNW_ (nI v_) q)), (0, .ref (r 0)), (1, .int (nI v_)), (2, .int q)] := hl
        refine lv_aload_n hx hb dX5_farthest_31 rfl (lv_at hl 1 rfl) ?_
        refine lv_iconst (v := 0) hx hb dX5_farthest_32 (by decide) ?_
        refine lv_iload_n hx hb dX5_farthest_33 rfl (lv_at hl 2 rfl) ?_
        refine kMvV hx hb hml hown hts hK hP hD hA hS gX5_farthest_X5_findOften okX5_findOften (qX5_findOften l D cI cB r B M 0 v_ hI (by decide) (by omega)) [0, 1, 2, 3, 4, 5, 6, 7, 8, 9, 10, 11, 12, 13, 14, 15] rfl (by decide) (fun _ => mW_adr _ _ _ _ _ _) rfl rfl rfl (by decide) hl.1 rfl rfl (Nat.le_of_ble_eq_true rfl) dX5_farthest_34 (by decide) (fun u_4 H locs hw_5 hP hD hS => ?_)
        replace hw_5 : u_4 = pu_ (fom_ M B 0 (v_ + 1)) 2 := hw_5
        have hNu_4 : oN_ M u_4 := by rw [hw_5]; exact oN_fo _ _ _ _
        have eMOF : mof_ u_4 = ofn_ B 0 (v_ + 1) := fo_mof hw_5
        have eMFA : mfa_ u_4 = fan_ B (v_ + 1) := fo_mfa hw_5
        have eMLW : mlw_ u_4 = lwn_ B (v_ + 1) := fo_mlw hw_5
        have eMHG : mhg_ u_4 = hgn_ B (v_ + 1) := fo_mhg hw_5
        have eMSL : msl_ u_4 = sln_ B (v_ + 1) := fo_msl hw_5
        have eMHB : mhb_ u_4 = mhb_ M := fo_mhb hw_5
        replace hP : va_P D vwCl (mW cI r B u_4) H := hP
        replace hD : va_D A (mW cI r B u_4) := hD
        refine lv_iload_n hx hb dX5_farthest_37 rfl (lv_at hl 3 rfl) ?_
        refine lv_if_ne (tgt := 48) hx hb dX5_farthest_38 (by decide) (fun c_38 => ?_) (fun c_38 => ?_)
        · skip
          refine lv_aload_n hx hb dX5_farthest_48 rfl (lv_at hl 1 rfl) ?_
          refine va_get (ci := 5) (C := RX5) (T := TX5) (N := 33) hx hb hts hinX5 hown hK.1 hP 0 rfl rfl 27 (by decide) (hts _ (List.mem_of_getElem? (i := 2) rfl)) (fun _ h9 => h9) rfl dX5_farthest_49 ?_
          refine rMi hx hb hr hlk hS u_4 hP ?_ dX5_farthest_52
          first | exact ⟨(if_neg c_22).symm, oQ_n _ _⟩ | (refine ⟨?_, oQ_0 c_22 ?_⟩; · (rw [if_pos c_22]; simp only [tn_n (show v_ < 2147483648 by omega)]; first | (rw [if_pos c_38]; exact eMLW.trans (lwn_lp hI _)) | (rw [if_neg c_38]; exact eMHG.trans (hgn_gp hI _))); · (first | exact (oN_mk (by assumption)).m | exact oM_.rf _ | exact (oN_pp _ _).m | exact (oN_fo _ _ _ _).m | assumption | (apply oN_.m; assumption) | exact oM_.tr (by assumption) (by assumption)))
        · skip
          refine lv_aload_n hx hb dX5_farthest_41 rfl (lv_at hl 1 rfl) ?_
          refine va_get (ci := 5) (C := RX5) (T := TX5) (N := 33) hx hb hts hinX5 hown hK.1 hP 0 rfl rfl 26 (by decide) (hts _ (List.mem_of_getElem? (i := 1) rfl)) (fun _ h9 => h9) rfl dX5_farthest_42 ?_
          refine lv_goto (tgt := 52) hx hb dX5_farthest_45 (by decide) ?_
          refine rMi hx hb hr hlk hS u_4 hP ?_ dX5_farthest_52
          first | exact ⟨(if_neg c_22).symm, oQ_n _ _⟩ | (refine ⟨?_, oQ_0 c_22 ?_⟩; · (rw [if_pos c_22]; simp only [tn_n (show v_ < 2147483648 by omega)]; first | (rw [if_pos c_38]; exact eMLW.trans (lwn_lp hI _)) | (rw [if_neg c_38]; exact eMHG.trans (hgn_gp hI _))); · (first | exact (oN_mk (by assumption)).m | exact oM_.rf _ | exact (oN_pp _ _).m | exact (oN_fo _ _ _ _).m | assumption | (apply oN_.m; assumption) | exact oM_.tr (by assumption) (by assumption)))
      · skip
        refine lv_aload_n hx hb dX5_farthest_25 rfl (lv_at hl 1 rfl) ?_
        refine lv_iload_n hx hb dX5_farthest_26 rfl (lv_at hl 0 rfl) ?_
        refine kMiV hx hb hml hown hts hK hP hD hA hS gX5_farthest_X5_no okX5_no (qX5_no l D cI cB r B M (wNW_ v q) (rc0_n (by first | exact rc0_wS _ _ | exact rc0_wSN _ _ _ | exact rc0_wSNW _ _ _ _ | exact rc0_wNW _ _ | exact rc0_wTh _ _ _ _ _ | exact rc0_wTr _ _ _ _ | exact rc0_nb _ _ | exact rc0_uk _ _ | exact rc0_ob _ _ _ | exact rc0_f2 (rc0_nb _ _) (rc0_nb _ _) | exact rc0_f2 (rc0_nb _ _) (rc0_uk _ _) | exact rc0_f2 (rc0_ob _ _ _) (rc0_uk _ _) | exact rc0_f2 (rc0_uk _ _) (rc0_f2 (rc0_uk _ _) (rc0_ob _ _ _))) c_22)) [0, 1, 2, 3, 4, 5, 6, 7, 8, 9, 10, 11, 12, 13, 14, 15] rfl (by decide) (fun _ => mW_adr _ _ _ _ _ _) rfl rfl rfl (by decide) hl.1 rfl rfl (Nat.le_of_ble_eq_true rfl) dX5_farthest_27 (by decide) (fun r_6 u_7 H locs hw_8 hP hD hS => ?_)
        replace hw_8 : r_6 = wNW_ v q ∧ u_7 = (rfm_ M (wNW_ v q)) := hw_8
        obtain ⟨hw_8a, hw_8b⟩ := hw_8
        subst r_6
        subst u_7
        replace hP : va_P D vwCl ([(r 0, .inr (5, [.ref (r 1), .ref (r 2), .ref (r 3), .ref (r 4), .ref (r 5), .ref (r 6), .int (nI (sn_ B)), .int (qt_ B), .int (il_ B), .int (pa_ B), .int (ho_ B), .int (dy_ B), .ref (r 13), .ref (r 14), .ref (r 15), .ref (r 16), .int (nI (mtn_ M)), .int (nI (mrd_ M)), .int (nI (msm_ M)), .ref (r 20), .int (mhi_ M), .int (mik_ M), .int (nI (mcu_ M)), .int (nI (mbk_ M)), .ref (r 25), .ref (r 26), .int (mlw_ M), .int (mhg_ M), .int (msl_ M), .ref (r 30), .int (nI (mrm_ M)), .ref (r 32), .int (mlo_ M)])), (r 1, .inl (cI, 7, .inl (rfx_ (mrf_ M) (wNW_ v q)))), (r 2, .inl (cI, 7, .inl (kd_ B))), (r 3, .inl (cI, 7, .inl (fg_ B))), (r 4, .inl (cI, 7, .inl (pl_ B))), (r 5, .inl (cI, 7, .inl (pw_ B))), (r 6, .inl (cI, 7, .inl (jy_ B))), (r 13, .inl (cI, 96, .inl (mtp_ M))), (r 14, .inl (cI, 48, .inl (mlt_ M))), (r 15, .inl (cI, 48, .inl (mla_ M))), (r 16, .inl (cI, 144, .inl (mtd_ M))), (r 20, .inl (cI, 451, .inl (flatK (mkp_ M)))), (r 25, .inl (cI, 7, .inl (mof_ M))), (r 26, .inl (cI, 7, .inl (mfa_ M))), (r 30, .inl (cI, 12, .inl (mrw_ M))), (r 32, .inl (cI, 8, .inl (mhb_ M)))]) H := hP
        replace hD : va_D A ([(r 0, .inr (5, [.ref (r 1), .ref (r 2), .ref (r 3), .ref (r 4), .ref (r 5), .ref (r 6), .int (nI (sn_ B)), .int (qt_ B), .int (il_ B), .int (pa_ B), .int (ho_ B), .int (dy_ B), .ref (r 13), .ref (r 14), .ref (r 15), .ref (r 16), .int (nI (mtn_ M)), .int (nI (mrd_ M)), .int (nI (msm_ M)), .ref (r 20), .int (mhi_ M), .int (mik_ M), .int (nI (mcu_ M)), .int (nI (mbk_ M)), .ref (r 25), .ref (r 26), .int (mlw_ M), .int (mhg_ M), .int (msl_ M), .ref (r 30), .int (nI (mrm_ M)), .ref (r 32), .int (mlo_ M)])), (r 1, .inl (cI, 7, .inl (rfx_ (mrf_ M) (wNW_ v q)))), (r 2, .inl (cI, 7, .inl (kd_ B))), (r 3, .inl (cI, 7, .inl (fg_ B))), (r 4, .inl (cI, 7, .inl (pl_ B))), (r 5, .inl (cI, 7, .inl (pw_ B))), (r 6, .inl (cI, 7, .inl (jy_ B))), (r 13, .inl (cI, 96, .inl (mtp_ M))), (r 14, .inl (cI, 48, .inl (mlt_ M))), (r 15, .inl (cI, 48, .inl (mla_ M))), (r 16, .inl (cI, 144, .inl (mtd_ M))), (r 20, .inl (cI, 451, .inl (flatK (mkp_ M)))), (r 25, .inl (cI, 7, .inl (mof_ M))), (r 26, .inl (cI, 7, .inl (mfa_ M))), (r 30, .inl (cI, 12, .inl (mrw_ M))), (r 32, .inl (cI, 8, .inl (mhb_ M)))]) := hD
        refine rMi hx hb hr hlk hS (rfm_ M (wNW_ v q)) hP ?_ dX5_farthest_30
        first | exact ⟨(if_neg c_22).symm, oQ_n _ _⟩ | (refine ⟨?_, oQ_0 c_22 ?_⟩; · (rw [if_pos c_22]; simp only [tn_n (show v_ < 2147483648 by omega)]; first | (rw [if_pos c_38]; exact eMLW.trans (lwn_lp hI _)) | (rw [if_neg c_38]; exact eMHG.trans (hgn_gp hI _))); · (first | exact (oN_mk (by assumption)).m | exact oM_.rf _ | exact (oN_pp _ _).m | exact (oN_fo _ _ _ _).m | assumption | (apply oN_.m; assumption) | exact oM_.tr (by assumption) (by assumption)))
  refine lv_iload_n hx hb dX5_farthest_5 rfl (lv_at hl 0 rfl) ?_
  refine lv_if_ne (tgt := 21) hx hb dX5_farthest_6 (by decide) (fun c_6 => ?_) (fun c_6 => ?_)
  · skip
    exact jn_21  (ob_ v 0 99)  (by first | exact (f2_a c_6).symm | exact c_6.trans ((f2_b c_6).trans (uk_i c_15)).symm | exact ((f2_b c_6).trans (uk_o c_15)).symm)   _ _ hP hD hS ls (lv_sub hl [0, 1, 2, 3] rfl)
  · skip
    refine lv_iload_n hx hb dX5_farthest_9 rfl (lv_at hl 3 rfl) ?_
    refine lv_iconst (v := 0) hx hb dX5_farthest_10 (by decide) ?_
    refine lv_iconst (v := 1) hx hb dX5_farthest_11 (by decide) ?_
    refine kSiS hx hb hml hown hts hK hP gX5_farthest_X5_isIn okX5_isIn (qX5_isIn l D cI cB q 0 1 ) [] rfl (by decide) hl.1 rfl rfl (Nat.le_of_ble_eq_true rfl) dX5_farthest_12 (by decide) (fun r_9 hr_10 => ?_)
    replace hr_10 : r_9 = b1 (0 ≤ q ∧ q ≤ 1) := hr_10
    subst r_9
    refine lv_if_ne (tgt := 21) hx hb dX5_farthest_15 (by decide) (fun c_15 => ?_) (fun c_15 => ?_)
    · replace c_15 := b1_n c_15
      exact jn_21  (ob_ v 0 99)  (by first | exact (f2_a c_6).symm | exact c_6.trans ((f2_b c_6).trans (uk_i c_15)).symm | exact ((f2_b c_6).trans (uk_o c_15)).symm)   _ _ hP hD hS ls (lv_sub hl [0, 1, 2, 3] rfl)
    · replace c_15 := b1_z c_15
      refine lv_bipush (v := (-2)) hx hb dX5_farthest_18 (by decide) ?_
      refine lv_istore_n (lv' := [(3, .int (-2)), (0, .ref (r 0)), (1, .int v), (2, .int q)]) hx hb dX5_farthest_20 rfl hl (by decide) rfl (fun ls hl => ?_)
      exact jn_21  (-2)  (by first | exact (f2_a c_6).symm | exact c_6.trans ((f2_b c_6).trans (uk_i c_15)).symm | exact ((f2_b c_6).trans (uk_o c_15)).symm)   _ _ hP hD hS ls (lv_sub hl [0, 1, 2, 3] rfl)

theorem okX5_hush : jok yX5_hush wsX5_hush cX5_hush 8 (some .int) 2 := ⟨⟨_, rfl⟩, by decide +kernel, by decide +kernel⟩
set_option maxHeartbeats 2000000 in
set_option maxRecDepth 100000 in
theorem qX5_hush (l : Launch) (D : va_G) (cI cB : ClassId) (r : Nat → Nat) (B : BayT) (M : MT) (a : Int32) (v : Int32) (hI : bI_ B) : jMi D cI cB l yX5_hush wsX5_hush 9 [.ref (r 0), .int a, .int v] (mW cI r B M) (S := MT) (fun r u => r = (if wSN_ (sn_ B) a v = 0 then oI_ (bs_ (hu_ B (tn_ a) (tn_ v)) (tc_ B (tn_ a) (tn_ v)) (sn_ B)).1 else wSN_ (sn_ B) a v) ∧ oQ_ M u (wSN_ (sn_ B) a v)) (fun u => mW cI r B u) := by
  refine jMi.of (cc := cX5_hush) (maxL := 8) (ret := (some .int)) okX5_hush (Nat.le_of_ble_eq_true rfl) ?_
  intro p e s m below meth c ls A hx hb hr hts hown hlk hml hP hK hD hA hS hl
  replace hown : s.vm.findClass RX5 = some m.cls := hown
  replace hl : lv_has ls 8 [(0, .ref (r 0)), (1, .int a), (2, .int v)] := hl
  have hn7 := hI.1
  have hinX5 : ∀ w ∈ wsX50, w ∈ wsX5_hush := by decide +kernel
  have jn_17 : ∀  (x3_17 : Int32) , (x3_17 = wSN_ (sn_ B) a v) → ∀ (H : Heap) (locs : List Loc), va_P D vwCl (mW cI r B M) H → va_D A (mW cI r B M) → va_S A s.heap H locs → ∀ ls : Array Slot, lv_has ls 8 [(3, .int x3_17), (0, .ref (r 0)), (1, .int a), (2, .int v)] → W p l e (jR 9) s m ([.ref (r 0), .int a, .int v] : List Value).toArray below meth c H locs 0 0 (MQ below (va_Qi (S := MT) (fun r u => r = (if wSN_ (sn_ B) a v = 0 then oI_ (bs_ (hu_ B (tn_ a) (tn_ v)) (tc_ B (tn_ a) (tn_ v)) (sn_ B)).1 else wSN_ (sn_ B) a v) ∧ oQ_ M u (wSN_ (sn_ B) a v)) (fun u t => va_P D vwCl ((fun u => mW cI r B u) u) t.heap) A) ([.ref (r 0), .int a, .int v] : List Value).toArray s 0 0 A) (F0 m 17 ls []) := by
      intro x3_17 hx3_17 H locs hP hD hS ls hl
      subst x3_17
      replace hl : lv_has ls 8 [(3, .int (wSN_ (sn_ B) a v)), (0, .ref (r 0)), (1, .int a), (2, .int v)] := hl
      replace hP : va_P D vwCl (mW cI r B M) H := hP
      replace hD : va_D A (mW cI r B M) := hD
      refine lv_iload_n hx hb dX5_hush_17 rfl (lv_at hl 0 rfl) ?_
      refine lv_if_eq (tgt := 27) hx hb dX5_hush_18 (by decide) (fun c_18 => ?_) (fun c_18 => ?_)
      · skip
        have w0 := c_18
        simp only [wS_, wSN_, wSNW_, wNW_, wTh_, wTr_, f2_0, nb_0, ob_0, uk_0, lo_0, hi_0] at w0
        obtain ⟨a_, ha_, rfl⟩ := pl_lt (n := sn_ B) (by omega) w0.1
        obtain ⟨v_, hv_, rfl⟩ := pl_le (n := 99) (by decide) w0.2
        replace hl : lv_has ls 8 [(3, .int (wSN_ (sn_ B) (nI a_) (nI v_))), (0, .ref (r 0)), (1, .int (nI a_)), (2, .int (nI v_))] := hl
        refine lv_bipush (v := (-9)) hx hb dX5_hush_27 (by decide) ?_
        refine lv_istore (lv' := [(4, .int (-9)), (3, .int (wSN_ (sn_ B) (nI a_) (nI v_))), (0, .ref (r 0)), (1, .int (nI a_)), (2, .int (nI v_))]) hx hb dX5_hush_29 hl (by decide) rfl (fun ls hl => ?_)
        refine lv_aload_n hx hb dX5_hush_31 rfl (lv_at hl 2 rfl) ?_
        refine lv_iload_n hx hb dX5_hush_32 rfl (lv_at hl 3 rfl) ?_
        refine lv_iload_n hx hb dX5_hush_33 rfl (lv_at hl 4 rfl) ?_
        refine kMiV hx hb hml hown hts hK hP hD hA hS gX5_hush_X5_oftenOf okX5_oftenOf (qX5_oftenOf l D cI cB r B M a_ v_ hI ha_ (by omega)) [0, 1, 2, 3, 4, 5, 6, 7, 8, 9, 10, 11, 12, 13, 14, 15] rfl (by decide) (fun _ => mW_adr _ _ _ _ _ _) rfl rfl rfl (by decide) hl.1 rfl rfl (Nat.le_of_ble_eq_true rfl) dX5_hush_34 (by decide) (fun r_1 u_2 H locs hw_3 hP hD hS => ?_)
        replace hw_3 : r_1 = tc_ B a_ v_ ∧ oN_ M u_2 := hw_3
        obtain ⟨hw_3a, hw_3b⟩ := hw_3
        subst r_1
        replace hP : va_P D vwCl (mW cI r B u_2) H := hP
        replace hD : va_D A (mW cI r B u_2) := hD
        refine lv_istore (lv' := [(5, .int (tc_ B a_ v_)), (4, .int (-9)), (3, .int (wSN_ (sn_ B) (nI a_) (nI v_))), (0, .ref (r 0)), (1, .int (nI a_)), (2, .int (nI v_))]) hx hb dX5_hush_37 hl (by decide) rfl (fun ls hl => ?_)
        refine lv_iconst (v := 0) hx hb dX5_hush_39 (by decide) ?_
        refine lv_istore (lv' := [(6, .int 0), (5, .int (tc_ B a_ v_)), (4, .int (-9)), (3, .int (wSN_ (sn_ B) (nI a_) (nI v_))), (0, .ref (r 0)), (1, .int (nI a_)), (2, .int (nI v_))]) hx hb dX5_hush_40 hl (by decide) rfl (fun ls hl => ?_)
        have lp_42 : ∀ (fu_42 : Nat) (i : Nat) (x4_42 : Int32) (x5_42 : Int32) (x6_42 : Int32) (M2 : MT), (x4_42 = oI_ (bs_ (hu_ B a_ v_) (tc_ B a_ v_) i).1) → (x5_42 = (bs_ (hu_ B a_ v_) (tc_ B a_ v_) i).2) → (x6_42 = nI i) → (i ≤ sn_ B) → (oN_ M M2) → sn_ B - i < fu_42 → ∀ (H : Heap) (locs : List Loc), va_P D vwCl (mW cI r B M2) H → va_D A (mW cI r B M2) → va_S A s.heap H locs → ∀ ls : Array Slot, lv_has ls 8 [(6, .int x6_42), (5, .int x5_42), (4, .int x4_42), (3, .int (wSN_ (sn_ B) (nI a_) (nI v_))), (0, .ref (r 0)), (1, .int (nI a_)), (2, .int (nI v_))] → W p l e (jR 9) s m ([.ref (r 0), .int (nI a_), .int (nI v_)] : List Value).toArray below meth c H locs 0 0 (MQ below (va_Qi (S := MT) (fun r u => r = (if wSN_ (sn_ B) (nI a_) (nI v_) = 0 then oI_ (bs_ (hu_ B (tn_ (nI a_)) (tn_ (nI v_))) (tc_ B (tn_ (nI a_)) (tn_ (nI v_))) (sn_ B)).1 else wSN_ (sn_ B) (nI a_) (nI v_)) ∧ oQ_ M u (wSN_ (sn_ B) (nI a_) (nI v_))) (fun u t => va_P D vwCl ((fun u => mW cI r B u) u) t.heap) A) ([.ref (r 0), .int (nI a_), .int (nI v_)] : List Value).toArray s 0 0 A) (F0 m 42 ls []) := by
          intro fu_42
          induction fu_42 with
          | zero => intro i x4_42 x5_42 x6_42 M2 hx4_42 hx5_42 hx6_42 hi hM hfu; exact absurd hfu (Nat.not_lt_zero _)
          | succ fu_42 ih_42 =>
            intro i x4_42 x5_42 x6_42 M2 hx4_42 hx5_42 hx6_42 hi hM hfu_42 H locs hP hD hS ls hl
            subst x4_42
            subst x5_42
            subst x6_42
            replace hl : lv_has ls 8 [(6, .int (nI i)), (5, .int ((bs_ (hu_ B a_ v_) (tc_ B a_ v_) i).2)), (4, .int (oI_ (bs_ (hu_ B a_ v_) (tc_ B a_ v_) i).1)), (3, .int (wSN_ (sn_ B) (nI a_) (nI v_))), (0, .ref (r 0)), (1, .int (nI a_)), (2, .int (nI v_))] := hl
            replace hP : va_P D vwCl (mW cI r B M2) H := hP
            replace hD : va_D A (mW cI r B M2) := hD
            have hge := Int32.le_trans (tc_pos B a_ (n := v_) (by omega)) (bs_ge (f := (hu_ B a_ v_)) (m0 := tc_ B a_ v_) i)
            refine lv_iload hx hb dX5_hush_42 (lv_at hl 0 rfl) ?_
            refine lv_aload_n hx hb dX5_hush_44 rfl (lv_at hl 4 rfl) ?_
            refine va_get (ci := 5) (C := RX5) (T := TX5) (N := 33) hx hb hts hinX5 hown hK.1 hP 0 rfl rfl 6 (by decide) (hts _ (List.mem_of_getElem? (i := 1) rfl)) (fun _ h9 => h9) rfl dX5_hush_45 ?_
            refine lv_icmp_ge (tgt := 98) hx hb dX5_hush_48 (by decide) (fun c_48 => ?_) (fun c_48 => ?_)
            · replace c_48 : nI (sn_ B) ≤ nI i := c_48
              rw [jle (by omega) (by omega)] at c_48
              refine lv_iload hx hb dX5_hush_98 (lv_at hl 2 rfl) ?_
              refine rMi hx hb hr hlk hS M2 hP ?_ dX5_hush_100
              first | exact ⟨(if_neg c_18).symm, oQ_n _ _⟩ | (refine ⟨?_, oQ_0 c_18 ?_⟩; · (rw [if_pos c_18]; simp only [tn_n (show a_ < 2147483648 by omega), tn_n (show v_ < 2147483648 by omega)]; rw [show i = sn_ B by omega]); · (first | exact (oN_mk (by assumption)).m | exact oM_.rf _ | exact (oN_pp _ _).m | exact (oN_fo _ _ _ _).m | assumption | (apply oN_.m; assumption) | exact oM_.tr (by assumption) (by assumption)))
            · replace c_48 : ¬ nI (sn_ B) ≤ nI i := c_48
              rw [jle (by omega) (by omega)] at c_48
              refine lv_iload hx hb dX5_hush_51 (lv_at hl 0 rfl) ?_
              refine lv_iload_n hx hb dX5_hush_53 rfl (lv_at hl 5 rfl) ?_
              refine lv_icmp_ne (tgt := 62) hx hb dX5_hush_54 (by decide) (fun c_54 => ?_) (fun c_54 => ?_)
              · replace c_54 : ¬ nI i = nI a_ := c_54
                rw [jeq (by omega) (by omega)] at c_54
                refine lv_aload_n hx hb dX5_hush_62 rfl (lv_at hl 4 rfl) ?_
                refine lv_iload_n hx hb dX5_hush_63 rfl (lv_at hl 5 rfl) ?_
                refine lv_iload_n hx hb dX5_hush_64 rfl (lv_at hl 6 rfl) ?_
                refine lv_iconst (v := 1) hx hb dX5_hush_65 (by decide) ?_
                refine lv_iload hx hb dX5_hush_66 (lv_at hl 0 rfl) ?_
                refine lv_ishl hx hb dX5_hush_68 ?_
                refine sti (x := 1 <<< ((nI i) &&& 31)) (y := nI (p2_ i)) (sh_n (by omega)) ?_
                refine kMiV hx hb hml hown hts hK hP hD hA hS gX5_hush_X5_oftenHushed okX5_oftenHushed (qX5_oftenHushed l D cI cB r B M2 a_ v_ (p2_ i) hI ha_ (by omega) (p2_lt (by omega))) [0, 1, 2, 3, 4, 5, 6, 7, 8, 9, 10, 11, 12, 13, 14, 15] rfl (by decide) (fun _ => mW_adr _ _ _ _ _ _) rfl rfl rfl (by decide) hl.1 rfl rfl (Nat.le_of_ble_eq_true rfl) dX5_hush_69 (by decide) (fun r_4 u_5 H locs hw_6 hP hD hS => ?_)
                replace hw_6 : r_4 = tc_ (uq_ B (qt_ B ||| nI (p2_ i))) a_ v_ ∧ oN_ M2 u_5 := hw_6
                obtain ⟨hw_6a, hw_6b⟩ := hw_6
                subst r_4
                replace hP : va_P D vwCl (mW cI r B u_5) H := hP
                replace hD : va_D A (mW cI r B u_5) := hD
                refine lv_istore (lv' := [(7, .int (tc_ (uq_ B (qt_ B ||| nI (p2_ i))) a_ v_)), (6, .int (nI i)), (5, .int ((bs_ (hu_ B a_ v_) (tc_ B a_ v_) i).2)), (4, .int (oI_ (bs_ (hu_ B a_ v_) (tc_ B a_ v_) i).1)), (3, .int (wSN_ (sn_ B) (nI a_) (nI v_))), (0, .ref (r 0)), (1, .int (nI a_)), (2, .int (nI v_))]) hx hb dX5_hush_72 hl (by decide) rfl (fun ls hl => ?_)
                refine lv_iload hx hb dX5_hush_74 (lv_at hl 0 rfl) ?_
                refine lv_iload hx hb dX5_hush_76 (lv_at hl 2 rfl) ?_
                refine lv_icmp_gt (tgt := 84) hx hb dX5_hush_78 (by decide) (fun c_78 => ?_) (fun c_78 => ?_)
                · have d_78 := Int32.not_le.mpr c_78
                  refine lv_iload hx hb dX5_hush_84 (lv_at hl 1 rfl) ?_
                  refine lv_istore (lv' := [(4, .int (nI i)), (7, .int (tc_ (uq_ B (qt_ B ||| nI (p2_ i))) a_ v_)), (6, .int (nI i)), (5, .int ((bs_ (hu_ B a_ v_) (tc_ B a_ v_) i).2)), (3, .int (wSN_ (sn_ B) (nI a_) (nI v_))), (0, .ref (r 0)), (1, .int (nI a_)), (2, .int (nI v_))]) hx hb dX5_hush_86 hl (by decide) rfl (fun ls hl => ?_)
                  refine lv_iload hx hb dX5_hush_88 (lv_at hl 1 rfl) ?_
                  refine lv_istore (lv' := [(5, .int (tc_ (uq_ B (qt_ B ||| nI (p2_ i))) a_ v_)), (4, .int (nI i)), (7, .int (tc_ (uq_ B (qt_ B ||| nI (p2_ i))) a_ v_)), (6, .int (nI i)), (3, .int (wSN_ (sn_ B) (nI a_) (nI v_))), (0, .ref (r 0)), (1, .int (nI a_)), (2, .int (nI v_))]) hx hb dX5_hush_90 hl (by decide) rfl (fun ls hl => ?_)
                  refine lv_iinc (v := (nI i) + 1) (lv' := [(6, .int ((nI i) + 1)), (5, .int (tc_ (uq_ B (qt_ B ||| nI (p2_ i))) a_ v_)), (4, .int (nI i)), (7, .int (tc_ (uq_ B (qt_ B ||| nI (p2_ i))) a_ v_)), (3, .int (wSN_ (sn_ B) (nI a_) (nI v_))), (0, .ref (r 0)), (1, .int (nI a_)), (2, .int (nI v_))]) hx hb dX5_hush_92 hl (k := 3) rfl (by first | rfl | decide) (by decide) rfl (fun ls hl => ?_)
                  refine lv_goto (tgt := 42) hx hb dX5_hush_95 (by decide) ?_
                  exact ih_42 (i + 1) (nI i) (tc_ (uq_ B (qt_ B ||| nI (p2_ i))) a_ v_) ((nI i) + 1) u_5 (by first | exact bs_o1 (f := (hu_ B a_ v_)) (by unfold hu_; rw [if_neg (by assumption), ← sh_n (by omega)]) d_78 | exact bs_o2 (f := (hu_ B a_ v_)) (by unfold hu_; rw [if_neg (by assumption), ← sh_n (by omega)]) d_78 | exact bs_o2 (f := (hu_ B a_ v_)) (v := 0) (by unfold hu_; rw [if_pos (by assumption)]) hge | exact absurd (Int32.lt_of_le_of_lt hge c_78) (by decide)) (by first | exact bs_m1 (f := (hu_ B a_ v_)) (by unfold hu_; rw [if_neg (by assumption), ← sh_n (by omega)]) d_78 | exact bs_m2 (f := (hu_ B a_ v_)) (by unfold hu_; rw [if_neg (by assumption), ← sh_n (by omega)]) d_78 | exact bs_m2 (f := (hu_ B a_ v_)) (v := 0) (by unfold hu_; rw [if_pos (by assumption)]) hge | exact absurd (Int32.lt_of_le_of_lt hge c_78) (by decide)) (by first | rfl | exact nI_1 _) (by omega) (by first | assumption | exact oN_.tr hM (by assumption)) (by omega) _ _ hP hD hS ls (lv_sub hl [0, 1, 2, 4, 5, 6, 7] rfl)
                · have d_78 := Int32.not_lt.mp c_78
                  refine lv_goto (tgt := 92) hx hb dX5_hush_81 (by decide) ?_
                  refine lv_iinc (v := (nI i) + 1) (lv' := [(6, .int ((nI i) + 1)), (7, .int (tc_ (uq_ B (qt_ B ||| nI (p2_ i))) a_ v_)), (5, .int ((bs_ (hu_ B a_ v_) (tc_ B a_ v_) i).2)), (4, .int (oI_ (bs_ (hu_ B a_ v_) (tc_ B a_ v_) i).1)), (3, .int (wSN_ (sn_ B) (nI a_) (nI v_))), (0, .ref (r 0)), (1, .int (nI a_)), (2, .int (nI v_))]) hx hb dX5_hush_92 hl (k := 1) rfl (by first | rfl | decide) (by decide) rfl (fun ls hl => ?_)
                  refine lv_goto (tgt := 42) hx hb dX5_hush_95 (by decide) ?_
                  exact ih_42 (i + 1) (oI_ (bs_ (hu_ B a_ v_) (tc_ B a_ v_) i).1) ((bs_ (hu_ B a_ v_) (tc_ B a_ v_) i).2) ((nI i) + 1) u_5 (by first | exact bs_o1 (f := (hu_ B a_ v_)) (by unfold hu_; rw [if_neg (by assumption), ← sh_n (by omega)]) d_78 | exact bs_o2 (f := (hu_ B a_ v_)) (by unfold hu_; rw [if_neg (by assumption), ← sh_n (by omega)]) d_78 | exact bs_o2 (f := (hu_ B a_ v_)) (v := 0) (by unfold hu_; rw [if_pos (by assumption)]) hge | exact absurd (Int32.lt_of_le_of_lt hge c_78) (by decide)) (by first | exact bs_m1 (f := (hu_ B a_ v_)) (by unfold hu_; rw [if_neg (by assumption), ← sh_n (by omega)]) d_78 | exact bs_m2 (f := (hu_ B a_ v_)) (by unfold hu_; rw [if_neg (by assumption), ← sh_n (by omega)]) d_78 | exact bs_m2 (f := (hu_ B a_ v_)) (v := 0) (by unfold hu_; rw [if_pos (by assumption)]) hge | exact absurd (Int32.lt_of_le_of_lt hge c_78) (by decide)) (by first | rfl | exact nI_1 _) (by omega) (by first | assumption | exact oN_.tr hM (by assumption)) (by omega) _ _ hP hD hS ls (lv_sub hl [0, 2, 3, 4, 5, 6, 7] rfl)
              · replace c_54 : nI i = nI a_ := c_54
                rw [jeq (by omega) (by omega)] at c_54
                refine lv_bipush (v := (-9)) hx hb dX5_hush_57 (by decide) ?_
                refine lv_goto (tgt := 72) hx hb dX5_hush_59 (by decide) ?_
                refine lv_istore (lv' := [(7, .int (-9)), (6, .int (nI i)), (5, .int ((bs_ (hu_ B a_ v_) (tc_ B a_ v_) i).2)), (4, .int (oI_ (bs_ (hu_ B a_ v_) (tc_ B a_ v_) i).1)), (3, .int (wSN_ (sn_ B) (nI a_) (nI v_))), (0, .ref (r 0)), (1, .int (nI a_)), (2, .int (nI v_))]) hx hb dX5_hush_72 hl (by decide) rfl (fun ls hl => ?_)
                refine lv_iload hx hb dX5_hush_74 (lv_at hl 0 rfl) ?_
                refine lv_iload hx hb dX5_hush_76 (lv_at hl 2 rfl) ?_
                refine lv_icmp_gt (tgt := 84) hx hb dX5_hush_78 (by decide) (fun c_78 => ?_) (fun c_78 => ?_)
                · have d_78 := Int32.not_le.mpr c_78
                  refine lv_iload hx hb dX5_hush_84 (lv_at hl 1 rfl) ?_
                  refine lv_istore (lv' := [(4, .int (nI i)), (7, .int (-9)), (6, .int (nI i)), (5, .int ((bs_ (hu_ B a_ v_) (tc_ B a_ v_) i).2)), (3, .int (wSN_ (sn_ B) (nI a_) (nI v_))), (0, .ref (r 0)), (1, .int (nI a_)), (2, .int (nI v_))]) hx hb dX5_hush_86 hl (by decide) rfl (fun ls hl => ?_)
                  refine lv_iload hx hb dX5_hush_88 (lv_at hl 1 rfl) ?_
                  refine lv_istore (lv' := [(5, .int (-9)), (4, .int (nI i)), (7, .int (-9)), (6, .int (nI i)), (3, .int (wSN_ (sn_ B) (nI a_) (nI v_))), (0, .ref (r 0)), (1, .int (nI a_)), (2, .int (nI v_))]) hx hb dX5_hush_90 hl (by decide) rfl (fun ls hl => ?_)
                  refine lv_iinc (v := (nI i) + 1) (lv' := [(6, .int ((nI i) + 1)), (5, .int (-9)), (4, .int (nI i)), (7, .int (-9)), (3, .int (wSN_ (sn_ B) (nI a_) (nI v_))), (0, .ref (r 0)), (1, .int (nI a_)), (2, .int (nI v_))]) hx hb dX5_hush_92 hl (k := 3) rfl (by first | rfl | decide) (by decide) rfl (fun ls hl => ?_)
                  refine lv_goto (tgt := 42) hx hb dX5_hush_95 (by decide) ?_
                  exact ih_42 (i + 1) (nI i) (-9) ((nI i) + 1) M2 (by first | exact bs_o1 (f := (hu_ B a_ v_)) (by unfold hu_; rw [if_neg (by assumption), ← sh_n (by omega)]) d_78 | exact bs_o2 (f := (hu_ B a_ v_)) (by unfold hu_; rw [if_neg (by assumption), ← sh_n (by omega)]) d_78 | exact bs_o2 (f := (hu_ B a_ v_)) (v := 0) (by unfold hu_; rw [if_pos (by assumption)]) hge | exact absurd (Int32.lt_of_le_of_lt hge c_78) (by decide)) (by first | exact bs_m1 (f := (hu_ B a_ v_)) (by unfold hu_; rw [if_neg (by assumption), ← sh_n (by omega)]) d_78 | exact bs_m2 (f := (hu_ B a_ v_)) (by unfold hu_; rw [if_neg (by assumption), ← sh_n (by omega)]) d_78 | exact bs_m2 (f := (hu_ B a_ v_)) (v := 0) (by unfold hu_; rw [if_pos (by assumption)]) hge | exact absurd (Int32.lt_of_le_of_lt hge c_78) (by decide)) (by first | rfl | exact nI_1 _) (by omega) (by first | assumption | exact oN_.tr hM (by assumption)) (by omega) _ _ hP hD hS ls (lv_sub hl [0, 1, 2, 4, 5, 6, 7] rfl)
                · have d_78 := Int32.not_lt.mp c_78
                  refine lv_goto (tgt := 92) hx hb dX5_hush_81 (by decide) ?_
                  refine lv_iinc (v := (nI i) + 1) (lv' := [(6, .int ((nI i) + 1)), (7, .int (-9)), (5, .int ((bs_ (hu_ B a_ v_) (tc_ B a_ v_) i).2)), (4, .int (oI_ (bs_ (hu_ B a_ v_) (tc_ B a_ v_) i).1)), (3, .int (wSN_ (sn_ B) (nI a_) (nI v_))), (0, .ref (r 0)), (1, .int (nI a_)), (2, .int (nI v_))]) hx hb dX5_hush_92 hl (k := 1) rfl (by first | rfl | decide) (by decide) rfl (fun ls hl => ?_)
                  refine lv_goto (tgt := 42) hx hb dX5_hush_95 (by decide) ?_
                  exact ih_42 (i + 1) (oI_ (bs_ (hu_ B a_ v_) (tc_ B a_ v_) i).1) ((bs_ (hu_ B a_ v_) (tc_ B a_ v_) i).2) ((nI i) + 1) M2 (by first | exact bs_o1 (f := (hu_ B a_ v_)) (by unfold hu_; rw [if_neg (by assumption), ← sh_n (by omega)]) d_78 | exact bs_o2 (f := (hu_ B a_ v_)) (by unfold hu_; rw [if_neg (by assumption), ← sh_n (by omega)]) d_78 | exact bs_o2 (f := (hu_ B a_ v_)) (v := 0) (by unfold hu_; rw [if_pos (by assumption)]) hge | exact absurd (Int32.lt_of_le_of_lt hge c_78) (by decide)) (by first | exact bs_m1 (f := (hu_ B a_ v_)) (by unfold hu_; rw [if_neg (by assumption), ← sh_n (by omega)]) d_78 | exact bs_m2 (f := (hu_ B a_ v_)) (by unfold hu_; rw [if_neg (by assumption), ← sh_n (by omega)]) d_78 | exact bs_m2 (f := (hu_ B a_ v_)) (v := 0) (by unfold hu_; rw [if_pos (by assumption)]) hge | exact absurd (Int32.lt_of_le_of_lt hge c_78) (by decide)) (by first | rfl | exact nI_1 _) (by omega) (by first | assumption | exact oN_.tr hM (by assumption)) (by omega) _ _ hP hD hS ls (lv_sub hl [0, 2, 3, 4, 5, 6, 7] rfl)
        exact lp_42 ((sn_ B) + 1) 0 (-9) (tc_ B a_ v_) 0 u_2 (rfl) (rfl) (by first | rfl | exact nI_0.symm) (by omega) (by first | assumption | exact oN_.rf _) (by omega) _ _ hP hD hS ls (lv_sub hl [0, 1, 2, 3, 4, 5, 6] rfl)
      · skip
        refine lv_aload_n hx hb dX5_hush_21 rfl (lv_at hl 1 rfl) ?_
        refine lv_iload_n hx hb dX5_hush_22 rfl (lv_at hl 0 rfl) ?_
        refine kMiV hx hb hml hown hts hK hP hD hA hS gX5_hush_X5_no okX5_no (qX5_no l D cI cB r B M (wSN_ (sn_ B) a v) (rc0_n (by first | exact rc0_wS _ _ | exact rc0_wSN _ _ _ | exact rc0_wSNW _ _ _ _ | exact rc0_wNW _ _ | exact rc0_wTh _ _ _ _ _ | exact rc0_wTr _ _ _ _ | exact rc0_nb _ _ | exact rc0_uk _ _ | exact rc0_ob _ _ _ | exact rc0_f2 (rc0_nb _ _) (rc0_nb _ _) | exact rc0_f2 (rc0_nb _ _) (rc0_uk _ _) | exact rc0_f2 (rc0_ob _ _ _) (rc0_uk _ _) | exact rc0_f2 (rc0_uk _ _) (rc0_f2 (rc0_uk _ _) (rc0_ob _ _ _))) c_18)) [0, 1, 2, 3, 4, 5, 6, 7, 8, 9, 10, 11, 12, 13, 14, 15] rfl (by decide) (fun _ => mW_adr _ _ _ _ _ _) rfl rfl rfl (by decide) hl.1 rfl rfl (Nat.le_of_ble_eq_true rfl) dX5_hush_23 (by decide) (fun r_7 u_8 H locs hw_9 hP hD hS => ?_)
        replace hw_9 : r_7 = wSN_ (sn_ B) a v ∧ u_8 = (rfm_ M (wSN_ (sn_ B) a v)) := hw_9
        obtain ⟨hw_9a, hw_9b⟩ := hw_9
        subst r_7
        subst u_8
        replace hP : va_P D vwCl ([(r 0, .inr (5, [.ref (r 1), .ref (r 2), .ref (r 3), .ref (r 4), .ref (r 5), .ref (r 6), .int (nI (sn_ B)), .int (qt_ B), .int (il_ B), .int (pa_ B), .int (ho_ B), .int (dy_ B), .ref (r 13), .ref (r 14), .ref (r 15), .ref (r 16), .int (nI (mtn_ M)), .int (nI (mrd_ M)), .int (nI (msm_ M)), .ref (r 20), .int (mhi_ M), .int (mik_ M), .int (nI (mcu_ M)), .int (nI (mbk_ M)), .ref (r 25), .ref (r 26), .int (mlw_ M), .int (mhg_ M), .int (msl_ M), .ref (r 30), .int (nI (mrm_ M)), .ref (r 32), .int (mlo_ M)])), (r 1, .inl (cI, 7, .inl (rfx_ (mrf_ M) (wSN_ (sn_ B) a v)))), (r 2, .inl (cI, 7, .inl (kd_ B))), (r 3, .inl (cI, 7, .inl (fg_ B))), (r 4, .inl (cI, 7, .inl (pl_ B))), (r 5, .inl (cI, 7, .inl (pw_ B))), (r 6, .inl (cI, 7, .inl (jy_ B))), (r 13, .inl (cI, 96, .inl (mtp_ M))), (r 14, .inl (cI, 48, .inl (mlt_ M))), (r 15, .inl (cI, 48, .inl (mla_ M))), (r 16, .inl (cI, 144, .inl (mtd_ M))), (r 20, .inl (cI, 451, .inl (flatK (mkp_ M)))), (r 25, .inl (cI, 7, .inl (mof_ M))), (r 26, .inl (cI, 7, .inl (mfa_ M))), (r 30, .inl (cI, 12, .inl (mrw_ M))), (r 32, .inl (cI, 8, .inl (mhb_ M)))]) H := hP
        replace hD : va_D A ([(r 0, .inr (5, [.ref (r 1), .ref (r 2), .ref (r 3), .ref (r 4), .ref (r 5), .ref (r 6), .int (nI (sn_ B)), .int (qt_ B), .int (il_ B), .int (pa_ B), .int (ho_ B), .int (dy_ B), .ref (r 13), .ref (r 14), .ref (r 15), .ref (r 16), .int (nI (mtn_ M)), .int (nI (mrd_ M)), .int (nI (msm_ M)), .ref (r 20), .int (mhi_ M), .int (mik_ M), .int (nI (mcu_ M)), .int (nI (mbk_ M)), .ref (r 25), .ref (r 26), .int (mlw_ M), .int (mhg_ M), .int (msl_ M), .ref (r 30), .int (nI (mrm_ M)), .ref (r 32), .int (mlo_ M)])), (r 1, .inl (cI, 7, .inl (rfx_ (mrf_ M) (wSN_ (sn_ B) a v)))), (r 2, .inl (cI, 7, .inl (kd_ B))), (r 3, .inl (cI, 7, .inl (fg_ B))), (r 4, .inl (cI, 7, .inl (pl_ B))), (r 5, .inl (cI, 7, .inl (pw_ B))), (r 6, .inl (cI, 7, .inl (jy_ B))), (r 13, .inl (cI, 96, .inl (mtp_ M))), (r 14, .inl (cI, 48, .inl (mlt_ M))), (r 15, .inl (cI, 48, .inl (mla_ M))), (r 16, .inl (cI, 144, .inl (mtd_ M))), (r 20, .inl (cI, 451, .inl (flatK (mkp_ M)))), (r 25, .inl (cI, 7, .inl (mof_ M))), (r 26, .inl (cI, 7, .inl (mfa_ M))), (r 30, .inl (cI, 12, .inl (mrw_ M))), (r 32, .inl (cI, 8, .inl (mhb_ M)))]) := hD
        refine rMi hx hb hr hlk hS (rfm_ M (wSN_ (sn_ B) a v)) hP ?_ dX5_hush_26
        first | exact ⟨(if_neg c_18).symm, oQ_n _ _⟩ | (refine ⟨?_, oQ_0 c_18 ?_⟩; · (rw [if_pos c_18]; simp only [tn_n (show a_ < 2147483648 by omega), tn_n (show v_ < 2147483648 by omega)]; rw [show i = sn_ B by omega]); · (first | exact (oN_mk (by assumption)).m | exact oM_.rf _ | exact (oN_pp _ _).m | exact (oN_fo _ _ _ _).m | assumption | (apply oN_.m; assumption) | exact oM_.tr (by assumption) (by assumption)))
  refine lv_aload_n hx hb dX5_hush_0 rfl (lv_at hl 0 rfl) ?_
  refine lv_iload_n hx hb dX5_hush_1 rfl (lv_at hl 1 rfl) ?_
  refine kSiV hx hb hml hown hts hK hP gX5_hush_X5_isShore okX5_isShore (qX5_isShore l D cI cB r B M a (by show sn_ B ≤ 7; omega)) [0, 1, 2, 3, 4, 5, 6, 7, 8, 9, 10, 11, 12, 13, 14, 15] rfl rfl rfl rfl (by decide) hl.1 rfl rfl (Nat.le_of_ble_eq_true rfl) dX5_hush_2 (by decide) (fun r_10 hr_11 => ?_)
  replace hr_11 : r_10 = b1 (0 ≤ a ∧ a < nI (sn_ B)) := hr_11
  subst r_10
  refine lv_if_ne (tgt := 12) hx hb dX5_hush_5 (by decide) (fun c_5 => ?_) (fun c_5 => ?_)
  · replace c_5 := b1_n c_5
    refine lv_iload_n hx hb dX5_hush_12 rfl (lv_at hl 2 rfl) ?_
    refine kSiS hx hb hml hown hts hK hP gX5_hush_X5_notHours okX5_notHours (qX5_notHours l D cI cB v ) [] rfl (by decide) hl.1 rfl rfl (Nat.le_of_ble_eq_true rfl) dX5_hush_13 (by decide) (fun r_12 hr_13 => ?_)
    replace hr_13 : r_12 = ob_ v 0 99 := hr_13
    subst r_12
    refine lv_istore_n (lv' := [(3, .int (ob_ v 0 99)), (0, .ref (r 0)), (1, .int a), (2, .int v)]) hx hb dX5_hush_16 rfl hl (by decide) rfl (fun ls hl => ?_)
    exact jn_17  (ob_ v 0 99)  (by first | exact (f2_b (nb_i c_5)).symm | exact ((f2_a (by rw [nb_o c_5]; decide)).trans (nb_o c_5)).symm)   _ _ hP hD hS ls (lv_sub hl [0, 1, 2, 3] rfl)
  · replace c_5 := b1_z c_5
    refine lv_iconst (v := (-1)) hx hb dX5_hush_8 (by decide) ?_
    refine lv_goto (tgt := 16) hx hb dX5_hush_9 (by decide) ?_
    refine lv_istore_n (lv' := [(3, .int (-1)), (0, .ref (r 0)), (1, .int a), (2, .int v)]) hx hb dX5_hush_16 rfl hl (by decide) rfl (fun ls hl => ?_)
    exact jn_17  (-1)  (by first | exact (f2_b (nb_i c_5)).symm | exact ((f2_a (by rw [nb_o c_5]; decide)).trans (nb_o c_5)).symm)   _ _ hP hD hS ls (lv_sub hl [0, 1, 2, 3] rfl)

theorem okX5_fewest : jok yX5_fewest wsX5_fewest cX5_fewest 6 (some .int) 2 := ⟨⟨_, rfl⟩, by decide +kernel, by decide +kernel⟩
set_option maxHeartbeats 2000000 in
set_option maxRecDepth 100000 in
theorem qX5_fewest (l : Launch) (D : va_G) (cI cB : ClassId) (r : Nat → Nat) (B : BayT) (M : MT) (a : Int32) (v : Int32) (hI : bI_ B) : jMi D cI cB l yX5_fewest wsX5_fewest 9 [.ref (r 0), .int a, .int v] (mW cI r B M) (S := MT) (fun r u => r = (if wSN_ (sn_ B) a v = 0 then (fw_ B (tn_ a) (tn_ v) (p2_ (sn_ B))).1 else wSN_ (sn_ B) a v) ∧ oQ_ M u (wSN_ (sn_ B) a v)) (fun u => mW cI r B u) := by
  refine jMi.of (cc := cX5_fewest) (maxL := 6) (ret := (some .int)) okX5_fewest (Nat.le_of_ble_eq_true rfl) ?_
  intro p e s m below meth c ls A hx hb hr hts hown hlk hml hP hK hD hA hS hl
  replace hown : s.vm.findClass RX5 = some m.cls := hown
  replace hl : lv_has ls 6 [(0, .ref (r 0)), (1, .int a), (2, .int v)] := hl
  have hn7 := hI.1
  have hinX5 : ∀ w ∈ wsX50, w ∈ wsX5_fewest := by decide +kernel
  have jn_17 : ∀  (x3_17 : Int32) , (x3_17 = wSN_ (sn_ B) a v) → ∀ (H : Heap) (locs : List Loc), va_P D vwCl (mW cI r B M) H → va_D A (mW cI r B M) → va_S A s.heap H locs → ∀ ls : Array Slot, lv_has ls 6 [(3, .int x3_17), (0, .ref (r 0)), (1, .int a), (2, .int v)] → W p l e (jR 9) s m ([.ref (r 0), .int a, .int v] : List Value).toArray below meth c H locs 0 0 (MQ below (va_Qi (S := MT) (fun r u => r = (if wSN_ (sn_ B) a v = 0 then (fw_ B (tn_ a) (tn_ v) (p2_ (sn_ B))).1 else wSN_ (sn_ B) a v) ∧ oQ_ M u (wSN_ (sn_ B) a v)) (fun u t => va_P D vwCl ((fun u => mW cI r B u) u) t.heap) A) ([.ref (r 0), .int a, .int v] : List Value).toArray s 0 0 A) (F0 m 17 ls []) := by
      intro x3_17 hx3_17 H locs hP hD hS ls hl
      subst x3_17
      replace hl : lv_has ls 6 [(3, .int (wSN_ (sn_ B) a v)), (0, .ref (r 0)), (1, .int a), (2, .int v)] := hl
      replace hP : va_P D vwCl (mW cI r B M) H := hP
      replace hD : va_D A (mW cI r B M) := hD
      refine lv_iload_n hx hb dX5_fewest_17 rfl (lv_at hl 0 rfl) ?_
      refine lv_if_eq (tgt := 27) hx hb dX5_fewest_18 (by decide) (fun c_18 => ?_) (fun c_18 => ?_)
      · skip
        have w0 := c_18
        simp only [wS_, wSN_, wSNW_, wNW_, wTh_, wTr_, f2_0, nb_0, ob_0, uk_0, lo_0, hi_0] at w0
        obtain ⟨a_, ha_, rfl⟩ := pl_lt (n := sn_ B) (by omega) w0.1
        obtain ⟨v_, hv_, rfl⟩ := pl_le (n := 99) (by decide) w0.2
        replace hl : lv_has ls 6 [(3, .int (wSN_ (sn_ B) (nI a_) (nI v_))), (0, .ref (r 0)), (1, .int (nI a_)), (2, .int (nI v_))] := hl
        refine lv_bipush (v := (-9)) hx hb dX5_fewest_27 (by decide) ?_
        refine lv_istore (lv' := [(4, .int (-9)), (3, .int (wSN_ (sn_ B) (nI a_) (nI v_))), (0, .ref (r 0)), (1, .int (nI a_)), (2, .int (nI v_))]) hx hb dX5_fewest_29 hl (by decide) rfl (fun ls hl => ?_)
        refine lv_iconst (v := 0) hx hb dX5_fewest_31 (by decide) ?_
        refine lv_istore (lv' := [(5, .int 0), (4, .int (-9)), (3, .int (wSN_ (sn_ B) (nI a_) (nI v_))), (0, .ref (r 0)), (1, .int (nI a_)), (2, .int (nI v_))]) hx hb dX5_fewest_32 hl (by decide) rfl (fun ls hl => ?_)
        have hp2 := p2_7 hn7
        have lp_34 : ∀ (fu_34 : Nat) (i : Nat) (x4_34 : Int32) (x5_34 : Int32) (M2 : MT), (x4_34 = oI_ (fwo_ B a_ v_ i)) → (x5_34 = nI i) → (i ≤ p2_ (sn_ B)) → (oN_ M M2) → p2_ (sn_ B) - i < fu_34 → ∀ (H : Heap) (locs : List Loc), va_P D vwCl (mW cI r B M2) H → va_D A (mW cI r B M2) → va_S A s.heap H locs → ∀ ls : Array Slot, lv_has ls 6 [(5, .int x5_34), (4, .int x4_34), (3, .int (wSN_ (sn_ B) (nI a_) (nI v_))), (0, .ref (r 0)), (1, .int (nI a_)), (2, .int (nI v_))] → W p l e (jR 9) s m ([.ref (r 0), .int (nI a_), .int (nI v_)] : List Value).toArray below meth c H locs 0 0 (MQ below (va_Qi (S := MT) (fun r u => r = (if wSN_ (sn_ B) (nI a_) (nI v_) = 0 then (fw_ B (tn_ (nI a_)) (tn_ (nI v_)) (p2_ (sn_ B))).1 else wSN_ (sn_ B) (nI a_) (nI v_)) ∧ oQ_ M u (wSN_ (sn_ B) (nI a_) (nI v_))) (fun u t => va_P D vwCl ((fun u => mW cI r B u) u) t.heap) A) ([.ref (r 0), .int (nI a_), .int (nI v_)] : List Value).toArray s 0 0 A) (F0 m 34 ls []) := by
          intro fu_34
          induction fu_34 with
          | zero => intro i x4_34 x5_34 M2 hx4_34 hx5_34 hi hM hfu; exact absurd hfu (Nat.not_lt_zero _)
          | succ fu_34 ih_34 =>
            intro i x4_34 x5_34 M2 hx4_34 hx5_34 hi hM hfu_34 H locs hP hD hS ls hl
            subst x4_34
            subst x5_34
            replace hl : lv_has ls 6 [(5, .int (nI i)), (4, .int (oI_ (fwo_ B a_ v_ i))), (3, .int (wSN_ (sn_ B) (nI a_) (nI v_))), (0, .ref (r 0)), (1, .int (nI a_)), (2, .int (nI v_))] := hl
            replace hP : va_P D vwCl (mW cI r B M2) H := hP
            replace hD : va_D A (mW cI r B M2) := hD
            rcases hL : fwo_ B a_ v_ i with _ | t
            · rw [hL] at hl
              replace hl : lv_has ls 6 [(5, .int (nI i)), (4, .int (-9)), (3, .int (wSN_ (sn_ B) (nI a_) (nI v_))), (0, .ref (r 0)), (1, .int (nI a_)), (2, .int (nI v_))] := hl
              refine lv_iload hx hb dX5_fewest_34 (lv_at hl 0 rfl) ?_
              refine lv_iconst (v := 1) hx hb dX5_fewest_36 (by decide) ?_
              refine lv_aload_n hx hb dX5_fewest_37 rfl (lv_at hl 3 rfl) ?_
              refine va_get (ci := 5) (C := RX5) (T := TX5) (N := 33) hx hb hts hinX5 hown hK.1 hP 0 rfl rfl 6 (by decide) (hts _ (List.mem_of_getElem? (i := 1) rfl)) (fun _ h9 => h9) rfl dX5_fewest_38 ?_
              refine lv_ishl hx hb dX5_fewest_41 ?_
              refine lv_icmp_ge (tgt := 96) hx hb dX5_fewest_42 (by decide) (fun c_42 => ?_) (fun c_42 => ?_)
              · rw [sh_n hn7, jle (by omega) (by omega)] at c_42
                refine lv_iload hx hb dX5_fewest_96 (lv_at hl 1 rfl) ?_
                refine rMi hx hb hr hlk hS M2 hP ?_ dX5_fewest_98
                first | exact ⟨(if_neg c_18).symm, oQ_n _ _⟩ | (refine ⟨?_, oQ_0 c_18 ?_⟩; · (rw [if_pos c_18]; simp only [tn_n (show a_ < 2147483648 by omega), tn_n (show v_ < 2147483648 by omega)]; have e9 : i = p2_ (sn_ B) := by omega; rw [e9] at hL; rw [fwo_fw (by omega) _ (by omega), hL]; rfl); · (first | exact (oN_mk (by assumption)).m | exact oM_.rf _ | exact (oN_pp _ _).m | exact (oN_fo _ _ _ _).m | assumption | (apply oN_.m; assumption) | exact oM_.tr (by assumption) (by assumption)))
              · rw [sh_n hn7, jle (by omega) (by omega)] at c_42
                refine lv_iload hx hb dX5_fewest_45 (lv_at hl 0 rfl) ?_
                refine lv_iload_n hx hb dX5_fewest_47 rfl (lv_at hl 4 rfl) ?_
                refine kSiS hx hb hml hown hts hK hP gX5_fewest_X5_has okX5_has (qX5_has l D cI cB (nI i) a_ ) [] rfl (by decide) hl.1 rfl rfl (Nat.le_of_ble_eq_true rfl) dX5_fewest_48 (by decide) (fun r_1 hr_2 => ?_)
                replace hr_2 : r_1 = b1 (qb_ (nI i) a_ = 1) := hr_2
                subst r_1
                refine lv_if_ne (tgt := 90) hx hb dX5_fewest_51 (by decide) (fun c_51 => ?_) (fun c_51 => ?_)
                · replace c_51 := b1_n c_51
                  refine lv_iinc (v := (nI i) + 1) (lv' := [(5, .int ((nI i) + 1)), (4, .int (-9)), (3, .int (wSN_ (sn_ B) (nI a_) (nI v_))), (0, .ref (r 0)), (1, .int (nI a_)), (2, .int (nI v_))]) hx hb dX5_fewest_90 hl (k := 0) rfl (by first | rfl | decide) (by decide) rfl (fun ls hl => ?_)
                  refine lv_goto (tgt := 34) hx hb dX5_fewest_93 (by decide) ?_
                  exact ih_34 (i + 1) (-9) ((nI i) + 1) M2 (by first | (rw [fwo_n1 (fun q => by rw [c_51] at q; exact absurd q (by decide)), hL]; rfl) | (rw [fwo_n2 hL c_69, hL]; rfl) | (rw [fwo_n2 hL (by omega), hL]; rfl) | (rw [fwo_n3 (Int32.not_lt.mpr c_83), hL]; rfl) | (rw [fwo_y (qb_01 c_51) (fun u q => by rw [hL] at q; cases q; omega) (Int32.not_le.mp c_83)]; rfl) | (rw [fwo_y (qb_01 c_51) (fun u q => by rw [hL] at q; cases q) (Int32.not_le.mp c_83)]; rfl)) (by first | rfl | exact nI_1 _) (by omega) (by first | assumption | exact oN_.tr hM (by assumption)) (by omega) _ _ hP hD hS ls (lv_sub hl [0, 1, 2, 3, 4, 5] rfl)
                · replace c_51 := b1_z c_51
                  refine lv_iload hx hb dX5_fewest_54 (lv_at hl 1 rfl) ?_
                  refine lv_if_lt (tgt := 75) hx hb dX5_fewest_56 (by decide) (fun _ => ?_) (fun q => absurd q (by decide))
                  refine lv_aload_n hx hb dX5_fewest_75 rfl (lv_at hl 3 rfl) ?_
                  refine lv_iload_n hx hb dX5_fewest_76 rfl (lv_at hl 4 rfl) ?_
                  refine lv_iload_n hx hb dX5_fewest_77 rfl (lv_at hl 5 rfl) ?_
                  refine lv_iload hx hb dX5_fewest_78 (lv_at hl 0 rfl) ?_
                  refine kMiV hx hb hml hown hts hK hP hD hA hS gX5_fewest_X5_oftenHushed okX5_oftenHushed (qX5_oftenHushed l D cI cB r B M2 a_ v_ i hI ha_ (by omega) (by omega)) [0, 1, 2, 3, 4, 5, 6, 7, 8, 9, 10, 11, 12, 13, 14, 15] rfl (by decide) (fun _ => mW_adr _ _ _ _ _ _) rfl rfl rfl (by decide) hl.1 rfl rfl (Nat.le_of_ble_eq_true rfl) dX5_fewest_80 (by decide) (fun r_3 u_4 H locs hw_5 hP hD hS => ?_)
                  replace hw_5 : r_3 = tc_ (uq_ B (qt_ B ||| nI i)) a_ v_ ∧ oN_ M2 u_4 := hw_5
                  obtain ⟨hw_5a, hw_5b⟩ := hw_5
                  subst r_3
                  replace hP : va_P D vwCl (mW cI r B u_4) H := hP
                  replace hD : va_D A (mW cI r B u_4) := hD
                  refine lv_if_le (tgt := 90) hx hb dX5_fewest_83 (by decide) (fun c_83 => ?_) (fun c_83 => ?_)
                  · have d_83 := Int32.not_lt.mpr c_83
                    refine lv_iinc (v := (nI i) + 1) (lv' := [(5, .int ((nI i) + 1)), (4, .int (-9)), (3, .int (wSN_ (sn_ B) (nI a_) (nI v_))), (0, .ref (r 0)), (1, .int (nI a_)), (2, .int (nI v_))]) hx hb dX5_fewest_90 hl (k := 0) rfl (by first | rfl | decide) (by decide) rfl (fun ls hl => ?_)
                    refine lv_goto (tgt := 34) hx hb dX5_fewest_93 (by decide) ?_
                    exact ih_34 (i + 1) (-9) ((nI i) + 1) u_4 (by first | (rw [fwo_n1 (fun q => by rw [c_51] at q; exact absurd q (by decide)), hL]; rfl) | (rw [fwo_n2 hL c_69, hL]; rfl) | (rw [fwo_n2 hL (by omega), hL]; rfl) | (rw [fwo_n3 (Int32.not_lt.mpr c_83), hL]; rfl) | (rw [fwo_y (qb_01 c_51) (fun u q => by rw [hL] at q; cases q; omega) (Int32.not_le.mp c_83)]; rfl) | (rw [fwo_y (qb_01 c_51) (fun u q => by rw [hL] at q; cases q) (Int32.not_le.mp c_83)]; rfl)) (by first | rfl | exact nI_1 _) (by omega) (by first | assumption | exact oN_.tr hM (by assumption)) (by omega) _ _ hP hD hS ls (lv_sub hl [0, 1, 2, 3, 4, 5] rfl)
                  · have d_83 := Int32.not_le.mp c_83
                    refine lv_iload hx hb dX5_fewest_86 (lv_at hl 0 rfl) ?_
                    refine lv_istore (lv' := [(4, .int (nI i)), (5, .int (nI i)), (3, .int (wSN_ (sn_ B) (nI a_) (nI v_))), (0, .ref (r 0)), (1, .int (nI a_)), (2, .int (nI v_))]) hx hb dX5_fewest_88 hl (by decide) rfl (fun ls hl => ?_)
                    refine lv_iinc (v := (nI i) + 1) (lv' := [(5, .int ((nI i) + 1)), (4, .int (nI i)), (3, .int (wSN_ (sn_ B) (nI a_) (nI v_))), (0, .ref (r 0)), (1, .int (nI a_)), (2, .int (nI v_))]) hx hb dX5_fewest_90 hl (k := 1) rfl (by first | rfl | decide) (by decide) rfl (fun ls hl => ?_)
                    refine lv_goto (tgt := 34) hx hb dX5_fewest_93 (by decide) ?_
                    exact ih_34 (i + 1) (nI i) ((nI i) + 1) u_4 (by first | (rw [fwo_n1 (fun q => by rw [c_51] at q; exact absurd q (by decide)), hL]; rfl) | (rw [fwo_n2 hL c_69, hL]; rfl) | (rw [fwo_n2 hL (by omega), hL]; rfl) | (rw [fwo_n3 (Int32.not_lt.mpr c_83), hL]; rfl) | (rw [fwo_y (qb_01 c_51) (fun u q => by rw [hL] at q; cases q; omega) (Int32.not_le.mp c_83)]; rfl) | (rw [fwo_y (qb_01 c_51) (fun u q => by rw [hL] at q; cases q) (Int32.not_le.mp c_83)]; rfl)) (by first | rfl | exact nI_1 _) (by omega) (by first | assumption | exact oN_.tr hM (by assumption)) (by omega) _ _ hP hD hS ls (lv_sub hl [0, 1, 2, 3, 4, 5] rfl)
            · rw [hL] at hl
              replace hl : lv_has ls 6 [(5, .int (nI i)), (4, .int (nI t)), (3, .int (wSN_ (sn_ B) (nI a_) (nI v_))), (0, .ref (r 0)), (1, .int (nI a_)), (2, .int (nI v_))] := hl
              have ht := fwo_lt _ _ hL
              have hpt := pn_le t
              have hpi := pn_le i
              refine lv_iload hx hb dX5_fewest_34 (lv_at hl 0 rfl) ?_
              refine lv_iconst (v := 1) hx hb dX5_fewest_36 (by decide) ?_
              refine lv_aload_n hx hb dX5_fewest_37 rfl (lv_at hl 3 rfl) ?_
              refine va_get (ci := 5) (C := RX5) (T := TX5) (N := 33) hx hb hts hinX5 hown hK.1 hP 0 rfl rfl 6 (by decide) (hts _ (List.mem_of_getElem? (i := 1) rfl)) (fun _ h9 => h9) rfl dX5_fewest_38 ?_
              refine lv_ishl hx hb dX5_fewest_41 ?_
              refine lv_icmp_ge (tgt := 96) hx hb dX5_fewest_42 (by decide) (fun c_42 => ?_) (fun c_42 => ?_)
              · rw [sh_n hn7, jle (by omega) (by omega)] at c_42
                refine lv_iload hx hb dX5_fewest_96 (lv_at hl 1 rfl) ?_
                refine rMi hx hb hr hlk hS M2 hP ?_ dX5_fewest_98
                first | exact ⟨(if_neg c_18).symm, oQ_n _ _⟩ | (refine ⟨?_, oQ_0 c_18 ?_⟩; · (rw [if_pos c_18]; simp only [tn_n (show a_ < 2147483648 by omega), tn_n (show v_ < 2147483648 by omega)]; have e9 : i = p2_ (sn_ B) := by omega; rw [e9] at hL; rw [fwo_fw (by omega) _ (by omega), hL]; rfl); · (first | exact (oN_mk (by assumption)).m | exact oM_.rf _ | exact (oN_pp _ _).m | exact (oN_fo _ _ _ _).m | assumption | (apply oN_.m; assumption) | exact oM_.tr (by assumption) (by assumption)))
              · rw [sh_n hn7, jle (by omega) (by omega)] at c_42
                refine lv_iload hx hb dX5_fewest_45 (lv_at hl 0 rfl) ?_
                refine lv_iload_n hx hb dX5_fewest_47 rfl (lv_at hl 4 rfl) ?_
                refine kSiS hx hb hml hown hts hK hP gX5_fewest_X5_has okX5_has (qX5_has l D cI cB (nI i) a_ ) [] rfl (by decide) hl.1 rfl rfl (Nat.le_of_ble_eq_true rfl) dX5_fewest_48 (by decide) (fun r_6 hr_7 => ?_)
                replace hr_7 : r_6 = b1 (qb_ (nI i) a_ = 1) := hr_7
                subst r_6
                refine lv_if_ne (tgt := 90) hx hb dX5_fewest_51 (by decide) (fun c_51 => ?_) (fun c_51 => ?_)
                · replace c_51 := b1_n c_51
                  refine lv_iinc (v := (nI i) + 1) (lv' := [(5, .int ((nI i) + 1)), (4, .int (nI t)), (3, .int (wSN_ (sn_ B) (nI a_) (nI v_))), (0, .ref (r 0)), (1, .int (nI a_)), (2, .int (nI v_))]) hx hb dX5_fewest_90 hl (k := 0) rfl (by first | rfl | decide) (by decide) rfl (fun ls hl => ?_)
                  refine lv_goto (tgt := 34) hx hb dX5_fewest_93 (by decide) ?_
                  exact ih_34 (i + 1) (nI t) ((nI i) + 1) M2 (by first | (rw [fwo_n1 (fun q => by rw [c_51] at q; exact absurd q (by decide)), hL]; rfl) | (rw [fwo_n2 hL c_69, hL]; rfl) | (rw [fwo_n2 hL (by omega), hL]; rfl) | (rw [fwo_n3 (Int32.not_lt.mpr c_83), hL]; rfl) | (rw [fwo_y (qb_01 c_51) (fun u q => by rw [hL] at q; cases q; omega) (Int32.not_le.mp c_83)]; rfl) | (rw [fwo_y (qb_01 c_51) (fun u q => by rw [hL] at q; cases q) (Int32.not_le.mp c_83)]; rfl)) (by first | rfl | exact nI_1 _) (by omega) (by first | assumption | exact oN_.tr hM (by assumption)) (by omega) _ _ hP hD hS ls (lv_sub hl [0, 1, 2, 3, 4, 5] rfl)
                · replace c_51 := b1_z c_51
                  refine lv_iload hx hb dX5_fewest_54 (lv_at hl 1 rfl) ?_
                  refine lv_if_lt (tgt := 75) hx hb dX5_fewest_56 (by decide) (fun q => absurd q (nI_pos (by omega))) (fun _ => ?_)
                  refine lv_iload hx hb dX5_fewest_59 (lv_at hl 0 rfl) ?_
                  refine kSiS hx hb hml hown hts hK hP gX5_fewest_X5_bits okX5_bits (qX5_bits l D cI cB i (by omega)) [] rfl (by decide) hl.1 rfl rfl (Nat.le_of_ble_eq_true rfl) dX5_fewest_61 (by decide) (fun r_8 hr_9 => ?_)
                  replace hr_9 : r_8 = nI (pn_ i) := hr_9
                  subst r_8
                  refine lv_iload hx hb dX5_fewest_64 (lv_at hl 1 rfl) ?_
                  refine kSiS hx hb hml hown hts hK hP gX5_fewest_X5_bits okX5_bits (qX5_bits l D cI cB t (by omega)) [] rfl (by decide) hl.1 rfl rfl (Nat.le_of_ble_eq_true rfl) dX5_fewest_66 (by decide) (fun r_10 hr_11 => ?_)
                  replace hr_11 : r_10 = nI (pn_ t) := hr_11
                  subst r_10
                  refine lv_icmp_lt (tgt := 75) hx hb dX5_fewest_69 (by decide) (fun c_69 => ?_) (fun c_69 => ?_)
                  · replace c_69 : nI (pn_ i) < nI (pn_ t) := c_69
                    rw [jlt (by omega) (by omega)] at c_69
                    refine lv_aload_n hx hb dX5_fewest_75 rfl (lv_at hl 3 rfl) ?_
                    refine lv_iload_n hx hb dX5_fewest_76 rfl (lv_at hl 4 rfl) ?_
                    refine lv_iload_n hx hb dX5_fewest_77 rfl (lv_at hl 5 rfl) ?_
                    refine lv_iload hx hb dX5_fewest_78 (lv_at hl 0 rfl) ?_
                    refine kMiV hx hb hml hown hts hK hP hD hA hS gX5_fewest_X5_oftenHushed okX5_oftenHushed (qX5_oftenHushed l D cI cB r B M2 a_ v_ i hI ha_ (by omega) (by omega)) [0, 1, 2, 3, 4, 5, 6, 7, 8, 9, 10, 11, 12, 13, 14, 15] rfl (by decide) (fun _ => mW_adr _ _ _ _ _ _) rfl rfl rfl (by decide) hl.1 rfl rfl (Nat.le_of_ble_eq_true rfl) dX5_fewest_80 (by decide) (fun r_12 u_13 H locs hw_14 hP hD hS => ?_)
                    replace hw_14 : r_12 = tc_ (uq_ B (qt_ B ||| nI i)) a_ v_ ∧ oN_ M2 u_13 := hw_14
                    obtain ⟨hw_14a, hw_14b⟩ := hw_14
                    subst r_12
                    replace hP : va_P D vwCl (mW cI r B u_13) H := hP
                    replace hD : va_D A (mW cI r B u_13) := hD
                    refine lv_if_le (tgt := 90) hx hb dX5_fewest_83 (by decide) (fun c_83 => ?_) (fun c_83 => ?_)
                    · have d_83 := Int32.not_lt.mpr c_83
                      refine lv_iinc (v := (nI i) + 1) (lv' := [(5, .int ((nI i) + 1)), (4, .int (nI t)), (3, .int (wSN_ (sn_ B) (nI a_) (nI v_))), (0, .ref (r 0)), (1, .int (nI a_)), (2, .int (nI v_))]) hx hb dX5_fewest_90 hl (k := 0) rfl (by first | rfl | decide) (by decide) rfl (fun ls hl => ?_)
                      refine lv_goto (tgt := 34) hx hb dX5_fewest_93 (by decide) ?_
                      exact ih_34 (i + 1) (nI t) ((nI i) + 1) u_13 (by first | (rw [fwo_n1 (fun q => by rw [c_51] at q; exact absurd q (by decide)), hL]; rfl) | (rw [fwo_n2 hL c_69, hL]; rfl) | (rw [fwo_n2 hL (by omega), hL]; rfl) | (rw [fwo_n3 (Int32.not_lt.mpr c_83), hL]; rfl) | (rw [fwo_y (qb_01 c_51) (fun u q => by rw [hL] at q; cases q; omega) (Int32.not_le.mp c_83)]; rfl) | (rw [fwo_y (qb_01 c_51) (fun u q => by rw [hL] at q; cases q) (Int32.not_le.mp c_83)]; rfl)) (by first | rfl | exact nI_1 _) (by omega) (by first | assumption | exact oN_.tr hM (by assumption)) (by omega) _ _ hP hD hS ls (lv_sub hl [0, 1, 2, 3, 4, 5] rfl)
                    · have d_83 := Int32.not_le.mp c_83
                      refine lv_iload hx hb dX5_fewest_86 (lv_at hl 0 rfl) ?_
                      refine lv_istore (lv' := [(4, .int (nI i)), (5, .int (nI i)), (3, .int (wSN_ (sn_ B) (nI a_) (nI v_))), (0, .ref (r 0)), (1, .int (nI a_)), (2, .int (nI v_))]) hx hb dX5_fewest_88 hl (by decide) rfl (fun ls hl => ?_)
                      refine lv_iinc (v := (nI i) + 1) (lv' := [(5, .int ((nI i) + 1)), (4, .int (nI i)), (3, .int (wSN_ (sn_ B) (nI a_) (nI v_))), (0, .ref (r 0)), (1, .int (nI a_)), (2, .int (nI v_))]) hx hb dX5_fewest_90 hl (k := 1) rfl (by first | rfl | decide) (by decide) rfl (fun ls hl => ?_)
                      refine lv_goto (tgt := 34) hx hb dX5_fewest_93 (by decide) ?_
                      exact ih_34 (i + 1) (nI i) ((nI i) + 1) u_13 (by first | (rw [fwo_n1 (fun q => by rw [c_51] at q; exact absurd q (by decide)), hL]; rfl) | (rw [fwo_n2 hL c_69, hL]; rfl) | (rw [fwo_n2 hL (by omega), hL]; rfl) | (rw [fwo_n3 (Int32.not_lt.mpr c_83), hL]; rfl) | (rw [fwo_y (qb_01 c_51) (fun u q => by rw [hL] at q; cases q; omega) (Int32.not_le.mp c_83)]; rfl) | (rw [fwo_y (qb_01 c_51) (fun u q => by rw [hL] at q; cases q) (Int32.not_le.mp c_83)]; rfl)) (by first | rfl | exact nI_1 _) (by omega) (by first | assumption | exact oN_.tr hM (by assumption)) (by omega) _ _ hP hD hS ls (lv_sub hl [0, 1, 2, 3, 4, 5] rfl)
                  · replace c_69 : ¬ nI (pn_ i) < nI (pn_ t) := c_69
                    rw [jlt (by omega) (by omega)] at c_69
                    refine lv_goto (tgt := 90) hx hb dX5_fewest_72 (by decide) ?_
                    refine lv_iinc (v := (nI i) + 1) (lv' := [(5, .int ((nI i) + 1)), (4, .int (nI t)), (3, .int (wSN_ (sn_ B) (nI a_) (nI v_))), (0, .ref (r 0)), (1, .int (nI a_)), (2, .int (nI v_))]) hx hb dX5_fewest_90 hl (k := 0) rfl (by first | rfl | decide) (by decide) rfl (fun ls hl => ?_)
                    refine lv_goto (tgt := 34) hx hb dX5_fewest_93 (by decide) ?_
                    exact ih_34 (i + 1) (nI t) ((nI i) + 1) M2 (by first | (rw [fwo_n1 (fun q => by rw [c_51] at q; exact absurd q (by decide)), hL]; rfl) | (rw [fwo_n2 hL c_69, hL]; rfl) | (rw [fwo_n2 hL (by omega), hL]; rfl) | (rw [fwo_n3 (Int32.not_lt.mpr c_83), hL]; rfl) | (rw [fwo_y (qb_01 c_51) (fun u q => by rw [hL] at q; cases q; omega) (Int32.not_le.mp c_83)]; rfl) | (rw [fwo_y (qb_01 c_51) (fun u q => by rw [hL] at q; cases q) (Int32.not_le.mp c_83)]; rfl)) (by first | rfl | exact nI_1 _) (by omega) (by first | assumption | exact oN_.tr hM (by assumption)) (by omega) _ _ hP hD hS ls (lv_sub hl [0, 1, 2, 3, 4, 5] rfl)
        exact lp_34 ((p2_ (sn_ B)) + 1) 0 (-9) 0 M (rfl) (by first | rfl | exact nI_0.symm) (by omega) (by first | assumption | exact oN_.rf _) (by omega) _ _ hP hD hS ls (lv_sub hl [0, 1, 2, 3, 4, 5] rfl)
      · skip
        refine lv_aload_n hx hb dX5_fewest_21 rfl (lv_at hl 1 rfl) ?_
        refine lv_iload_n hx hb dX5_fewest_22 rfl (lv_at hl 0 rfl) ?_
        refine kMiV hx hb hml hown hts hK hP hD hA hS gX5_fewest_X5_no okX5_no (qX5_no l D cI cB r B M (wSN_ (sn_ B) a v) (rc0_n (by first | exact rc0_wS _ _ | exact rc0_wSN _ _ _ | exact rc0_wSNW _ _ _ _ | exact rc0_wNW _ _ | exact rc0_wTh _ _ _ _ _ | exact rc0_wTr _ _ _ _ | exact rc0_nb _ _ | exact rc0_uk _ _ | exact rc0_ob _ _ _ | exact rc0_f2 (rc0_nb _ _) (rc0_nb _ _) | exact rc0_f2 (rc0_nb _ _) (rc0_uk _ _) | exact rc0_f2 (rc0_ob _ _ _) (rc0_uk _ _) | exact rc0_f2 (rc0_uk _ _) (rc0_f2 (rc0_uk _ _) (rc0_ob _ _ _))) c_18)) [0, 1, 2, 3, 4, 5, 6, 7, 8, 9, 10, 11, 12, 13, 14, 15] rfl (by decide) (fun _ => mW_adr _ _ _ _ _ _) rfl rfl rfl (by decide) hl.1 rfl rfl (Nat.le_of_ble_eq_true rfl) dX5_fewest_23 (by decide) (fun r_15 u_16 H locs hw_17 hP hD hS => ?_)
        replace hw_17 : r_15 = wSN_ (sn_ B) a v ∧ u_16 = (rfm_ M (wSN_ (sn_ B) a v)) := hw_17
        obtain ⟨hw_17a, hw_17b⟩ := hw_17
        subst r_15
        subst u_16
        replace hP : va_P D vwCl ([(r 0, .inr (5, [.ref (r 1), .ref (r 2), .ref (r 3), .ref (r 4), .ref (r 5), .ref (r 6), .int (nI (sn_ B)), .int (qt_ B), .int (il_ B), .int (pa_ B), .int (ho_ B), .int (dy_ B), .ref (r 13), .ref (r 14), .ref (r 15), .ref (r 16), .int (nI (mtn_ M)), .int (nI (mrd_ M)), .int (nI (msm_ M)), .ref (r 20), .int (mhi_ M), .int (mik_ M), .int (nI (mcu_ M)), .int (nI (mbk_ M)), .ref (r 25), .ref (r 26), .int (mlw_ M), .int (mhg_ M), .int (msl_ M), .ref (r 30), .int (nI (mrm_ M)), .ref (r 32), .int (mlo_ M)])), (r 1, .inl (cI, 7, .inl (rfx_ (mrf_ M) (wSN_ (sn_ B) a v)))), (r 2, .inl (cI, 7, .inl (kd_ B))), (r 3, .inl (cI, 7, .inl (fg_ B))), (r 4, .inl (cI, 7, .inl (pl_ B))), (r 5, .inl (cI, 7, .inl (pw_ B))), (r 6, .inl (cI, 7, .inl (jy_ B))), (r 13, .inl (cI, 96, .inl (mtp_ M))), (r 14, .inl (cI, 48, .inl (mlt_ M))), (r 15, .inl (cI, 48, .inl (mla_ M))), (r 16, .inl (cI, 144, .inl (mtd_ M))), (r 20, .inl (cI, 451, .inl (flatK (mkp_ M)))), (r 25, .inl (cI, 7, .inl (mof_ M))), (r 26, .inl (cI, 7, .inl (mfa_ M))), (r 30, .inl (cI, 12, .inl (mrw_ M))), (r 32, .inl (cI, 8, .inl (mhb_ M)))]) H := hP
        replace hD : va_D A ([(r 0, .inr (5, [.ref (r 1), .ref (r 2), .ref (r 3), .ref (r 4), .ref (r 5), .ref (r 6), .int (nI (sn_ B)), .int (qt_ B), .int (il_ B), .int (pa_ B), .int (ho_ B), .int (dy_ B), .ref (r 13), .ref (r 14), .ref (r 15), .ref (r 16), .int (nI (mtn_ M)), .int (nI (mrd_ M)), .int (nI (msm_ M)), .ref (r 20), .int (mhi_ M), .int (mik_ M), .int (nI (mcu_ M)), .int (nI (mbk_ M)), .ref (r 25), .ref (r 26), .int (mlw_ M), .int (mhg_ M), .int (msl_ M), .ref (r 30), .int (nI (mrm_ M)), .ref (r 32), .int (mlo_ M)])), (r 1, .inl (cI, 7, .inl (rfx_ (mrf_ M) (wSN_ (sn_ B) a v)))), (r 2, .inl (cI, 7, .inl (kd_ B))), (r 3, .inl (cI, 7, .inl (fg_ B))), (r 4, .inl (cI, 7, .inl (pl_ B))), (r 5, .inl (cI, 7, .inl (pw_ B))), (r 6, .inl (cI, 7, .inl (jy_ B))), (r 13, .inl (cI, 96, .inl (mtp_ M))), (r 14, .inl (cI, 48, .inl (mlt_ M))), (r 15, .inl (cI, 48, .inl (mla_ M))), (r 16, .inl (cI, 144, .inl (mtd_ M))), (r 20, .inl (cI, 451, .inl (flatK (mkp_ M)))), (r 25, .inl (cI, 7, .inl (mof_ M))), (r 26, .inl (cI, 7, .inl (mfa_ M))), (r 30, .inl (cI, 12, .inl (mrw_ M))), (r 32, .inl (cI, 8, .inl (mhb_ M)))]) := hD
        refine rMi hx hb hr hlk hS (rfm_ M (wSN_ (sn_ B) a v)) hP ?_ dX5_fewest_26
        first | exact ⟨(if_neg c_18).symm, oQ_n _ _⟩ | (refine ⟨?_, oQ_0 c_18 ?_⟩; · (rw [if_pos c_18]; simp only [tn_n (show a_ < 2147483648 by omega), tn_n (show v_ < 2147483648 by omega)]; have e9 : i = p2_ (sn_ B) := by omega; rw [e9] at hL; rw [fwo_fw (by omega) _ (by omega), hL]; rfl); · (first | exact (oN_mk (by assumption)).m | exact oM_.rf _ | exact (oN_pp _ _).m | exact (oN_fo _ _ _ _).m | assumption | (apply oN_.m; assumption) | exact oM_.tr (by assumption) (by assumption)))
  refine lv_aload_n hx hb dX5_fewest_0 rfl (lv_at hl 0 rfl) ?_
  refine lv_iload_n hx hb dX5_fewest_1 rfl (lv_at hl 1 rfl) ?_
  refine kSiV hx hb hml hown hts hK hP gX5_fewest_X5_isShore okX5_isShore (qX5_isShore l D cI cB r B M a (by show sn_ B ≤ 7; omega)) [0, 1, 2, 3, 4, 5, 6, 7, 8, 9, 10, 11, 12, 13, 14, 15] rfl rfl rfl rfl (by decide) hl.1 rfl rfl (Nat.le_of_ble_eq_true rfl) dX5_fewest_2 (by decide) (fun r_18 hr_19 => ?_)
  replace hr_19 : r_18 = b1 (0 ≤ a ∧ a < nI (sn_ B)) := hr_19
  subst r_18
  refine lv_if_ne (tgt := 12) hx hb dX5_fewest_5 (by decide) (fun c_5 => ?_) (fun c_5 => ?_)
  · replace c_5 := b1_n c_5
    refine lv_iload_n hx hb dX5_fewest_12 rfl (lv_at hl 2 rfl) ?_
    refine kSiS hx hb hml hown hts hK hP gX5_fewest_X5_notHours okX5_notHours (qX5_notHours l D cI cB v ) [] rfl (by decide) hl.1 rfl rfl (Nat.le_of_ble_eq_true rfl) dX5_fewest_13 (by decide) (fun r_20 hr_21 => ?_)
    replace hr_21 : r_20 = ob_ v 0 99 := hr_21
    subst r_20
    refine lv_istore_n (lv' := [(3, .int (ob_ v 0 99)), (0, .ref (r 0)), (1, .int a), (2, .int v)]) hx hb dX5_fewest_16 rfl hl (by decide) rfl (fun ls hl => ?_)
    exact jn_17  (ob_ v 0 99)  (by first | exact (f2_b (nb_i c_5)).symm | exact ((f2_a (by rw [nb_o c_5]; decide)).trans (nb_o c_5)).symm)   _ _ hP hD hS ls (lv_sub hl [0, 1, 2, 3] rfl)
  · replace c_5 := b1_z c_5
    refine lv_iconst (v := (-1)) hx hb dX5_fewest_8 (by decide) ?_
    refine lv_goto (tgt := 16) hx hb dX5_fewest_9 (by decide) ?_
    refine lv_istore_n (lv' := [(3, .int (-1)), (0, .ref (r 0)), (1, .int a), (2, .int v)]) hx hb dX5_fewest_16 rfl hl (by decide) rfl (fun ls hl => ?_)
    exact jn_17  (-1)  (by first | exact (f2_b (nb_i c_5)).symm | exact ((f2_a (by rw [nb_o c_5]; decide)).trans (nb_o c_5)).symm)   _ _ hP hD hS ls (lv_sub hl [0, 1, 2, 3] rfl)

theorem okX5_fromWhere : jok yX5_fromWhere wsX5_fromWhere cX5_fromWhere 8 (some .int) 3 := ⟨⟨_, rfl⟩, by decide +kernel, by decide +kernel⟩
set_option maxHeartbeats 2000000 in
set_option maxRecDepth 100000 in
theorem qX5_fromWhere (l : Launch) (D : va_G) (cI cB : ClassId) (r : Nat → Nat) (B : BayT) (M : MT) (a : Int32) (v : Int32) (q : Int32) (hI : bI_ B) : jMi D cI cB l yX5_fromWhere wsX5_fromWhere 8 [.ref (r 0), .int a, .int v, .int q] (mW cI r B M) (S := MT) (fun r u => r = (if wSNW_ (sn_ B) a v q = 0 then (if q = 0 then cs_ B (tn_ a) (tn_ v) 31 else oI_ (ls_ B (tn_ a) (tn_ v) 31 0)) else wSNW_ (sn_ B) a v q) ∧ oQ_ M u (wSNW_ (sn_ B) a v q)) (fun u => mW cI r B u) := by
  refine jMi.of (cc := cX5_fromWhere) (maxL := 8) (ret := (some .int)) okX5_fromWhere (Nat.le_of_ble_eq_true rfl) ?_
  intro p e s m below meth c ls A hx hb hr hts hown hlk hml hP hK hD hA hS hl
  replace hown : s.vm.findClass RX5 = some m.cls := hown
  replace hl : lv_has ls 8 [(0, .ref (r 0)), (1, .int a), (2, .int v), (3, .int q)] := hl
  have hn7 := hI.1
  have jn_18 : ∀  (x4_18 : Int32) , (x4_18 = wSN_ (sn_ B) a v) → ∀ (H : Heap) (locs : List Loc), va_P D vwCl (mW cI r B M) H → va_D A (mW cI r B M) → va_S A s.heap H locs → ∀ ls : Array Slot, lv_has ls 8 [(4, .int x4_18), (0, .ref (r 0)), (1, .int a), (2, .int v), (3, .int q)] → W p l e (jR 8) s m ([.ref (r 0), .int a, .int v, .int q] : List Value).toArray below meth c H locs 0 0 (MQ below (va_Qi (S := MT) (fun r u => r = (if wSNW_ (sn_ B) a v q = 0 then (if q = 0 then cs_ B (tn_ a) (tn_ v) 31 else oI_ (ls_ B (tn_ a) (tn_ v) 31 0)) else wSNW_ (sn_ B) a v q) ∧ oQ_ M u (wSNW_ (sn_ B) a v q)) (fun u t => va_P D vwCl ((fun u => mW cI r B u) u) t.heap) A) ([.ref (r 0), .int a, .int v, .int q] : List Value).toArray s 0 0 A) (F0 m 18 ls []) := by
      intro x4_18 hx4_18 H locs hP hD hS ls hl
      subst x4_18
      replace hl : lv_has ls 8 [(4, .int (wSN_ (sn_ B) a v)), (0, .ref (r 0)), (1, .int a), (2, .int v), (3, .int q)] := hl
      replace hP : va_P D vwCl (mW cI r B M) H := hP
      replace hD : va_D A (mW cI r B M) := hD
      have jn_36 : ∀  (x4_36 : Int32) , (x4_36 = wSNW_ (sn_ B) a v q) → ∀ (H : Heap) (locs : List Loc), va_P D vwCl (mW cI r B M) H → va_D A (mW cI r B M) → va_S A s.heap H locs → ∀ ls : Array Slot, lv_has ls 8 [(4, .int x4_36), (0, .ref (r 0)), (1, .int a), (2, .int v), (3, .int q)] → W p l e (jR 8) s m ([.ref (r 0), .int a, .int v, .int q] : List Value).toArray below meth c H locs 0 0 (MQ below (va_Qi (S := MT) (fun r u => r = (if wSNW_ (sn_ B) a v q = 0 then (if q = 0 then cs_ B (tn_ a) (tn_ v) 31 else oI_ (ls_ B (tn_ a) (tn_ v) 31 0)) else wSNW_ (sn_ B) a v q) ∧ oQ_ M u (wSNW_ (sn_ B) a v q)) (fun u t => va_P D vwCl ((fun u => mW cI r B u) u) t.heap) A) ([.ref (r 0), .int a, .int v, .int q] : List Value).toArray s 0 0 A) (F0 m 36 ls []) := by
          intro x4_36 hx4_36 H locs hP hD hS ls hl
          subst x4_36
          replace hl : lv_has ls 8 [(4, .int (wSNW_ (sn_ B) a v q)), (0, .ref (r 0)), (1, .int a), (2, .int v), (3, .int q)] := hl
          replace hP : va_P D vwCl (mW cI r B M) H := hP
          replace hD : va_D A (mW cI r B M) := hD
          refine lv_iload hx hb dX5_fromWhere_36 (lv_at hl 0 rfl) ?_
          refine lv_if_eq (tgt := 48) hx hb dX5_fromWhere_38 (by decide) (fun c_38 => ?_) (fun c_38 => ?_)
          · skip
            have w0 := c_38
            simp only [wS_, wSN_, wSNW_, wNW_, wTh_, wTr_, f2_0, nb_0, ob_0, uk_0, lo_0, hi_0] at w0
            obtain ⟨a_, ha_, rfl⟩ := pl_lt (n := sn_ B) (by omega) w0.1.1
            obtain ⟨v_, hv_, rfl⟩ := pl_le (n := 99) (by decide) w0.1.2
            replace hl : lv_has ls 8 [(4, .int (wSNW_ (sn_ B) (nI a_) (nI v_) q)), (0, .ref (r 0)), (1, .int (nI a_)), (2, .int (nI v_)), (3, .int q)] := hl
            refine lv_iconst (v := 0) hx hb dX5_fromWhere_48 (by decide) ?_
            refine lv_istore (lv' := [(5, .int 0), (4, .int (wSNW_ (sn_ B) (nI a_) (nI v_) q)), (0, .ref (r 0)), (1, .int (nI a_)), (2, .int (nI v_)), (3, .int q)]) hx hb dX5_fromWhere_49 hl (by decide) rfl (fun ls hl => ?_)
            refine lv_bipush (v := (-9)) hx hb dX5_fromWhere_51 (by decide) ?_
            refine lv_istore (lv' := [(6, .int (-9)), (5, .int 0), (4, .int (wSNW_ (sn_ B) (nI a_) (nI v_) q)), (0, .ref (r 0)), (1, .int (nI a_)), (2, .int (nI v_)), (3, .int q)]) hx hb dX5_fromWhere_53 hl (by decide) rfl (fun ls hl => ?_)
            refine lv_bipush (v := 30) hx hb dX5_fromWhere_55 (by decide) ?_
            refine lv_istore (lv' := [(7, .int 30), (6, .int (-9)), (5, .int 0), (4, .int (wSNW_ (sn_ B) (nI a_) (nI v_) q)), (0, .ref (r 0)), (1, .int (nI a_)), (2, .int (nI v_)), (3, .int q)]) hx hb dX5_fromWhere_57 hl (by decide) rfl (fun ls hl => ?_)
            have lp_59 : ∀ (fu_59 : Nat) (i : Nat) (x5_59 : Int32) (x6_59 : Int32) (x7_59 : Int32) (M2 : MT), (x5_59 = csd_ B a_ v_ i) → (x6_59 = oI_ (ls_ B a_ v_ i (31 - i))) → (x7_59 = 30 - nI i) → (i ≤ 31) → (oM_ M M2) → 31 - i < fu_59 → ∀ (H : Heap) (locs : List Loc), va_P D vwCl (mW cI r B M2) H → va_D A (mW cI r B M2) → va_S A s.heap H locs → ∀ ls : Array Slot, lv_has ls 8 [(7, .int x7_59), (6, .int x6_59), (5, .int x5_59), (4, .int (wSNW_ (sn_ B) (nI a_) (nI v_) q)), (0, .ref (r 0)), (1, .int (nI a_)), (2, .int (nI v_)), (3, .int q)] → W p l e (jR 8) s m ([.ref (r 0), .int (nI a_), .int (nI v_), .int q] : List Value).toArray below meth c H locs 0 0 (MQ below (va_Qi (S := MT) (fun r u => r = (if wSNW_ (sn_ B) (nI a_) (nI v_) q = 0 then (if q = 0 then cs_ B (tn_ (nI a_)) (tn_ (nI v_)) 31 else oI_ (ls_ B (tn_ (nI a_)) (tn_ (nI v_)) 31 0)) else wSNW_ (sn_ B) (nI a_) (nI v_) q) ∧ oQ_ M u (wSNW_ (sn_ B) (nI a_) (nI v_) q)) (fun u t => va_P D vwCl ((fun u => mW cI r B u) u) t.heap) A) ([.ref (r 0), .int (nI a_), .int (nI v_), .int q] : List Value).toArray s 0 0 A) (F0 m 59 ls []) := by
              intro fu_59
              induction fu_59 with
              | zero => intro i x5_59 x6_59 x7_59 M2 hx5_59 hx6_59 hx7_59 hi hM hfu; exact absurd hfu (Nat.not_lt_zero _)
              | succ fu_59 ih_59 =>
                intro i x5_59 x6_59 x7_59 M2 hx5_59 hx6_59 hx7_59 hi hM hfu_59 H locs hP hD hS ls hl
                subst x5_59
                subst x6_59
                subst x7_59
                replace hl : lv_has ls 8 [(7, .int (30 - nI i)), (6, .int (oI_ (ls_ B a_ v_ i (31 - i)))), (5, .int (csd_ B a_ v_ i)), (4, .int (wSNW_ (sn_ B) (nI a_) (nI v_) q)), (0, .ref (r 0)), (1, .int (nI a_)), (2, .int (nI v_)), (3, .int q)] := hl
                replace hP : va_P D vwCl (mW cI r B M2) H := hP
                replace hD : va_D A (mW cI r B M2) := hD
                refine lv_iload hx hb dX5_fromWhere_59 (lv_at hl 0 rfl) ?_
                refine lv_if_lt (tgt := 91) hx hb dX5_fromWhere_61 (by decide) (fun c_61 => ?_) (fun c_61 => ?_)
                · rw [d30_lt (by omega)] at c_61
                  refine lv_iload_n hx hb dX5_fromWhere_91 rfl (lv_at hl 7 rfl) ?_
                  refine lv_if_ne (tgt := 100) hx hb dX5_fromWhere_92 (by decide) (fun c_92 => ?_) (fun c_92 => ?_)
                  · skip
                    refine lv_iload hx hb dX5_fromWhere_100 (lv_at hl 1 rfl) ?_
                    refine rMi hx hb hr hlk hS M2 hP ?_ dX5_fromWhere_102
                    first | exact ⟨(if_neg c_38).symm, oQ_n _ _⟩ | (refine ⟨?_, oQ_0 c_38 ?_⟩; · (rw [if_pos c_38]; simp only [tn_n (show a_ < 2147483648 by omega), tn_n (show v_ < 2147483648 by omega)]; have e9 : i = 31 := by omega; subst e9; first | (rw [if_pos c_92]; exact csd_31 _ _ _) | (rw [if_neg c_92]; done)); · (first | exact (oN_mk (by assumption)).m | exact oM_.rf _ | exact (oN_pp _ _).m | exact (oN_fo _ _ _ _).m | assumption | (apply oN_.m; assumption) | exact oM_.tr (by assumption) (by assumption)))
                  · skip
                    refine lv_iload hx hb dX5_fromWhere_95 (lv_at hl 2 rfl) ?_
                    refine lv_goto (tgt := 102) hx hb dX5_fromWhere_97 (by decide) ?_
                    refine rMi hx hb hr hlk hS M2 hP ?_ dX5_fromWhere_102
                    first | exact ⟨(if_neg c_38).symm, oQ_n _ _⟩ | (refine ⟨?_, oQ_0 c_38 ?_⟩; · (rw [if_pos c_38]; simp only [tn_n (show a_ < 2147483648 by omega), tn_n (show v_ < 2147483648 by omega)]; have e9 : i = 31 := by omega; subst e9; first | (rw [if_pos c_92]; exact csd_31 _ _ _) | (rw [if_neg c_92]; done)); · (first | exact (oN_mk (by assumption)).m | exact oM_.rf _ | exact (oN_pp _ _).m | exact (oN_fo _ _ _ _).m | assumption | (apply oN_.m; assumption) | exact oM_.tr (by assumption) (by assumption)))
                · rw [d30_lt (by omega)] at c_61
                  refine lv_aload_n hx hb dX5_fromWhere_64 rfl (lv_at hl 4 rfl) ?_
                  refine lv_iload hx hb dX5_fromWhere_65 (lv_at hl 0 rfl) ?_
                  refine sti (x := 30 - nI i) (y := nI (30 - i)) (d30_n (by omega)) ?_
                  refine lv_iload_n hx hb dX5_fromWhere_67 rfl (lv_at hl 5 rfl) ?_
                  refine lv_iload_n hx hb dX5_fromWhere_68 rfl (lv_at hl 6 rfl) ?_
                  refine kMiV hx hb hml hown hts hK hP hD hA hS gX5_fromWhere_X5_isThereFrom okX5_isThereFrom (qX5_isThereFrom l D cI cB r B M2 (30 - i) a_ v_ hI (by omega) ha_ (by omega)) [0, 1, 2, 3, 4, 5, 6, 7, 8, 9, 10, 11, 12, 13, 14, 15] rfl (by decide) (fun _ => mW_adr _ _ _ _ _ _) rfl rfl rfl (by decide) hl.1 rfl rfl (Nat.le_of_ble_eq_true rfl) dX5_fromWhere_69 (by decide) (fun r_1 u_2 H locs hw_3 hP hD hS => ?_)
                  replace hw_3 : r_1 = b1 (lead_ B a_ v_ (30 - i)) ∧ oM_ M2 u_2 := hw_3
                  obtain ⟨hw_3a, hw_3b⟩ := hw_3
                  subst r_1
                  replace hP : va_P D vwCl (mW cI r B u_2) H := hP
                  replace hD : va_D A (mW cI r B u_2) := hD
                  refine lv_if_ne (tgt := 78) hx hb dX5_fromWhere_72 (by decide) (fun c_72 => ?_) (fun c_72 => ?_)
                  · replace c_72 := b1_n c_72
                    refine lv_iinc (v := (csd_ B a_ v_ i) + 1) (lv' := [(5, .int ((csd_ B a_ v_ i) + 1)), (7, .int (30 - nI i)), (6, .int (oI_ (ls_ B a_ v_ i (31 - i)))), (4, .int (wSNW_ (sn_ B) (nI a_) (nI v_) q)), (0, .ref (r 0)), (1, .int (nI a_)), (2, .int (nI v_)), (3, .int q)]) hx hb dX5_fromWhere_78 hl (k := 2) rfl (by first | rfl | decide) (by decide) rfl (fun ls hl => ?_)
                    refine lv_iload hx hb dX5_fromWhere_81 (lv_at hl 1 rfl) ?_
                    refine sti (x := 30 - nI i) (y := nI (30 - i)) (d30_n (by omega)) ?_
                    refine lv_istore (lv' := [(6, .int (nI (30 - i))), (5, .int ((csd_ B a_ v_ i) + 1)), (7, .int (30 - nI i)), (4, .int (wSNW_ (sn_ B) (nI a_) (nI v_) q)), (0, .ref (r 0)), (1, .int (nI a_)), (2, .int (nI v_)), (3, .int q)]) hx hb dX5_fromWhere_83 hl (by decide) rfl (fun ls hl => ?_)
                    refine lv_iinc (v := (30 - nI i) + (-1)) (lv' := [(7, .int ((30 - nI i) + (-1))), (6, .int (nI (30 - i))), (5, .int ((csd_ B a_ v_ i) + 1)), (4, .int (wSNW_ (sn_ B) (nI a_) (nI v_) q)), (0, .ref (r 0)), (1, .int (nI a_)), (2, .int (nI v_)), (3, .int q)]) hx hb dX5_fromWhere_85 hl (k := 2) rfl (by first | rfl | decide) (by decide) rfl (fun ls hl => ?_)
                    refine lv_goto (tgt := 59) hx hb dX5_fromWhere_88 (by decide) ?_
                    exact ih_59 (i + 1) ((csd_ B a_ v_ i) + 1) (nI (30 - i)) ((30 - nI i) + (-1)) u_2 (by first | (rw [csd_, if_pos c_72]; done) | (rw [csd_, if_neg c_72]; done)) (by first | (rw [ls_d (by omega), if_pos c_72]; rfl) | (rw [ls_d (by omega), if_neg c_72]; done)) (d30_s (by omega)) (by omega) (oM_.tr hM (by assumption)) (by omega) _ _ hP hD hS ls (lv_sub hl [0, 1, 2, 3, 4, 5, 6, 7] rfl)
                  · replace c_72 := b1_z c_72
                    refine lv_goto (tgt := 85) hx hb dX5_fromWhere_75 (by decide) ?_
                    refine lv_iinc (v := (30 - nI i) + (-1)) (lv' := [(7, .int ((30 - nI i) + (-1))), (6, .int (oI_ (ls_ B a_ v_ i (31 - i)))), (5, .int (csd_ B a_ v_ i)), (4, .int (wSNW_ (sn_ B) (nI a_) (nI v_) q)), (0, .ref (r 0)), (1, .int (nI a_)), (2, .int (nI v_)), (3, .int q)]) hx hb dX5_fromWhere_85 hl (k := 0) rfl (by first | rfl | decide) (by decide) rfl (fun ls hl => ?_)
                    refine lv_goto (tgt := 59) hx hb dX5_fromWhere_88 (by decide) ?_
                    exact ih_59 (i + 1) (csd_ B a_ v_ i) (oI_ (ls_ B a_ v_ i (31 - i))) ((30 - nI i) + (-1)) u_2 (by first | (rw [csd_, if_pos c_72]; done) | (rw [csd_, if_neg c_72]; done)) (by first | (rw [ls_d (by omega), if_pos c_72]; rfl) | (rw [ls_d (by omega), if_neg c_72]; done)) (d30_s (by omega)) (by omega) (oM_.tr hM (by assumption)) (by omega) _ _ hP hD hS ls (lv_sub hl [0, 1, 2, 3, 4, 5, 6, 7] rfl)
            exact lp_59 (31 + 1) 0 0 (-9) 30 M (rfl) (rfl) (rfl) (by omega) (oM_.rf _) (by omega) _ _ hP hD hS ls (lv_sub hl [0, 1, 2, 3, 4, 5, 6, 7] rfl)
          · skip
            refine lv_aload_n hx hb dX5_fromWhere_41 rfl (lv_at hl 1 rfl) ?_
            refine lv_iload hx hb dX5_fromWhere_42 (lv_at hl 0 rfl) ?_
            refine kMiV hx hb hml hown hts hK hP hD hA hS gX5_fromWhere_X5_no okX5_no (qX5_no l D cI cB r B M (wSNW_ (sn_ B) a v q) (rc0_n (by first | exact rc0_wS _ _ | exact rc0_wSN _ _ _ | exact rc0_wSNW _ _ _ _ | exact rc0_wNW _ _ | exact rc0_wTh _ _ _ _ _ | exact rc0_wTr _ _ _ _ | exact rc0_nb _ _ | exact rc0_uk _ _ | exact rc0_ob _ _ _ | exact rc0_f2 (rc0_nb _ _) (rc0_nb _ _) | exact rc0_f2 (rc0_nb _ _) (rc0_uk _ _) | exact rc0_f2 (rc0_ob _ _ _) (rc0_uk _ _) | exact rc0_f2 (rc0_uk _ _) (rc0_f2 (rc0_uk _ _) (rc0_ob _ _ _))) c_38)) [0, 1, 2, 3, 4, 5, 6, 7, 8, 9, 10, 11, 12, 13, 14, 15] rfl (by decide) (fun _ => mW_adr _ _ _ _ _ _) rfl rfl rfl (by decide) hl.1 rfl rfl (Nat.le_of_ble_eq_true rfl) dX5_fromWhere_44 (by decide) (fun r_4 u_5 H locs hw_6 hP hD hS => ?_)
            replace hw_6 : r_4 = wSNW_ (sn_ B) a v q ∧ u_5 = (rfm_ M (wSNW_ (sn_ B) a v q)) := hw_6
            obtain ⟨hw_6a, hw_6b⟩ := hw_6
            subst r_4
            subst u_5
            replace hP : va_P D vwCl ([(r 0, .inr (5, [.ref (r 1), .ref (r 2), .ref (r 3), .ref (r 4), .ref (r 5), .ref (r 6), .int (nI (sn_ B)), .int (qt_ B), .int (il_ B), .int (pa_ B), .int (ho_ B), .int (dy_ B), .ref (r 13), .ref (r 14), .ref (r 15), .ref (r 16), .int (nI (mtn_ M)), .int (nI (mrd_ M)), .int (nI (msm_ M)), .ref (r 20), .int (mhi_ M), .int (mik_ M), .int (nI (mcu_ M)), .int (nI (mbk_ M)), .ref (r 25), .ref (r 26), .int (mlw_ M), .int (mhg_ M), .int (msl_ M), .ref (r 30), .int (nI (mrm_ M)), .ref (r 32), .int (mlo_ M)])), (r 1, .inl (cI, 7, .inl (rfx_ (mrf_ M) (wSNW_ (sn_ B) a v q)))), (r 2, .inl (cI, 7, .inl (kd_ B))), (r 3, .inl (cI, 7, .inl (fg_ B))), (r 4, .inl (cI, 7, .inl (pl_ B))), (r 5, .inl (cI, 7, .inl (pw_ B))), (r 6, .inl (cI, 7, .inl (jy_ B))), (r 13, .inl (cI, 96, .inl (mtp_ M))), (r 14, .inl (cI, 48, .inl (mlt_ M))), (r 15, .inl (cI, 48, .inl (mla_ M))), (r 16, .inl (cI, 144, .inl (mtd_ M))), (r 20, .inl (cI, 451, .inl (flatK (mkp_ M)))), (r 25, .inl (cI, 7, .inl (mof_ M))), (r 26, .inl (cI, 7, .inl (mfa_ M))), (r 30, .inl (cI, 12, .inl (mrw_ M))), (r 32, .inl (cI, 8, .inl (mhb_ M)))]) H := hP
            replace hD : va_D A ([(r 0, .inr (5, [.ref (r 1), .ref (r 2), .ref (r 3), .ref (r 4), .ref (r 5), .ref (r 6), .int (nI (sn_ B)), .int (qt_ B), .int (il_ B), .int (pa_ B), .int (ho_ B), .int (dy_ B), .ref (r 13), .ref (r 14), .ref (r 15), .ref (r 16), .int (nI (mtn_ M)), .int (nI (mrd_ M)), .int (nI (msm_ M)), .ref (r 20), .int (mhi_ M), .int (mik_ M), .int (nI (mcu_ M)), .int (nI (mbk_ M)), .ref (r 25), .ref (r 26), .int (mlw_ M), .int (mhg_ M), .int (msl_ M), .ref (r 30), .int (nI (mrm_ M)), .ref (r 32), .int (mlo_ M)])), (r 1, .inl (cI, 7, .inl (rfx_ (mrf_ M) (wSNW_ (sn_ B) a v q)))), (r 2, .inl (cI, 7, .inl (kd_ B))), (r 3, .inl (cI, 7, .inl (fg_ B))), (r 4, .inl (cI, 7, .inl (pl_ B))), (r 5, .inl (cI, 7, .inl (pw_ B))), (r 6, .inl (cI, 7, .inl (jy_ B))), (r 13, .inl (cI, 96, .inl (mtp_ M))), (r 14, .inl (cI, 48, .inl (mlt_ M))), (r 15, .inl (cI, 48, .inl (mla_ M))), (r 16, .inl (cI, 144, .inl (mtd_ M))), (r 20, .inl (cI, 451, .inl (flatK (mkp_ M)))), (r 25, .inl (cI, 7, .inl (mof_ M))), (r 26, .inl (cI, 7, .inl (mfa_ M))), (r 30, .inl (cI, 12, .inl (mrw_ M))), (r 32, .inl (cI, 8, .inl (mhb_ M)))]) := hD
            refine rMi hx hb hr hlk hS (rfm_ M (wSNW_ (sn_ B) a v q)) hP ?_ dX5_fromWhere_47
            first | exact ⟨(if_neg c_38).symm, oQ_n _ _⟩ | (refine ⟨?_, oQ_0 c_38 ?_⟩; · (rw [if_pos c_38]; simp only [tn_n (show a_ < 2147483648 by omega), tn_n (show v_ < 2147483648 by omega)]; have e9 : i = 31 := by omega; subst e9; first | (rw [if_pos c_92]; exact csd_31 _ _ _) | (rw [if_neg c_92]; done)); · (first | exact (oN_mk (by assumption)).m | exact oM_.rf _ | exact (oN_pp _ _).m | exact (oN_fo _ _ _ _).m | assumption | (apply oN_.m; assumption) | exact oM_.tr (by assumption) (by assumption)))
      refine lv_iload hx hb dX5_fromWhere_18 (lv_at hl 0 rfl) ?_
      refine lv_if_ne (tgt := 36) hx hb dX5_fromWhere_20 (by decide) (fun c_20 => ?_) (fun c_20 => ?_)
      · skip
        exact jn_36  (wSN_ (sn_ B) a v)  (by first | exact (f2_a c_20).symm | exact c_20.trans ((f2_b c_20).trans (uk_i c_29)).symm | exact ((f2_b c_20).trans (uk_o c_29)).symm)   _ _ hP hD hS ls (lv_sub hl [0, 1, 2, 3, 4] rfl)
      · skip
        refine lv_iload_n hx hb dX5_fromWhere_23 rfl (lv_at hl 4 rfl) ?_
        refine lv_iconst (v := 0) hx hb dX5_fromWhere_24 (by decide) ?_
        refine lv_iconst (v := 1) hx hb dX5_fromWhere_25 (by decide) ?_
        refine kSiS hx hb hml hown hts hK hP gX5_fromWhere_X5_isIn okX5_isIn (qX5_isIn l D cI cB q 0 1 ) [] rfl (by decide) hl.1 rfl rfl (Nat.le_of_ble_eq_true rfl) dX5_fromWhere_26 (by decide) (fun r_7 hr_8 => ?_)
        replace hr_8 : r_7 = b1 (0 ≤ q ∧ q ≤ 1) := hr_8
        subst r_7
        refine lv_if_ne (tgt := 36) hx hb dX5_fromWhere_29 (by decide) (fun c_29 => ?_) (fun c_29 => ?_)
        · replace c_29 := b1_n c_29
          exact jn_36  (wSN_ (sn_ B) a v)  (by first | exact (f2_a c_20).symm | exact c_20.trans ((f2_b c_20).trans (uk_i c_29)).symm | exact ((f2_b c_20).trans (uk_o c_29)).symm)   _ _ hP hD hS ls (lv_sub hl [0, 1, 2, 3, 4] rfl)
        · replace c_29 := b1_z c_29
          refine lv_bipush (v := (-2)) hx hb dX5_fromWhere_32 (by decide) ?_
          refine lv_istore (lv' := [(4, .int (-2)), (0, .ref (r 0)), (1, .int a), (2, .int v), (3, .int q)]) hx hb dX5_fromWhere_34 hl (by decide) rfl (fun ls hl => ?_)
          exact jn_36  (-2)  (by first | exact (f2_a c_20).symm | exact c_20.trans ((f2_b c_20).trans (uk_i c_29)).symm | exact ((f2_b c_20).trans (uk_o c_29)).symm)   _ _ hP hD hS ls (lv_sub hl [0, 1, 2, 3, 4] rfl)
  refine lv_aload_n hx hb dX5_fromWhere_0 rfl (lv_at hl 0 rfl) ?_
  refine lv_iload_n hx hb dX5_fromWhere_1 rfl (lv_at hl 1 rfl) ?_
  refine kSiV hx hb hml hown hts hK hP gX5_fromWhere_X5_isShore okX5_isShore (qX5_isShore l D cI cB r B M a (by show sn_ B ≤ 7; omega)) [0, 1, 2, 3, 4, 5, 6, 7, 8, 9, 10, 11, 12, 13, 14, 15] rfl rfl rfl rfl (by decide) hl.1 rfl rfl (Nat.le_of_ble_eq_true rfl) dX5_fromWhere_2 (by decide) (fun r_9 hr_10 => ?_)
  replace hr_10 : r_9 = b1 (0 ≤ a ∧ a < nI (sn_ B)) := hr_10
  subst r_9
  refine lv_if_ne (tgt := 12) hx hb dX5_fromWhere_5 (by decide) (fun c_5 => ?_) (fun c_5 => ?_)
  · replace c_5 := b1_n c_5
    refine lv_iload_n hx hb dX5_fromWhere_12 rfl (lv_at hl 2 rfl) ?_
    refine kSiS hx hb hml hown hts hK hP gX5_fromWhere_X5_notHours okX5_notHours (qX5_notHours l D cI cB v ) [] rfl (by decide) hl.1 rfl rfl (Nat.le_of_ble_eq_true rfl) dX5_fromWhere_13 (by decide) (fun r_11 hr_12 => ?_)
    replace hr_12 : r_11 = ob_ v 0 99 := hr_12
    subst r_11
    refine lv_istore (lv' := [(4, .int (ob_ v 0 99)), (0, .ref (r 0)), (1, .int a), (2, .int v), (3, .int q)]) hx hb dX5_fromWhere_16 hl (by decide) rfl (fun ls hl => ?_)
    exact jn_18  (ob_ v 0 99)  (by first | exact (f2_b (nb_i c_5)).symm | exact ((f2_a (by rw [nb_o c_5]; decide)).trans (nb_o c_5)).symm)   _ _ hP hD hS ls (lv_sub hl [0, 1, 2, 3, 4] rfl)
  · replace c_5 := b1_z c_5
    refine lv_iconst (v := (-1)) hx hb dX5_fromWhere_8 (by decide) ?_
    refine lv_goto (tgt := 16) hx hb dX5_fromWhere_9 (by decide) ?_
    refine lv_istore (lv' := [(4, .int (-1)), (0, .ref (r 0)), (1, .int a), (2, .int v), (3, .int q)]) hx hb dX5_fromWhere_16 hl (by decide) rfl (fun ls hl => ?_)
    exact jn_18  (-1)  (by first | exact (f2_b (nb_i c_5)).symm | exact ((f2_a (by rw [nb_o c_5]; decide)).trans (nb_o c_5)).symm)   _ _ hP hD hS ls (lv_sub hl [0, 1, 2, 3, 4] rfl)

theorem okX5_powderWanted : jok yX5_powderWanted wsX5_powderWanted cX5_powderWanted 10 (some .int) 3 := ⟨⟨_, rfl⟩, by decide +kernel, by decide +kernel⟩
set_option maxHeartbeats 2000000 in
set_option maxRecDepth 100000 in
theorem qX5_powderWanted (l : Launch) (D : va_G) (cI cB : ClassId) (r : Nat → Nat) (B : BayT) (M : MT) (a : Int32) (v : Int32) (q : Int32) (hI : bI_ B) : jMi D cI cB l yX5_powderWanted wsX5_powderWanted 8 [.ref (r 0), .int a, .int v, .int q] (mW cI r B M) (S := MT) (fun r u => r = (if wSNW_ (sn_ B) a v q = 0 then (if q = 0 then bpX_ B (tn_ a) (tn_ v) else tc_ (uw_ B (tn_ a) (bpX_ B (tn_ a) (tn_ v))) (tn_ a) (tn_ v)) else wSNW_ (sn_ B) a v q) ∧ oQ_ M u (wSNW_ (sn_ B) a v q)) (fun u => mW cI r B u) := by
  refine jMi.of (cc := cX5_powderWanted) (maxL := 10) (ret := (some .int)) okX5_powderWanted (Nat.le_of_ble_eq_true rfl) ?_
  intro p e s m below meth c ls A hx hb hr hts hown hlk hml hP hK hD hA hS hl
  replace hown : s.vm.findClass RX5 = some m.cls := hown
  replace hl : lv_has ls 10 [(0, .ref (r 0)), (1, .int a), (2, .int v), (3, .int q)] := hl
  have hn7 := hI.1
  have hinX5 : ∀ w ∈ wsX50, w ∈ wsX5_powderWanted := by decide +kernel
  have jn_18 : ∀  (x4_18 : Int32) , (x4_18 = wSN_ (sn_ B) a v) → ∀ (H : Heap) (locs : List Loc), va_P D vwCl (mW cI r B M) H → va_D A (mW cI r B M) → va_S A s.heap H locs → ∀ ls : Array Slot, lv_has ls 10 [(4, .int x4_18), (0, .ref (r 0)), (1, .int a), (2, .int v), (3, .int q)] → W p l e (jR 8) s m ([.ref (r 0), .int a, .int v, .int q] : List Value).toArray below meth c H locs 0 0 (MQ below (va_Qi (S := MT) (fun r u => r = (if wSNW_ (sn_ B) a v q = 0 then (if q = 0 then bpX_ B (tn_ a) (tn_ v) else tc_ (uw_ B (tn_ a) (bpX_ B (tn_ a) (tn_ v))) (tn_ a) (tn_ v)) else wSNW_ (sn_ B) a v q) ∧ oQ_ M u (wSNW_ (sn_ B) a v q)) (fun u t => va_P D vwCl ((fun u => mW cI r B u) u) t.heap) A) ([.ref (r 0), .int a, .int v, .int q] : List Value).toArray s 0 0 A) (F0 m 18 ls []) := by
      intro x4_18 hx4_18 H locs hP hD hS ls hl
      subst x4_18
      replace hl : lv_has ls 10 [(4, .int (wSN_ (sn_ B) a v)), (0, .ref (r 0)), (1, .int a), (2, .int v), (3, .int q)] := hl
      replace hP : va_P D vwCl (mW cI r B M) H := hP
      replace hD : va_D A (mW cI r B M) := hD
      have jn_36 : ∀  (x4_36 : Int32) , (x4_36 = wSNW_ (sn_ B) a v q) → ∀ (H : Heap) (locs : List Loc), va_P D vwCl (mW cI r B M) H → va_D A (mW cI r B M) → va_S A s.heap H locs → ∀ ls : Array Slot, lv_has ls 10 [(4, .int x4_36), (0, .ref (r 0)), (1, .int a), (2, .int v), (3, .int q)] → W p l e (jR 8) s m ([.ref (r 0), .int a, .int v, .int q] : List Value).toArray below meth c H locs 0 0 (MQ below (va_Qi (S := MT) (fun r u => r = (if wSNW_ (sn_ B) a v q = 0 then (if q = 0 then bpX_ B (tn_ a) (tn_ v) else tc_ (uw_ B (tn_ a) (bpX_ B (tn_ a) (tn_ v))) (tn_ a) (tn_ v)) else wSNW_ (sn_ B) a v q) ∧ oQ_ M u (wSNW_ (sn_ B) a v q)) (fun u t => va_P D vwCl ((fun u => mW cI r B u) u) t.heap) A) ([.ref (r 0), .int a, .int v, .int q] : List Value).toArray s 0 0 A) (F0 m 36 ls []) := by
          intro x4_36 hx4_36 H locs hP hD hS ls hl
          subst x4_36
          replace hl : lv_has ls 10 [(4, .int (wSNW_ (sn_ B) a v q)), (0, .ref (r 0)), (1, .int a), (2, .int v), (3, .int q)] := hl
          replace hP : va_P D vwCl (mW cI r B M) H := hP
          replace hD : va_D A (mW cI r B M) := hD
          refine lv_iload hx hb dX5_powderWanted_36 (lv_at hl 0 rfl) ?_
          refine lv_if_eq (tgt := 48) hx hb dX5_powderWanted_38 (by decide) (fun c_38 => ?_) (fun c_38 => ?_)
          · skip
            have w0 := c_38
            simp only [wS_, wSN_, wSNW_, wNW_, wTh_, wTr_, f2_0, nb_0, ob_0, uk_0, lo_0, hi_0] at w0
            obtain ⟨a_, ha_, rfl⟩ := pl_lt (n := sn_ B) (by omega) w0.1.1
            obtain ⟨v_, hv_, rfl⟩ := pl_le (n := 99) (by decide) w0.1.2
            replace hl : lv_has ls 10 [(4, .int (wSNW_ (sn_ B) (nI a_) (nI v_) q)), (0, .ref (r 0)), (1, .int (nI a_)), (2, .int (nI v_)), (3, .int q)] := hl
            refine lv_aload_n hx hb dX5_powderWanted_48 rfl (lv_at hl 1 rfl) ?_
            refine va_get (ci := 5) (C := RX5) (T := TX5) (N := 33) hx hb hts hinX5 hown hK.1 hP 0 rfl rfl 4 (by decide) (hts _ (List.mem_of_getElem? (i := 1) rfl)) (fun _ h9 => h9) rfl dX5_powderWanted_49 ?_
            refine lv_iload_n hx hb dX5_powderWanted_52 rfl (lv_at hl 2 rfl) ?_
            refine jald hx hb hK.1 hP 5 0 a_ rfl rfl rfl (by omega) (Nat.le_of_ble_eq_true rfl) dX5_powderWanted_53 ?_
            refine lv_istore (lv' := [(5, .int ((pw_ B) a_)), (4, .int (wSNW_ (sn_ B) (nI a_) (nI v_) q)), (0, .ref (r 0)), (1, .int (nI a_)), (2, .int (nI v_)), (3, .int q)]) hx hb dX5_powderWanted_54 hl (by decide) rfl (fun ls hl => ?_)
            refine lv_iconst (v := 0) hx hb dX5_powderWanted_56 (by decide) ?_
            refine lv_istore (lv' := [(6, .int 0), (5, .int ((pw_ B) a_)), (4, .int (wSNW_ (sn_ B) (nI a_) (nI v_) q)), (0, .ref (r 0)), (1, .int (nI a_)), (2, .int (nI v_)), (3, .int q)]) hx hb dX5_powderWanted_57 hl (by decide) rfl (fun ls hl => ?_)
            refine lv_bipush (v := (-9)) hx hb dX5_powderWanted_59 (by decide) ?_
            refine lv_istore (lv' := [(7, .int (-9)), (6, .int 0), (5, .int ((pw_ B) a_)), (4, .int (wSNW_ (sn_ B) (nI a_) (nI v_) q)), (0, .ref (r 0)), (1, .int (nI a_)), (2, .int (nI v_)), (3, .int q)]) hx hb dX5_powderWanted_61 hl (by decide) rfl (fun ls hl => ?_)
            refine lv_iconst (v := 0) hx hb dX5_powderWanted_63 (by decide) ?_
            refine lv_istore (lv' := [(8, .int 0), (7, .int (-9)), (6, .int 0), (5, .int ((pw_ B) a_)), (4, .int (wSNW_ (sn_ B) (nI a_) (nI v_) q)), (0, .ref (r 0)), (1, .int (nI a_)), (2, .int (nI v_)), (3, .int q)]) hx hb dX5_powderWanted_64 hl (by decide) rfl (fun ls hl => ?_)
            have lp_66 : ∀ (fu_66 : Nat) (i : Nat) (x6_66 : Int32) (x7_66 : Int32) (x8_66 : Int32) (P9 : Nat → Int32) (M2 : MT), (x6_66 = bz_ (bs_ (fun j => tc_ (uw_ B a_ (nI j)) a_ v_) (-9) i).1) → (x7_66 = (bs_ (fun j => tc_ (uw_ B a_ (nI j)) a_ v_) (-9) i).2) → (x8_66 = nI i) → (i ≤ 100) → (oN_ M M2) → (∀ j, ¬ j = a_ → P9 j = pw_ B j) → 100 - i < fu_66 → ∀ (H : Heap) (locs : List Loc), va_P D vwCl ([(r 0, .inr (5, [.ref (r 1), .ref (r 2), .ref (r 3), .ref (r 4), .ref (r 5), .ref (r 6), .int (nI (sn_ B)), .int (qt_ B), .int (il_ B), .int (pa_ B), .int (ho_ B), .int (dy_ B), .ref (r 13), .ref (r 14), .ref (r 15), .ref (r 16), .int (nI (mtn_ M2)), .int (nI (mrd_ M2)), .int (nI (msm_ M2)), .ref (r 20), .int (mhi_ M2), .int (mik_ M2), .int (nI (mcu_ M2)), .int (nI (mbk_ M2)), .ref (r 25), .ref (r 26), .int (mlw_ M2), .int (mhg_ M2), .int (msl_ M2), .ref (r 30), .int (nI (mrm_ M2)), .ref (r 32), .int (mlo_ M2)])), (r 1, .inl (cI, 7, .inl (mrf_ M2))), (r 2, .inl (cI, 7, .inl (kd_ B))), (r 3, .inl (cI, 7, .inl (fg_ B))), (r 4, .inl (cI, 7, .inl (pl_ B))), (r 5, .inl (cI, 7, .inl P9)), (r 6, .inl (cI, 7, .inl (jy_ B))), (r 13, .inl (cI, 96, .inl (mtp_ M2))), (r 14, .inl (cI, 48, .inl (mlt_ M2))), (r 15, .inl (cI, 48, .inl (mla_ M2))), (r 16, .inl (cI, 144, .inl (mtd_ M2))), (r 20, .inl (cI, 451, .inl (flatK (mkp_ M2)))), (r 25, .inl (cI, 7, .inl (mof_ M2))), (r 26, .inl (cI, 7, .inl (mfa_ M2))), (r 30, .inl (cI, 12, .inl (mrw_ M2))), (r 32, .inl (cI, 8, .inl (mhb_ M2)))]) H → va_D A ([(r 0, .inr (5, [.ref (r 1), .ref (r 2), .ref (r 3), .ref (r 4), .ref (r 5), .ref (r 6), .int (nI (sn_ B)), .int (qt_ B), .int (il_ B), .int (pa_ B), .int (ho_ B), .int (dy_ B), .ref (r 13), .ref (r 14), .ref (r 15), .ref (r 16), .int (nI (mtn_ M2)), .int (nI (mrd_ M2)), .int (nI (msm_ M2)), .ref (r 20), .int (mhi_ M2), .int (mik_ M2), .int (nI (mcu_ M2)), .int (nI (mbk_ M2)), .ref (r 25), .ref (r 26), .int (mlw_ M2), .int (mhg_ M2), .int (msl_ M2), .ref (r 30), .int (nI (mrm_ M2)), .ref (r 32), .int (mlo_ M2)])), (r 1, .inl (cI, 7, .inl (mrf_ M2))), (r 2, .inl (cI, 7, .inl (kd_ B))), (r 3, .inl (cI, 7, .inl (fg_ B))), (r 4, .inl (cI, 7, .inl (pl_ B))), (r 5, .inl (cI, 7, .inl P9)), (r 6, .inl (cI, 7, .inl (jy_ B))), (r 13, .inl (cI, 96, .inl (mtp_ M2))), (r 14, .inl (cI, 48, .inl (mlt_ M2))), (r 15, .inl (cI, 48, .inl (mla_ M2))), (r 16, .inl (cI, 144, .inl (mtd_ M2))), (r 20, .inl (cI, 451, .inl (flatK (mkp_ M2)))), (r 25, .inl (cI, 7, .inl (mof_ M2))), (r 26, .inl (cI, 7, .inl (mfa_ M2))), (r 30, .inl (cI, 12, .inl (mrw_ M2))), (r 32, .inl (cI, 8, .inl (mhb_ M2)))]) → va_S A s.heap H locs → ∀ ls : Array Slot, lv_has ls 10 [(8, .int x8_66), (7, .int x7_66), (6, .int x6_66), (5, .int ((pw_ B) a_)), (4, .int (wSNW_ (sn_ B) (nI a_) (nI v_) q)), (0, .ref (r 0)), (1, .int (nI a_)), (2, .int (nI v_)), (3, .int q)] → W p l e (jR 8) s m ([.ref (r 0), .int (nI a_), .int (nI v_), .int q] : List Value).toArray below meth c H locs 0 0 (MQ below (va_Qi (S := MT) (fun r u => r = (if wSNW_ (sn_ B) (nI a_) (nI v_) q = 0 then (if q = 0 then bpX_ B (tn_ (nI a_)) (tn_ (nI v_)) else tc_ (uw_ B (tn_ (nI a_)) (bpX_ B (tn_ (nI a_)) (tn_ (nI v_)))) (tn_ (nI a_)) (tn_ (nI v_))) else wSNW_ (sn_ B) (nI a_) (nI v_) q) ∧ oQ_ M u (wSNW_ (sn_ B) (nI a_) (nI v_) q)) (fun u t => va_P D vwCl ((fun u => mW cI r B u) u) t.heap) A) ([.ref (r 0), .int (nI a_), .int (nI v_), .int q] : List Value).toArray s 0 0 A) (F0 m 66 ls []) := by
              intro fu_66
              induction fu_66 with
              | zero => intro i x6_66 x7_66 x8_66 P9 M2 hx6_66 hx7_66 hx8_66 hi hM hPw hfu; exact absurd hfu (Nat.not_lt_zero _)
              | succ fu_66 ih_66 =>
                intro i x6_66 x7_66 x8_66 P9 M2 hx6_66 hx7_66 hx8_66 hi hM hPw hfu_66 H locs hP hD hS ls hl
                subst x6_66
                subst x7_66
                subst x8_66
                replace hl : lv_has ls 10 [(8, .int (nI i)), (7, .int ((bs_ (fun j => tc_ (uw_ B a_ (nI j)) a_ v_) (-9) i).2)), (6, .int (bz_ (bs_ (fun j => tc_ (uw_ B a_ (nI j)) a_ v_) (-9) i).1)), (5, .int ((pw_ B) a_)), (4, .int (wSNW_ (sn_ B) (nI a_) (nI v_) q)), (0, .ref (r 0)), (1, .int (nI a_)), (2, .int (nI v_)), (3, .int q)] := hl
                replace hP : va_P D vwCl ([(r 0, .inr (5, [.ref (r 1), .ref (r 2), .ref (r 3), .ref (r 4), .ref (r 5), .ref (r 6), .int (nI (sn_ B)), .int (qt_ B), .int (il_ B), .int (pa_ B), .int (ho_ B), .int (dy_ B), .ref (r 13), .ref (r 14), .ref (r 15), .ref (r 16), .int (nI (mtn_ M2)), .int (nI (mrd_ M2)), .int (nI (msm_ M2)), .ref (r 20), .int (mhi_ M2), .int (mik_ M2), .int (nI (mcu_ M2)), .int (nI (mbk_ M2)), .ref (r 25), .ref (r 26), .int (mlw_ M2), .int (mhg_ M2), .int (msl_ M2), .ref (r 30), .int (nI (mrm_ M2)), .ref (r 32), .int (mlo_ M2)])), (r 1, .inl (cI, 7, .inl (mrf_ M2))), (r 2, .inl (cI, 7, .inl (kd_ B))), (r 3, .inl (cI, 7, .inl (fg_ B))), (r 4, .inl (cI, 7, .inl (pl_ B))), (r 5, .inl (cI, 7, .inl P9)), (r 6, .inl (cI, 7, .inl (jy_ B))), (r 13, .inl (cI, 96, .inl (mtp_ M2))), (r 14, .inl (cI, 48, .inl (mlt_ M2))), (r 15, .inl (cI, 48, .inl (mla_ M2))), (r 16, .inl (cI, 144, .inl (mtd_ M2))), (r 20, .inl (cI, 451, .inl (flatK (mkp_ M2)))), (r 25, .inl (cI, 7, .inl (mof_ M2))), (r 26, .inl (cI, 7, .inl (mfa_ M2))), (r 30, .inl (cI, 12, .inl (mrw_ M2))), (r 32, .inl (cI, 8, .inl (mhb_ M2)))]) H := hP
                replace hD : va_D A ([(r 0, .inr (5, [.ref (r 1), .ref (r 2), .ref (r 3), .ref (r 4), .ref (r 5), .ref (r 6), .int (nI (sn_ B)), .int (qt_ B), .int (il_ B), .int (pa_ B), .int (ho_ B), .int (dy_ B), .ref (r 13), .ref (r 14), .ref (r 15), .ref (r 16), .int (nI (mtn_ M2)), .int (nI (mrd_ M2)), .int (nI (msm_ M2)), .ref (r 20), .int (mhi_ M2), .int (mik_ M2), .int (nI (mcu_ M2)), .int (nI (mbk_ M2)), .ref (r 25), .ref (r 26), .int (mlw_ M2), .int (mhg_ M2), .int (msl_ M2), .ref (r 30), .int (nI (mrm_ M2)), .ref (r 32), .int (mlo_ M2)])), (r 1, .inl (cI, 7, .inl (mrf_ M2))), (r 2, .inl (cI, 7, .inl (kd_ B))), (r 3, .inl (cI, 7, .inl (fg_ B))), (r 4, .inl (cI, 7, .inl (pl_ B))), (r 5, .inl (cI, 7, .inl P9)), (r 6, .inl (cI, 7, .inl (jy_ B))), (r 13, .inl (cI, 96, .inl (mtp_ M2))), (r 14, .inl (cI, 48, .inl (mlt_ M2))), (r 15, .inl (cI, 48, .inl (mla_ M2))), (r 16, .inl (cI, 144, .inl (mtd_ M2))), (r 20, .inl (cI, 451, .inl (flatK (mkp_ M2)))), (r 25, .inl (cI, 7, .inl (mof_ M2))), (r 26, .inl (cI, 7, .inl (mfa_ M2))), (r 30, .inl (cI, 12, .inl (mrw_ M2))), (r 32, .inl (cI, 8, .inl (mhb_ M2)))]) := hD
                refine lv_iload hx hb dX5_powderWanted_66 (lv_at hl 0 rfl) ?_
                refine lv_bipush (v := 99) hx hb dX5_powderWanted_68 (by decide) ?_
                refine lv_icmp_gt (tgt := 113) hx hb dX5_powderWanted_70 (by decide) (fun c_70 => ?_) (fun c_70 => ?_)
                · replace c_70 : nI 99 < nI i := c_70
                  rw [jlt (by omega) (by omega)] at c_70
                  refine lv_aload_n hx hb dX5_powderWanted_113 rfl (lv_at hl 5 rfl) ?_
                  refine va_get (ci := 5) (C := RX5) (T := TX5) (N := 33) hx hb hts hinX5 hown hK.1 hP 0 rfl rfl 4 (by decide) (hts _ (List.mem_of_getElem? (i := 1) rfl)) (fun _ h9 => h9) rfl dX5_powderWanted_114 ?_
                  refine lv_iload_n hx hb dX5_powderWanted_117 rfl (lv_at hl 6 rfl) ?_
                  refine lv_iload hx hb dX5_powderWanted_118 (lv_at hl 3 rfl) ?_
                  refine jast hx hb hK.1 hP hD hS 5 0 a_ rfl rfl rfl (by omega) (Nat.le_of_ble_eq_true rfl) dX5_powderWanted_120 (fun f_1 ef_1 H locs hP hD hS => ?_)
                  replace ef_1 : f_1 = upd P9 a_ ((pw_ B) a_) := ef_1
                  replace hP : va_P D vwCl ([(r 0, .inr (5, [.ref (r 1), .ref (r 2), .ref (r 3), .ref (r 4), .ref (r 5), .ref (r 6), .int (nI (sn_ B)), .int (qt_ B), .int (il_ B), .int (pa_ B), .int (ho_ B), .int (dy_ B), .ref (r 13), .ref (r 14), .ref (r 15), .ref (r 16), .int (nI (mtn_ M2)), .int (nI (mrd_ M2)), .int (nI (msm_ M2)), .ref (r 20), .int (mhi_ M2), .int (mik_ M2), .int (nI (mcu_ M2)), .int (nI (mbk_ M2)), .ref (r 25), .ref (r 26), .int (mlw_ M2), .int (mhg_ M2), .int (msl_ M2), .ref (r 30), .int (nI (mrm_ M2)), .ref (r 32), .int (mlo_ M2)])), (r 1, .inl (cI, 7, .inl (mrf_ M2))), (r 2, .inl (cI, 7, .inl (kd_ B))), (r 3, .inl (cI, 7, .inl (fg_ B))), (r 4, .inl (cI, 7, .inl (pl_ B))), (r 5, .inl (cI, 7, .inl f_1)), (r 6, .inl (cI, 7, .inl (jy_ B))), (r 13, .inl (cI, 96, .inl (mtp_ M2))), (r 14, .inl (cI, 48, .inl (mlt_ M2))), (r 15, .inl (cI, 48, .inl (mla_ M2))), (r 16, .inl (cI, 144, .inl (mtd_ M2))), (r 20, .inl (cI, 451, .inl (flatK (mkp_ M2)))), (r 25, .inl (cI, 7, .inl (mof_ M2))), (r 26, .inl (cI, 7, .inl (mfa_ M2))), (r 30, .inl (cI, 12, .inl (mrw_ M2))), (r 32, .inl (cI, 8, .inl (mhb_ M2)))]) H := hP
                  replace hD : va_D A ([(r 0, .inr (5, [.ref (r 1), .ref (r 2), .ref (r 3), .ref (r 4), .ref (r 5), .ref (r 6), .int (nI (sn_ B)), .int (qt_ B), .int (il_ B), .int (pa_ B), .int (ho_ B), .int (dy_ B), .ref (r 13), .ref (r 14), .ref (r 15), .ref (r 16), .int (nI (mtn_ M2)), .int (nI (mrd_ M2)), .int (nI (msm_ M2)), .ref (r 20), .int (mhi_ M2), .int (mik_ M2), .int (nI (mcu_ M2)), .int (nI (mbk_ M2)), .ref (r 25), .ref (r 26), .int (mlw_ M2), .int (mhg_ M2), .int (msl_ M2), .ref (r 30), .int (nI (mrm_ M2)), .ref (r 32), .int (mlo_ M2)])), (r 1, .inl (cI, 7, .inl (mrf_ M2))), (r 2, .inl (cI, 7, .inl (kd_ B))), (r 3, .inl (cI, 7, .inl (fg_ B))), (r 4, .inl (cI, 7, .inl (pl_ B))), (r 5, .inl (cI, 7, .inl f_1)), (r 6, .inl (cI, 7, .inl (jy_ B))), (r 13, .inl (cI, 96, .inl (mtp_ M2))), (r 14, .inl (cI, 48, .inl (mlt_ M2))), (r 15, .inl (cI, 48, .inl (mla_ M2))), (r 16, .inl (cI, 144, .inl (mtd_ M2))), (r 20, .inl (cI, 451, .inl (flatK (mkp_ M2)))), (r 25, .inl (cI, 7, .inl (mof_ M2))), (r 26, .inl (cI, 7, .inl (mfa_ M2))), (r 30, .inl (cI, 12, .inl (mrw_ M2))), (r 32, .inl (cI, 8, .inl (mhb_ M2)))]) := hD
                  (try rw [ef_1] at hP); (try rw [ef_1] at hD); (try rw [ef_1] at hl); (try rw [ef_1] at c_70); (try rw [ef_1])
                  replace hP := va_P.cong (g := pw_ B) hP 5 rfl (fun j _ => congrFun (upd_b hPw) j)
                  replace hP : va_P D vwCl ([(r 0, .inr (5, [.ref (r 1), .ref (r 2), .ref (r 3), .ref (r 4), .ref (r 5), .ref (r 6), .int (nI (sn_ B)), .int (qt_ B), .int (il_ B), .int (pa_ B), .int (ho_ B), .int (dy_ B), .ref (r 13), .ref (r 14), .ref (r 15), .ref (r 16), .int (nI (mtn_ M2)), .int (nI (mrd_ M2)), .int (nI (msm_ M2)), .ref (r 20), .int (mhi_ M2), .int (mik_ M2), .int (nI (mcu_ M2)), .int (nI (mbk_ M2)), .ref (r 25), .ref (r 26), .int (mlw_ M2), .int (mhg_ M2), .int (msl_ M2), .ref (r 30), .int (nI (mrm_ M2)), .ref (r 32), .int (mlo_ M2)])), (r 1, .inl (cI, 7, .inl (mrf_ M2))), (r 2, .inl (cI, 7, .inl (kd_ B))), (r 3, .inl (cI, 7, .inl (fg_ B))), (r 4, .inl (cI, 7, .inl (pl_ B))), (r 5, .inl (cI, 7, .inl (pw_ B))), (r 6, .inl (cI, 7, .inl (jy_ B))), (r 13, .inl (cI, 96, .inl (mtp_ M2))), (r 14, .inl (cI, 48, .inl (mlt_ M2))), (r 15, .inl (cI, 48, .inl (mla_ M2))), (r 16, .inl (cI, 144, .inl (mtd_ M2))), (r 20, .inl (cI, 451, .inl (flatK (mkp_ M2)))), (r 25, .inl (cI, 7, .inl (mof_ M2))), (r 26, .inl (cI, 7, .inl (mfa_ M2))), (r 30, .inl (cI, 12, .inl (mrw_ M2))), (r 32, .inl (cI, 8, .inl (mhb_ M2)))]) H := hP
                  replace hD : va_D A ([(r 0, .inr (5, [.ref (r 1), .ref (r 2), .ref (r 3), .ref (r 4), .ref (r 5), .ref (r 6), .int (nI (sn_ B)), .int (qt_ B), .int (il_ B), .int (pa_ B), .int (ho_ B), .int (dy_ B), .ref (r 13), .ref (r 14), .ref (r 15), .ref (r 16), .int (nI (mtn_ M2)), .int (nI (mrd_ M2)), .int (nI (msm_ M2)), .ref (r 20), .int (mhi_ M2), .int (mik_ M2), .int (nI (mcu_ M2)), .int (nI (mbk_ M2)), .ref (r 25), .ref (r 26), .int (mlw_ M2), .int (mhg_ M2), .int (msl_ M2), .ref (r 30), .int (nI (mrm_ M2)), .ref (r 32), .int (mlo_ M2)])), (r 1, .inl (cI, 7, .inl (mrf_ M2))), (r 2, .inl (cI, 7, .inl (kd_ B))), (r 3, .inl (cI, 7, .inl (fg_ B))), (r 4, .inl (cI, 7, .inl (pl_ B))), (r 5, .inl (cI, 7, .inl (pw_ B))), (r 6, .inl (cI, 7, .inl (jy_ B))), (r 13, .inl (cI, 96, .inl (mtp_ M2))), (r 14, .inl (cI, 48, .inl (mlt_ M2))), (r 15, .inl (cI, 48, .inl (mla_ M2))), (r 16, .inl (cI, 144, .inl (mtd_ M2))), (r 20, .inl (cI, 451, .inl (flatK (mkp_ M2)))), (r 25, .inl (cI, 7, .inl (mof_ M2))), (r 26, .inl (cI, 7, .inl (mfa_ M2))), (r 30, .inl (cI, 12, .inl (mrw_ M2))), (r 32, .inl (cI, 8, .inl (mhb_ M2)))]) := va_D.adr hD rfl
                  replace hP : va_P D vwCl (mW cI r B M2) H := hP
                  replace hD : va_D A (mW cI r B M2) := hD
                  refine lv_iload_n hx hb dX5_powderWanted_121 rfl (lv_at hl 8 rfl) ?_
                  refine lv_if_ne (tgt := 130) hx hb dX5_powderWanted_122 (by decide) (fun c_122 => ?_) (fun c_122 => ?_)
                  · skip
                    refine lv_iload hx hb dX5_powderWanted_130 (lv_at hl 1 rfl) ?_
                    refine rMi hx hb hr hlk hS M2 hP ?_ dX5_powderWanted_132
                    first | exact ⟨(if_neg c_38).symm, oQ_n _ _⟩ | (refine ⟨?_, oQ_0 c_38 ?_⟩; · (rw [if_pos c_38]; simp only [tn_n (show a_ < 2147483648 by omega), tn_n (show v_ < 2147483648 by omega)]; have e9 : i = 100 := by omega; subst e9; obtain ⟨t, e1, e2, e3⟩ := bpX_eq (B := B) (k := a_) (n := v_) (by omega); first | (rw [if_pos c_122, e1, e2]; rfl) | (rw [if_neg c_122, e1, e2])); · (first | exact (oN_mk (by assumption)).m | exact oM_.rf _ | exact (oN_pp _ _).m | exact (oN_fo _ _ _ _).m | assumption | (apply oN_.m; assumption) | exact oM_.tr (by assumption) (by assumption)))
                  · skip
                    refine lv_iload hx hb dX5_powderWanted_125 (lv_at hl 2 rfl) ?_
                    refine lv_goto (tgt := 132) hx hb dX5_powderWanted_127 (by decide) ?_
                    refine rMi hx hb hr hlk hS M2 hP ?_ dX5_powderWanted_132
                    first | exact ⟨(if_neg c_38).symm, oQ_n _ _⟩ | (refine ⟨?_, oQ_0 c_38 ?_⟩; · (rw [if_pos c_38]; simp only [tn_n (show a_ < 2147483648 by omega), tn_n (show v_ < 2147483648 by omega)]; have e9 : i = 100 := by omega; subst e9; obtain ⟨t, e1, e2, e3⟩ := bpX_eq (B := B) (k := a_) (n := v_) (by omega); first | (rw [if_pos c_122, e1, e2]; rfl) | (rw [if_neg c_122, e1, e2])); · (first | exact (oN_mk (by assumption)).m | exact oM_.rf _ | exact (oN_pp _ _).m | exact (oN_fo _ _ _ _).m | assumption | (apply oN_.m; assumption) | exact oM_.tr (by assumption) (by assumption)))
                · replace c_70 : ¬ nI 99 < nI i := c_70
                  rw [jlt (by omega) (by omega)] at c_70
                  refine lv_aload_n hx hb dX5_powderWanted_73 rfl (lv_at hl 5 rfl) ?_
                  refine va_get (ci := 5) (C := RX5) (T := TX5) (N := 33) hx hb hts hinX5 hown hK.1 hP 0 rfl rfl 4 (by decide) (hts _ (List.mem_of_getElem? (i := 1) rfl)) (fun _ h9 => h9) rfl dX5_powderWanted_74 ?_
                  refine lv_iload_n hx hb dX5_powderWanted_77 rfl (lv_at hl 6 rfl) ?_
                  refine lv_iload hx hb dX5_powderWanted_78 (lv_at hl 0 rfl) ?_
                  refine jast hx hb hK.1 hP hD hS 5 0 a_ rfl rfl rfl (by omega) (Nat.le_of_ble_eq_true rfl) dX5_powderWanted_80 (fun f_2 ef_2 H locs hP hD hS => ?_)
                  replace ef_2 : f_2 = upd P9 a_ (nI i) := ef_2
                  replace hP : va_P D vwCl ([(r 0, .inr (5, [.ref (r 1), .ref (r 2), .ref (r 3), .ref (r 4), .ref (r 5), .ref (r 6), .int (nI (sn_ B)), .int (qt_ B), .int (il_ B), .int (pa_ B), .int (ho_ B), .int (dy_ B), .ref (r 13), .ref (r 14), .ref (r 15), .ref (r 16), .int (nI (mtn_ M2)), .int (nI (mrd_ M2)), .int (nI (msm_ M2)), .ref (r 20), .int (mhi_ M2), .int (mik_ M2), .int (nI (mcu_ M2)), .int (nI (mbk_ M2)), .ref (r 25), .ref (r 26), .int (mlw_ M2), .int (mhg_ M2), .int (msl_ M2), .ref (r 30), .int (nI (mrm_ M2)), .ref (r 32), .int (mlo_ M2)])), (r 1, .inl (cI, 7, .inl (mrf_ M2))), (r 2, .inl (cI, 7, .inl (kd_ B))), (r 3, .inl (cI, 7, .inl (fg_ B))), (r 4, .inl (cI, 7, .inl (pl_ B))), (r 5, .inl (cI, 7, .inl f_2)), (r 6, .inl (cI, 7, .inl (jy_ B))), (r 13, .inl (cI, 96, .inl (mtp_ M2))), (r 14, .inl (cI, 48, .inl (mlt_ M2))), (r 15, .inl (cI, 48, .inl (mla_ M2))), (r 16, .inl (cI, 144, .inl (mtd_ M2))), (r 20, .inl (cI, 451, .inl (flatK (mkp_ M2)))), (r 25, .inl (cI, 7, .inl (mof_ M2))), (r 26, .inl (cI, 7, .inl (mfa_ M2))), (r 30, .inl (cI, 12, .inl (mrw_ M2))), (r 32, .inl (cI, 8, .inl (mhb_ M2)))]) H := hP
                  replace hD : va_D A ([(r 0, .inr (5, [.ref (r 1), .ref (r 2), .ref (r 3), .ref (r 4), .ref (r 5), .ref (r 6), .int (nI (sn_ B)), .int (qt_ B), .int (il_ B), .int (pa_ B), .int (ho_ B), .int (dy_ B), .ref (r 13), .ref (r 14), .ref (r 15), .ref (r 16), .int (nI (mtn_ M2)), .int (nI (mrd_ M2)), .int (nI (msm_ M2)), .ref (r 20), .int (mhi_ M2), .int (mik_ M2), .int (nI (mcu_ M2)), .int (nI (mbk_ M2)), .ref (r 25), .ref (r 26), .int (mlw_ M2), .int (mhg_ M2), .int (msl_ M2), .ref (r 30), .int (nI (mrm_ M2)), .ref (r 32), .int (mlo_ M2)])), (r 1, .inl (cI, 7, .inl (mrf_ M2))), (r 2, .inl (cI, 7, .inl (kd_ B))), (r 3, .inl (cI, 7, .inl (fg_ B))), (r 4, .inl (cI, 7, .inl (pl_ B))), (r 5, .inl (cI, 7, .inl f_2)), (r 6, .inl (cI, 7, .inl (jy_ B))), (r 13, .inl (cI, 96, .inl (mtp_ M2))), (r 14, .inl (cI, 48, .inl (mlt_ M2))), (r 15, .inl (cI, 48, .inl (mla_ M2))), (r 16, .inl (cI, 144, .inl (mtd_ M2))), (r 20, .inl (cI, 451, .inl (flatK (mkp_ M2)))), (r 25, .inl (cI, 7, .inl (mof_ M2))), (r 26, .inl (cI, 7, .inl (mfa_ M2))), (r 30, .inl (cI, 12, .inl (mrw_ M2))), (r 32, .inl (cI, 8, .inl (mhb_ M2)))]) := hD
                  (try rw [ef_2] at hP); (try rw [ef_2] at hD); (try rw [ef_2] at hl); (try rw [ef_2] at c_70); (try rw [ef_2])
                  replace hP := va_P.cong (g := upd (pw_ B) a_ (nI i)) hP 5 rfl (fun j _ => congrFun (upd_o hPw) j)
                  replace hP : va_P D vwCl ([(r 0, .inr (5, [.ref (r 1), .ref (r 2), .ref (r 3), .ref (r 4), .ref (r 5), .ref (r 6), .int (nI (sn_ B)), .int (qt_ B), .int (il_ B), .int (pa_ B), .int (ho_ B), .int (dy_ B), .ref (r 13), .ref (r 14), .ref (r 15), .ref (r 16), .int (nI (mtn_ M2)), .int (nI (mrd_ M2)), .int (nI (msm_ M2)), .ref (r 20), .int (mhi_ M2), .int (mik_ M2), .int (nI (mcu_ M2)), .int (nI (mbk_ M2)), .ref (r 25), .ref (r 26), .int (mlw_ M2), .int (mhg_ M2), .int (msl_ M2), .ref (r 30), .int (nI (mrm_ M2)), .ref (r 32), .int (mlo_ M2)])), (r 1, .inl (cI, 7, .inl (mrf_ M2))), (r 2, .inl (cI, 7, .inl (kd_ B))), (r 3, .inl (cI, 7, .inl (fg_ B))), (r 4, .inl (cI, 7, .inl (pl_ B))), (r 5, .inl (cI, 7, .inl (upd (pw_ B) a_ (nI i)))), (r 6, .inl (cI, 7, .inl (jy_ B))), (r 13, .inl (cI, 96, .inl (mtp_ M2))), (r 14, .inl (cI, 48, .inl (mlt_ M2))), (r 15, .inl (cI, 48, .inl (mla_ M2))), (r 16, .inl (cI, 144, .inl (mtd_ M2))), (r 20, .inl (cI, 451, .inl (flatK (mkp_ M2)))), (r 25, .inl (cI, 7, .inl (mof_ M2))), (r 26, .inl (cI, 7, .inl (mfa_ M2))), (r 30, .inl (cI, 12, .inl (mrw_ M2))), (r 32, .inl (cI, 8, .inl (mhb_ M2)))]) H := hP
                  replace hD : va_D A ([(r 0, .inr (5, [.ref (r 1), .ref (r 2), .ref (r 3), .ref (r 4), .ref (r 5), .ref (r 6), .int (nI (sn_ B)), .int (qt_ B), .int (il_ B), .int (pa_ B), .int (ho_ B), .int (dy_ B), .ref (r 13), .ref (r 14), .ref (r 15), .ref (r 16), .int (nI (mtn_ M2)), .int (nI (mrd_ M2)), .int (nI (msm_ M2)), .ref (r 20), .int (mhi_ M2), .int (mik_ M2), .int (nI (mcu_ M2)), .int (nI (mbk_ M2)), .ref (r 25), .ref (r 26), .int (mlw_ M2), .int (mhg_ M2), .int (msl_ M2), .ref (r 30), .int (nI (mrm_ M2)), .ref (r 32), .int (mlo_ M2)])), (r 1, .inl (cI, 7, .inl (mrf_ M2))), (r 2, .inl (cI, 7, .inl (kd_ B))), (r 3, .inl (cI, 7, .inl (fg_ B))), (r 4, .inl (cI, 7, .inl (pl_ B))), (r 5, .inl (cI, 7, .inl (upd (pw_ B) a_ (nI i)))), (r 6, .inl (cI, 7, .inl (jy_ B))), (r 13, .inl (cI, 96, .inl (mtp_ M2))), (r 14, .inl (cI, 48, .inl (mlt_ M2))), (r 15, .inl (cI, 48, .inl (mla_ M2))), (r 16, .inl (cI, 144, .inl (mtd_ M2))), (r 20, .inl (cI, 451, .inl (flatK (mkp_ M2)))), (r 25, .inl (cI, 7, .inl (mof_ M2))), (r 26, .inl (cI, 7, .inl (mfa_ M2))), (r 30, .inl (cI, 12, .inl (mrw_ M2))), (r 32, .inl (cI, 8, .inl (mhb_ M2)))]) := va_D.adr hD rfl
                  replace hP : va_P D vwCl ([(r 0, .inr (5, [.ref (r 1), .ref (r 2), .ref (r 3), .ref (r 4), .ref (r 5), .ref (r 6), .int (nI (sn_ B)), .int (qt_ B), .int (il_ B), .int (pa_ B), .int (ho_ B), .int (dy_ B), .ref (r 13), .ref (r 14), .ref (r 15), .ref (r 16), .int (nI (mtn_ M2)), .int (nI (mrd_ M2)), .int (nI (msm_ M2)), .ref (r 20), .int (mhi_ M2), .int (mik_ M2), .int (nI (mcu_ M2)), .int (nI (mbk_ M2)), .ref (r 25), .ref (r 26), .int (mlw_ M2), .int (mhg_ M2), .int (msl_ M2), .ref (r 30), .int (nI (mrm_ M2)), .ref (r 32), .int (mlo_ M2)])), (r 1, .inl (cI, 7, .inl (mrf_ M2))), (r 2, .inl (cI, 7, .inl (kd_ B))), (r 3, .inl (cI, 7, .inl (fg_ B))), (r 4, .inl (cI, 7, .inl (pl_ B))), (r 5, .inl (cI, 7, .inl (pw_ (uw_ B a_ (nI i))))), (r 6, .inl (cI, 7, .inl (jy_ B))), (r 13, .inl (cI, 96, .inl (mtp_ M2))), (r 14, .inl (cI, 48, .inl (mlt_ M2))), (r 15, .inl (cI, 48, .inl (mla_ M2))), (r 16, .inl (cI, 144, .inl (mtd_ M2))), (r 20, .inl (cI, 451, .inl (flatK (mkp_ M2)))), (r 25, .inl (cI, 7, .inl (mof_ M2))), (r 26, .inl (cI, 7, .inl (mfa_ M2))), (r 30, .inl (cI, 12, .inl (mrw_ M2))), (r 32, .inl (cI, 8, .inl (mhb_ M2)))]) H := hP
                  replace hD : va_D A ([(r 0, .inr (5, [.ref (r 1), .ref (r 2), .ref (r 3), .ref (r 4), .ref (r 5), .ref (r 6), .int (nI (sn_ B)), .int (qt_ B), .int (il_ B), .int (pa_ B), .int (ho_ B), .int (dy_ B), .ref (r 13), .ref (r 14), .ref (r 15), .ref (r 16), .int (nI (mtn_ M2)), .int (nI (mrd_ M2)), .int (nI (msm_ M2)), .ref (r 20), .int (mhi_ M2), .int (mik_ M2), .int (nI (mcu_ M2)), .int (nI (mbk_ M2)), .ref (r 25), .ref (r 26), .int (mlw_ M2), .int (mhg_ M2), .int (msl_ M2), .ref (r 30), .int (nI (mrm_ M2)), .ref (r 32), .int (mlo_ M2)])), (r 1, .inl (cI, 7, .inl (mrf_ M2))), (r 2, .inl (cI, 7, .inl (kd_ B))), (r 3, .inl (cI, 7, .inl (fg_ B))), (r 4, .inl (cI, 7, .inl (pl_ B))), (r 5, .inl (cI, 7, .inl (pw_ (uw_ B a_ (nI i))))), (r 6, .inl (cI, 7, .inl (jy_ B))), (r 13, .inl (cI, 96, .inl (mtp_ M2))), (r 14, .inl (cI, 48, .inl (mlt_ M2))), (r 15, .inl (cI, 48, .inl (mla_ M2))), (r 16, .inl (cI, 144, .inl (mtd_ M2))), (r 20, .inl (cI, 451, .inl (flatK (mkp_ M2)))), (r 25, .inl (cI, 7, .inl (mof_ M2))), (r 26, .inl (cI, 7, .inl (mfa_ M2))), (r 30, .inl (cI, 12, .inl (mrw_ M2))), (r 32, .inl (cI, 8, .inl (mhb_ M2)))]) := hD
                  refine lv_aload_n hx hb dX5_powderWanted_81 rfl (lv_at hl 5 rfl) ?_
                  refine lv_iload_n hx hb dX5_powderWanted_82 rfl (lv_at hl 6 rfl) ?_
                  refine lv_iload_n hx hb dX5_powderWanted_83 rfl (lv_at hl 7 rfl) ?_
                  refine kMiV hx hb hml hown hts hK hP hD hA hS gX5_powderWanted_X5_oftenOf okX5_oftenOf (qX5_oftenOf l D cI cB r (uw_ B a_ (nI i)) M2 a_ v_ (bI_uw hI ⟨Int32.not_lt.mp (nI_pos (by omega)), (jle (b := 99) (by omega) (by decide)).mpr (by omega)⟩) ha_ (by omega)) [0, 1, 2, 3, 4, 5, 6, 7, 8, 9, 10, 11, 12, 13, 14, 15] rfl (by decide) (fun _ => mW_adr _ _ _ _ _ _) rfl rfl rfl (by decide) hl.1 rfl rfl (Nat.le_of_ble_eq_true rfl) dX5_powderWanted_84 (by decide) (fun r_3 u_4 H locs hw_5 hP hD hS => ?_)
                  replace hw_5 : r_3 = tc_ (uw_ B a_ (nI i)) a_ v_ ∧ oN_ M2 u_4 := hw_5
                  obtain ⟨hw_5a, hw_5b⟩ := hw_5
                  subst r_3
                  replace hP : va_P D vwCl ([(r 0, .inr (5, [.ref (r 1), .ref (r 2), .ref (r 3), .ref (r 4), .ref (r 5), .ref (r 6), .int (nI (sn_ B)), .int (qt_ B), .int (il_ B), .int (pa_ B), .int (ho_ B), .int (dy_ B), .ref (r 13), .ref (r 14), .ref (r 15), .ref (r 16), .int (nI (mtn_ u_4)), .int (nI (mrd_ u_4)), .int (nI (msm_ u_4)), .ref (r 20), .int (mhi_ u_4), .int (mik_ u_4), .int (nI (mcu_ u_4)), .int (nI (mbk_ u_4)), .ref (r 25), .ref (r 26), .int (mlw_ u_4), .int (mhg_ u_4), .int (msl_ u_4), .ref (r 30), .int (nI (mrm_ u_4)), .ref (r 32), .int (mlo_ u_4)])), (r 1, .inl (cI, 7, .inl (mrf_ u_4))), (r 2, .inl (cI, 7, .inl (kd_ B))), (r 3, .inl (cI, 7, .inl (fg_ B))), (r 4, .inl (cI, 7, .inl (pl_ B))), (r 5, .inl (cI, 7, .inl (pw_ (uw_ B a_ (nI i))))), (r 6, .inl (cI, 7, .inl (jy_ B))), (r 13, .inl (cI, 96, .inl (mtp_ u_4))), (r 14, .inl (cI, 48, .inl (mlt_ u_4))), (r 15, .inl (cI, 48, .inl (mla_ u_4))), (r 16, .inl (cI, 144, .inl (mtd_ u_4))), (r 20, .inl (cI, 451, .inl (flatK (mkp_ u_4)))), (r 25, .inl (cI, 7, .inl (mof_ u_4))), (r 26, .inl (cI, 7, .inl (mfa_ u_4))), (r 30, .inl (cI, 12, .inl (mrw_ u_4))), (r 32, .inl (cI, 8, .inl (mhb_ u_4)))]) H := hP
                  replace hD : va_D A ([(r 0, .inr (5, [.ref (r 1), .ref (r 2), .ref (r 3), .ref (r 4), .ref (r 5), .ref (r 6), .int (nI (sn_ B)), .int (qt_ B), .int (il_ B), .int (pa_ B), .int (ho_ B), .int (dy_ B), .ref (r 13), .ref (r 14), .ref (r 15), .ref (r 16), .int (nI (mtn_ u_4)), .int (nI (mrd_ u_4)), .int (nI (msm_ u_4)), .ref (r 20), .int (mhi_ u_4), .int (mik_ u_4), .int (nI (mcu_ u_4)), .int (nI (mbk_ u_4)), .ref (r 25), .ref (r 26), .int (mlw_ u_4), .int (mhg_ u_4), .int (msl_ u_4), .ref (r 30), .int (nI (mrm_ u_4)), .ref (r 32), .int (mlo_ u_4)])), (r 1, .inl (cI, 7, .inl (mrf_ u_4))), (r 2, .inl (cI, 7, .inl (kd_ B))), (r 3, .inl (cI, 7, .inl (fg_ B))), (r 4, .inl (cI, 7, .inl (pl_ B))), (r 5, .inl (cI, 7, .inl (pw_ (uw_ B a_ (nI i))))), (r 6, .inl (cI, 7, .inl (jy_ B))), (r 13, .inl (cI, 96, .inl (mtp_ u_4))), (r 14, .inl (cI, 48, .inl (mlt_ u_4))), (r 15, .inl (cI, 48, .inl (mla_ u_4))), (r 16, .inl (cI, 144, .inl (mtd_ u_4))), (r 20, .inl (cI, 451, .inl (flatK (mkp_ u_4)))), (r 25, .inl (cI, 7, .inl (mof_ u_4))), (r 26, .inl (cI, 7, .inl (mfa_ u_4))), (r 30, .inl (cI, 12, .inl (mrw_ u_4))), (r 32, .inl (cI, 8, .inl (mhb_ u_4)))]) := hD
                  refine lv_istore (lv' := [(9, .int (tc_ (uw_ B a_ (nI i)) a_ v_)), (8, .int (nI i)), (7, .int ((bs_ (fun j => tc_ (uw_ B a_ (nI j)) a_ v_) (-9) i).2)), (6, .int (bz_ (bs_ (fun j => tc_ (uw_ B a_ (nI j)) a_ v_) (-9) i).1)), (5, .int ((pw_ B) a_)), (4, .int (wSNW_ (sn_ B) (nI a_) (nI v_) q)), (0, .ref (r 0)), (1, .int (nI a_)), (2, .int (nI v_)), (3, .int q)]) hx hb dX5_powderWanted_87 hl (by decide) rfl (fun ls hl => ?_)
                  refine lv_iload hx hb dX5_powderWanted_89 (lv_at hl 0 rfl) ?_
                  refine lv_iload hx hb dX5_powderWanted_91 (lv_at hl 2 rfl) ?_
                  refine lv_icmp_gt (tgt := 99) hx hb dX5_powderWanted_93 (by decide) (fun c_93 => ?_) (fun c_93 => ?_)
                  · have d_93 := Int32.not_le.mpr c_93
                    refine lv_iload hx hb dX5_powderWanted_99 (lv_at hl 1 rfl) ?_
                    refine lv_istore (lv' := [(6, .int (nI i)), (9, .int (tc_ (uw_ B a_ (nI i)) a_ v_)), (8, .int (nI i)), (7, .int ((bs_ (fun j => tc_ (uw_ B a_ (nI j)) a_ v_) (-9) i).2)), (5, .int ((pw_ B) a_)), (4, .int (wSNW_ (sn_ B) (nI a_) (nI v_) q)), (0, .ref (r 0)), (1, .int (nI a_)), (2, .int (nI v_)), (3, .int q)]) hx hb dX5_powderWanted_101 hl (by decide) rfl (fun ls hl => ?_)
                    refine lv_iload hx hb dX5_powderWanted_103 (lv_at hl 1 rfl) ?_
                    refine lv_istore (lv' := [(7, .int (tc_ (uw_ B a_ (nI i)) a_ v_)), (6, .int (nI i)), (9, .int (tc_ (uw_ B a_ (nI i)) a_ v_)), (8, .int (nI i)), (5, .int ((pw_ B) a_)), (4, .int (wSNW_ (sn_ B) (nI a_) (nI v_) q)), (0, .ref (r 0)), (1, .int (nI a_)), (2, .int (nI v_)), (3, .int q)]) hx hb dX5_powderWanted_105 hl (by decide) rfl (fun ls hl => ?_)
                    refine lv_iinc (v := (nI i) + 1) (lv' := [(8, .int ((nI i) + 1)), (7, .int (tc_ (uw_ B a_ (nI i)) a_ v_)), (6, .int (nI i)), (9, .int (tc_ (uw_ B a_ (nI i)) a_ v_)), (5, .int ((pw_ B) a_)), (4, .int (wSNW_ (sn_ B) (nI a_) (nI v_) q)), (0, .ref (r 0)), (1, .int (nI a_)), (2, .int (nI v_)), (3, .int q)]) hx hb dX5_powderWanted_107 hl (k := 3) rfl (by first | rfl | decide) (by decide) rfl (fun ls hl => ?_)
                    refine lv_goto (tgt := 66) hx hb dX5_powderWanted_110 (by decide) ?_
                    exact ih_66 (i + 1) (nI i) (tc_ (uw_ B a_ (nI i)) a_ v_) ((nI i) + 1) (pw_ (uw_ B a_ (nI i))) u_4 (by first | exact bz_o1 (f := (fun j => tc_ (uw_ B a_ (nI j)) a_ v_)) rfl d_93 | exact bz_o2 (f := (fun j => tc_ (uw_ B a_ (nI j)) a_ v_)) rfl d_93) (by first | exact bs_m1 (f := (fun j => tc_ (uw_ B a_ (nI j)) a_ v_)) rfl d_93 | exact bs_m2 (f := (fun j => tc_ (uw_ B a_ (nI j)) a_ v_)) rfl d_93) (by first | rfl | exact nI_1 _) (by omega) (oN_.tr hM (by assumption)) (fun j hj => upd_k j hj) (by omega) _ _ hP hD hS ls (lv_sub hl [0, 1, 2, 4, 5, 6, 7, 8, 9] rfl)
                  · have d_93 := Int32.not_lt.mp c_93
                    refine lv_goto (tgt := 107) hx hb dX5_powderWanted_96 (by decide) ?_
                    refine lv_iinc (v := (nI i) + 1) (lv' := [(8, .int ((nI i) + 1)), (9, .int (tc_ (uw_ B a_ (nI i)) a_ v_)), (7, .int ((bs_ (fun j => tc_ (uw_ B a_ (nI j)) a_ v_) (-9) i).2)), (6, .int (bz_ (bs_ (fun j => tc_ (uw_ B a_ (nI j)) a_ v_) (-9) i).1)), (5, .int ((pw_ B) a_)), (4, .int (wSNW_ (sn_ B) (nI a_) (nI v_) q)), (0, .ref (r 0)), (1, .int (nI a_)), (2, .int (nI v_)), (3, .int q)]) hx hb dX5_powderWanted_107 hl (k := 1) rfl (by first | rfl | decide) (by decide) rfl (fun ls hl => ?_)
                    refine lv_goto (tgt := 66) hx hb dX5_powderWanted_110 (by decide) ?_
                    exact ih_66 (i + 1) (bz_ (bs_ (fun j => tc_ (uw_ B a_ (nI j)) a_ v_) (-9) i).1) ((bs_ (fun j => tc_ (uw_ B a_ (nI j)) a_ v_) (-9) i).2) ((nI i) + 1) (pw_ (uw_ B a_ (nI i))) u_4 (by first | exact bz_o1 (f := (fun j => tc_ (uw_ B a_ (nI j)) a_ v_)) rfl d_93 | exact bz_o2 (f := (fun j => tc_ (uw_ B a_ (nI j)) a_ v_)) rfl d_93) (by first | exact bs_m1 (f := (fun j => tc_ (uw_ B a_ (nI j)) a_ v_)) rfl d_93 | exact bs_m2 (f := (fun j => tc_ (uw_ B a_ (nI j)) a_ v_)) rfl d_93) (by first | rfl | exact nI_1 _) (by omega) (oN_.tr hM (by assumption)) (fun j hj => upd_k j hj) (by omega) _ _ hP hD hS ls (lv_sub hl [0, 2, 3, 4, 5, 6, 7, 8, 9] rfl)
            exact lp_66 (100 + 1) 0 0 (-9) 0 (pw_ B) M (rfl) (rfl) (by first | rfl | exact nI_0.symm) (by omega) (oN_.rf _) (fun _ _ => rfl) (by omega) _ _ hP hD hS ls (lv_sub hl [0, 1, 2, 3, 4, 5, 6, 7, 8] rfl)
          · skip
            refine lv_aload_n hx hb dX5_powderWanted_41 rfl (lv_at hl 1 rfl) ?_
            refine lv_iload hx hb dX5_powderWanted_42 (lv_at hl 0 rfl) ?_
            refine kMiV hx hb hml hown hts hK hP hD hA hS gX5_powderWanted_X5_no okX5_no (qX5_no l D cI cB r B M (wSNW_ (sn_ B) a v q) (rc0_n (by first | exact rc0_wS _ _ | exact rc0_wSN _ _ _ | exact rc0_wSNW _ _ _ _ | exact rc0_wNW _ _ | exact rc0_wTh _ _ _ _ _ | exact rc0_wTr _ _ _ _ | exact rc0_nb _ _ | exact rc0_uk _ _ | exact rc0_ob _ _ _ | exact rc0_f2 (rc0_nb _ _) (rc0_nb _ _) | exact rc0_f2 (rc0_nb _ _) (rc0_uk _ _) | exact rc0_f2 (rc0_ob _ _ _) (rc0_uk _ _) | exact rc0_f2 (rc0_uk _ _) (rc0_f2 (rc0_uk _ _) (rc0_ob _ _ _))) c_38)) [0, 1, 2, 3, 4, 5, 6, 7, 8, 9, 10, 11, 12, 13, 14, 15] rfl (by decide) (fun _ => mW_adr _ _ _ _ _ _) rfl rfl rfl (by decide) hl.1 rfl rfl (Nat.le_of_ble_eq_true rfl) dX5_powderWanted_44 (by decide) (fun r_6 u_7 H locs hw_8 hP hD hS => ?_)
            replace hw_8 : r_6 = wSNW_ (sn_ B) a v q ∧ u_7 = (rfm_ M (wSNW_ (sn_ B) a v q)) := hw_8
            obtain ⟨hw_8a, hw_8b⟩ := hw_8
            subst r_6
            subst u_7
            replace hP : va_P D vwCl ([(r 0, .inr (5, [.ref (r 1), .ref (r 2), .ref (r 3), .ref (r 4), .ref (r 5), .ref (r 6), .int (nI (sn_ B)), .int (qt_ B), .int (il_ B), .int (pa_ B), .int (ho_ B), .int (dy_ B), .ref (r 13), .ref (r 14), .ref (r 15), .ref (r 16), .int (nI (mtn_ M)), .int (nI (mrd_ M)), .int (nI (msm_ M)), .ref (r 20), .int (mhi_ M), .int (mik_ M), .int (nI (mcu_ M)), .int (nI (mbk_ M)), .ref (r 25), .ref (r 26), .int (mlw_ M), .int (mhg_ M), .int (msl_ M), .ref (r 30), .int (nI (mrm_ M)), .ref (r 32), .int (mlo_ M)])), (r 1, .inl (cI, 7, .inl (rfx_ (mrf_ M) (wSNW_ (sn_ B) a v q)))), (r 2, .inl (cI, 7, .inl (kd_ B))), (r 3, .inl (cI, 7, .inl (fg_ B))), (r 4, .inl (cI, 7, .inl (pl_ B))), (r 5, .inl (cI, 7, .inl (pw_ B))), (r 6, .inl (cI, 7, .inl (jy_ B))), (r 13, .inl (cI, 96, .inl (mtp_ M))), (r 14, .inl (cI, 48, .inl (mlt_ M))), (r 15, .inl (cI, 48, .inl (mla_ M))), (r 16, .inl (cI, 144, .inl (mtd_ M))), (r 20, .inl (cI, 451, .inl (flatK (mkp_ M)))), (r 25, .inl (cI, 7, .inl (mof_ M))), (r 26, .inl (cI, 7, .inl (mfa_ M))), (r 30, .inl (cI, 12, .inl (mrw_ M))), (r 32, .inl (cI, 8, .inl (mhb_ M)))]) H := hP
            replace hD : va_D A ([(r 0, .inr (5, [.ref (r 1), .ref (r 2), .ref (r 3), .ref (r 4), .ref (r 5), .ref (r 6), .int (nI (sn_ B)), .int (qt_ B), .int (il_ B), .int (pa_ B), .int (ho_ B), .int (dy_ B), .ref (r 13), .ref (r 14), .ref (r 15), .ref (r 16), .int (nI (mtn_ M)), .int (nI (mrd_ M)), .int (nI (msm_ M)), .ref (r 20), .int (mhi_ M), .int (mik_ M), .int (nI (mcu_ M)), .int (nI (mbk_ M)), .ref (r 25), .ref (r 26), .int (mlw_ M), .int (mhg_ M), .int (msl_ M), .ref (r 30), .int (nI (mrm_ M)), .ref (r 32), .int (mlo_ M)])), (r 1, .inl (cI, 7, .inl (rfx_ (mrf_ M) (wSNW_ (sn_ B) a v q)))), (r 2, .inl (cI, 7, .inl (kd_ B))), (r 3, .inl (cI, 7, .inl (fg_ B))), (r 4, .inl (cI, 7, .inl (pl_ B))), (r 5, .inl (cI, 7, .inl (pw_ B))), (r 6, .inl (cI, 7, .inl (jy_ B))), (r 13, .inl (cI, 96, .inl (mtp_ M))), (r 14, .inl (cI, 48, .inl (mlt_ M))), (r 15, .inl (cI, 48, .inl (mla_ M))), (r 16, .inl (cI, 144, .inl (mtd_ M))), (r 20, .inl (cI, 451, .inl (flatK (mkp_ M)))), (r 25, .inl (cI, 7, .inl (mof_ M))), (r 26, .inl (cI, 7, .inl (mfa_ M))), (r 30, .inl (cI, 12, .inl (mrw_ M))), (r 32, .inl (cI, 8, .inl (mhb_ M)))]) := hD
            refine rMi hx hb hr hlk hS (rfm_ M (wSNW_ (sn_ B) a v q)) hP ?_ dX5_powderWanted_47
            first | exact ⟨(if_neg c_38).symm, oQ_n _ _⟩ | (refine ⟨?_, oQ_0 c_38 ?_⟩; · (rw [if_pos c_38]; simp only [tn_n (show a_ < 2147483648 by omega), tn_n (show v_ < 2147483648 by omega)]; have e9 : i = 100 := by omega; subst e9; obtain ⟨t, e1, e2, e3⟩ := bpX_eq (B := B) (k := a_) (n := v_) (by omega); first | (rw [if_pos c_122, e1, e2]; rfl) | (rw [if_neg c_122, e1, e2])); · (first | exact (oN_mk (by assumption)).m | exact oM_.rf _ | exact (oN_pp _ _).m | exact (oN_fo _ _ _ _).m | assumption | (apply oN_.m; assumption) | exact oM_.tr (by assumption) (by assumption)))
      refine lv_iload hx hb dX5_powderWanted_18 (lv_at hl 0 rfl) ?_
      refine lv_if_ne (tgt := 36) hx hb dX5_powderWanted_20 (by decide) (fun c_20 => ?_) (fun c_20 => ?_)
      · skip
        exact jn_36  (wSN_ (sn_ B) a v)  (by first | exact (f2_a c_20).symm | exact c_20.trans ((f2_b c_20).trans (uk_i c_29)).symm | exact ((f2_b c_20).trans (uk_o c_29)).symm)   _ _ hP hD hS ls (lv_sub hl [0, 1, 2, 3, 4] rfl)
      · skip
        refine lv_iload_n hx hb dX5_powderWanted_23 rfl (lv_at hl 4 rfl) ?_
        refine lv_iconst (v := 0) hx hb dX5_powderWanted_24 (by decide) ?_
        refine lv_iconst (v := 1) hx hb dX5_powderWanted_25 (by decide) ?_
        refine kSiS hx hb hml hown hts hK hP gX5_powderWanted_X5_isIn okX5_isIn (qX5_isIn l D cI cB q 0 1 ) [] rfl (by decide) hl.1 rfl rfl (Nat.le_of_ble_eq_true rfl) dX5_powderWanted_26 (by decide) (fun r_9 hr_10 => ?_)
        replace hr_10 : r_9 = b1 (0 ≤ q ∧ q ≤ 1) := hr_10
        subst r_9
        refine lv_if_ne (tgt := 36) hx hb dX5_powderWanted_29 (by decide) (fun c_29 => ?_) (fun c_29 => ?_)
        · replace c_29 := b1_n c_29
          exact jn_36  (wSN_ (sn_ B) a v)  (by first | exact (f2_a c_20).symm | exact c_20.trans ((f2_b c_20).trans (uk_i c_29)).symm | exact ((f2_b c_20).trans (uk_o c_29)).symm)   _ _ hP hD hS ls (lv_sub hl [0, 1, 2, 3, 4] rfl)
        · replace c_29 := b1_z c_29
          refine lv_bipush (v := (-2)) hx hb dX5_powderWanted_32 (by decide) ?_
          refine lv_istore (lv' := [(4, .int (-2)), (0, .ref (r 0)), (1, .int a), (2, .int v), (3, .int q)]) hx hb dX5_powderWanted_34 hl (by decide) rfl (fun ls hl => ?_)
          exact jn_36  (-2)  (by first | exact (f2_a c_20).symm | exact c_20.trans ((f2_b c_20).trans (uk_i c_29)).symm | exact ((f2_b c_20).trans (uk_o c_29)).symm)   _ _ hP hD hS ls (lv_sub hl [0, 1, 2, 3, 4] rfl)
  refine lv_aload_n hx hb dX5_powderWanted_0 rfl (lv_at hl 0 rfl) ?_
  refine lv_iload_n hx hb dX5_powderWanted_1 rfl (lv_at hl 1 rfl) ?_
  refine kSiV hx hb hml hown hts hK hP gX5_powderWanted_X5_isShore okX5_isShore (qX5_isShore l D cI cB r B M a (by show sn_ B ≤ 7; omega)) [0, 1, 2, 3, 4, 5, 6, 7, 8, 9, 10, 11, 12, 13, 14, 15] rfl rfl rfl rfl (by decide) hl.1 rfl rfl (Nat.le_of_ble_eq_true rfl) dX5_powderWanted_2 (by decide) (fun r_11 hr_12 => ?_)
  replace hr_12 : r_11 = b1 (0 ≤ a ∧ a < nI (sn_ B)) := hr_12
  subst r_11
  refine lv_if_ne (tgt := 12) hx hb dX5_powderWanted_5 (by decide) (fun c_5 => ?_) (fun c_5 => ?_)
  · replace c_5 := b1_n c_5
    refine lv_iload_n hx hb dX5_powderWanted_12 rfl (lv_at hl 2 rfl) ?_
    refine kSiS hx hb hml hown hts hK hP gX5_powderWanted_X5_notHours okX5_notHours (qX5_notHours l D cI cB v ) [] rfl (by decide) hl.1 rfl rfl (Nat.le_of_ble_eq_true rfl) dX5_powderWanted_13 (by decide) (fun r_13 hr_14 => ?_)
    replace hr_14 : r_13 = ob_ v 0 99 := hr_14
    subst r_13
    refine lv_istore (lv' := [(4, .int (ob_ v 0 99)), (0, .ref (r 0)), (1, .int a), (2, .int v), (3, .int q)]) hx hb dX5_powderWanted_16 hl (by decide) rfl (fun ls hl => ?_)
    exact jn_18  (ob_ v 0 99)  (by first | exact (f2_b (nb_i c_5)).symm | exact ((f2_a (by rw [nb_o c_5]; decide)).trans (nb_o c_5)).symm)   _ _ hP hD hS ls (lv_sub hl [0, 1, 2, 3, 4] rfl)
  · replace c_5 := b1_z c_5
    refine lv_iconst (v := (-1)) hx hb dX5_powderWanted_8 (by decide) ?_
    refine lv_goto (tgt := 16) hx hb dX5_powderWanted_9 (by decide) ?_
    refine lv_istore (lv' := [(4, .int (-1)), (0, .ref (r 0)), (1, .int a), (2, .int v), (3, .int q)]) hx hb dX5_powderWanted_16 hl (by decide) rfl (fun ls hl => ?_)
    exact jn_18  (-1)  (by first | exact (f2_b (nb_i c_5)).symm | exact ((f2_a (by rw [nb_o c_5]; decide)).trans (nb_o c_5)).symm)   _ _ hP hD hS ls (lv_sub hl [0, 1, 2, 3, 4] rfl)

theorem okX5_newShore : jok yX5_newShore wsX5_newShore cX5_newShore 9 (some .int) 3 := ⟨⟨_, rfl⟩, by decide +kernel, by decide +kernel⟩
set_option maxHeartbeats 2000000 in
set_option maxRecDepth 100000 in
theorem qX5_newShore (l : Launch) (D : va_G) (cI cB : ClassId) (r : Nat → Nat) (B : BayT) (M : MT) (w : Int32) (v : Int32) (q : Int32) (hI : bI_ B) : jMi D cI cB l yX5_newShore wsX5_newShore 9 [.ref (r 0), .int w, .int v, .int q] (mW cI r B M) (S := MT) (fun r u => r = (if f2_ (uk_ w 5) (f2_ (uk_ q 1) (ob_ v 0 99)) = 0 then npX_ B w (tn_ v) q else f2_ (uk_ w 5) (f2_ (uk_ q 1) (ob_ v 0 99))) ∧ oQ_ M u (f2_ (uk_ w 5) (f2_ (uk_ q 1) (ob_ v 0 99)))) (fun u => mW cI r B u) := by
  refine jMi.of (cc := cX5_newShore) (maxL := 9) (ret := (some .int)) okX5_newShore (Nat.le_of_ble_eq_true rfl) ?_
  intro p e s m below meth c ls A hx hb hr hts hown hlk hml hP hK hD hA hS hl
  replace hown : s.vm.findClass RX5 = some m.cls := hown
  replace hl : lv_has ls 9 [(0, .ref (r 0)), (1, .int w), (2, .int v), (3, .int q)] := hl
  have hn7 := hI.1
  have hinX5 : ∀ w ∈ wsX50, w ∈ wsX5_newShore := by decide +kernel
  have jn_29 : ∀  (x4_29 : Int32) , (x4_29 = f2_ (uk_ w 5) (f2_ (uk_ q 1) (ob_ v 0 99))) → ∀ (H : Heap) (locs : List Loc), va_P D vwCl (mW cI r B M) H → va_D A (mW cI r B M) → va_S A s.heap H locs → ∀ ls : Array Slot, lv_has ls 9 [(4, .int x4_29), (0, .ref (r 0)), (1, .int w), (2, .int v), (3, .int q)] → W p l e (jR 9) s m ([.ref (r 0), .int w, .int v, .int q] : List Value).toArray below meth c H locs 0 0 (MQ below (va_Qi (S := MT) (fun r u => r = (if f2_ (uk_ w 5) (f2_ (uk_ q 1) (ob_ v 0 99)) = 0 then npX_ B w (tn_ v) q else f2_ (uk_ w 5) (f2_ (uk_ q 1) (ob_ v 0 99))) ∧ oQ_ M u (f2_ (uk_ w 5) (f2_ (uk_ q 1) (ob_ v 0 99)))) (fun u t => va_P D vwCl ((fun u => mW cI r B u) u) t.heap) A) ([.ref (r 0), .int w, .int v, .int q] : List Value).toArray s 0 0 A) (F0 m 29 ls []) := by
      intro x4_29 hx4_29 H locs hP hD hS ls hl
      subst x4_29
      replace hl : lv_has ls 9 [(4, .int (f2_ (uk_ w 5) (f2_ (uk_ q 1) (ob_ v 0 99)))), (0, .ref (r 0)), (1, .int w), (2, .int v), (3, .int q)] := hl
      replace hP : va_P D vwCl (mW cI r B M) H := hP
      replace hD : va_D A (mW cI r B M) := hD
      refine lv_iload hx hb dX5_newShore_29 (lv_at hl 0 rfl) ?_
      refine lv_if_eq (tgt := 41) hx hb dX5_newShore_31 (by decide) (fun c_31 => ?_) (fun c_31 => ?_)
      · skip
        have w0 := c_31
        simp only [wS_, wSN_, wSNW_, wNW_, wTh_, wTr_, f2_0, nb_0, ob_0, uk_0, lo_0, hi_0] at w0
        obtain ⟨v_, hv_, rfl⟩ := pl_le (n := 99) (by decide) w0.2.2
        replace hl : lv_has ls 9 [(4, .int (f2_ (uk_ w 5) (f2_ (uk_ q 1) (ob_ (nI v_) 0 99)))), (0, .ref (r 0)), (1, .int w), (2, .int (nI v_)), (3, .int q)] := hl
        refine lv_aload_n hx hb dX5_newShore_41 rfl (lv_at hl 1 rfl) ?_
        refine va_get (ci := 5) (C := RX5) (T := TX5) (N := 33) hx hb hts hinX5 hown hK.1 hP 0 rfl rfl 6 (by decide) (hts _ (List.mem_of_getElem? (i := 1) rfl)) (fun _ h9 => h9) rfl dX5_newShore_42 ?_
        refine lv_bipush (v := 7) hx hb dX5_newShore_45 (by decide) ?_
        refine lv_icmp_ne (tgt := 53) hx hb dX5_newShore_47 (by decide) (fun c_47 => ?_) (fun c_47 => ?_)
        · replace c_47 : ¬ nI (sn_ B) = nI 7 := c_47
          rw [jeq (by omega) (by omega)] at c_47
          refine lv_bipush (v := (-9)) hx hb dX5_newShore_53 (by decide) ?_
          refine lv_istore (lv' := [(5, .int (-9)), (4, .int (f2_ (uk_ w 5) (f2_ (uk_ q 1) (ob_ (nI v_) 0 99)))), (0, .ref (r 0)), (1, .int w), (2, .int (nI v_)), (3, .int q)]) hx hb dX5_newShore_55 hl (by decide) rfl (fun ls hl => ?_)
          refine lv_bipush (v := (-9)) hx hb dX5_newShore_57 (by decide) ?_
          refine lv_istore (lv' := [(6, .int (-9)), (5, .int (-9)), (4, .int (f2_ (uk_ w 5) (f2_ (uk_ q 1) (ob_ (nI v_) 0 99)))), (0, .ref (r 0)), (1, .int w), (2, .int (nI v_)), (3, .int q)]) hx hb dX5_newShore_59 hl (by decide) rfl (fun ls hl => ?_)
          refine lv_iconst (v := 0) hx hb dX5_newShore_61 (by decide) ?_
          refine lv_istore (lv' := [(7, .int 0), (6, .int (-9)), (5, .int (-9)), (4, .int (f2_ (uk_ w 5) (f2_ (uk_ q 1) (ob_ (nI v_) 0 99)))), (0, .ref (r 0)), (1, .int w), (2, .int (nI v_)), (3, .int q)]) hx hb dX5_newShore_62 hl (by decide) rfl (fun ls hl => ?_)
          have lp_64 : ∀ (fu_64 : Nat) (i : Nat) (x5_64 : Int32) (x6_64 : Int32) (x7_64 : Int32) (M2 : MT), (x5_64 = oI_ (bs_ (n9_ B w v_) (-9) i).1) → (x6_64 = (bs_ (n9_ B w v_) (-9) i).2) → (x7_64 = nI i) → (i ≤ 31) → (oM_ M M2) → 31 - i < fu_64 → ∀ (H : Heap) (locs : List Loc), va_P D vwCl (mW cI r B M2) H → va_D A (mW cI r B M2) → va_S A s.heap H locs → ∀ ls : Array Slot, lv_has ls 9 [(7, .int x7_64), (6, .int x6_64), (5, .int x5_64), (4, .int (f2_ (uk_ w 5) (f2_ (uk_ q 1) (ob_ (nI v_) 0 99)))), (0, .ref (r 0)), (1, .int w), (2, .int (nI v_)), (3, .int q)] → W p l e (jR 9) s m ([.ref (r 0), .int w, .int (nI v_), .int q] : List Value).toArray below meth c H locs 0 0 (MQ below (va_Qi (S := MT) (fun r u => r = (if f2_ (uk_ w 5) (f2_ (uk_ q 1) (ob_ (nI v_) 0 99)) = 0 then npX_ B w (tn_ (nI v_)) q else f2_ (uk_ w 5) (f2_ (uk_ q 1) (ob_ (nI v_) 0 99))) ∧ oQ_ M u (f2_ (uk_ w 5) (f2_ (uk_ q 1) (ob_ (nI v_) 0 99)))) (fun u t => va_P D vwCl ((fun u => mW cI r B u) u) t.heap) A) ([.ref (r 0), .int w, .int (nI v_), .int q] : List Value).toArray s 0 0 A) (F0 m 64 ls []) := by
            intro fu_64
            induction fu_64 with
            | zero => intro i x5_64 x6_64 x7_64 M2 hx5_64 hx6_64 hx7_64 hi hM hfu; exact absurd hfu (Nat.not_lt_zero _)
            | succ fu_64 ih_64 =>
              intro i x5_64 x6_64 x7_64 M2 hx5_64 hx6_64 hx7_64 hi hM hfu_64 H locs hP hD hS ls hl
              subst x5_64
              subst x6_64
              subst x7_64
              replace hl : lv_has ls 9 [(7, .int (nI i)), (6, .int ((bs_ (n9_ B w v_) (-9) i).2)), (5, .int (oI_ (bs_ (n9_ B w v_) (-9) i).1)), (4, .int (f2_ (uk_ w 5) (f2_ (uk_ q 1) (ob_ (nI v_) 0 99)))), (0, .ref (r 0)), (1, .int w), (2, .int (nI v_)), (3, .int q)] := hl
              replace hP : va_P D vwCl (mW cI r B M2) H := hP
              replace hD : va_D A (mW cI r B M2) := hD
              refine lv_iload hx hb dX5_newShore_64 (lv_at hl 0 rfl) ?_
              refine lv_bipush (v := 30) hx hb dX5_newShore_66 (by decide) ?_
              refine lv_icmp_gt (tgt := 119) hx hb dX5_newShore_68 (by decide) (fun c_68 => ?_) (fun c_68 => ?_)
              · replace c_68 : nI 30 < nI i := c_68
                rw [jlt (by omega) (by omega)] at c_68
                refine lv_iload_n hx hb dX5_newShore_119 rfl (lv_at hl 7 rfl) ?_
                refine lv_if_ne (tgt := 128) hx hb dX5_newShore_120 (by decide) (fun c_120 => ?_) (fun c_120 => ?_)
                · skip
                  refine lv_iload hx hb dX5_newShore_128 (lv_at hl 1 rfl) ?_
                  refine rMi hx hb hr hlk hS M2 hP ?_ dX5_newShore_130
                  first | exact ⟨(if_neg c_31).symm, oQ_n _ _⟩ | (refine ⟨?_, oQ_0 c_31 ?_⟩; · (rw [if_pos c_31]; simp only [tn_n (show v_ < 2147483648 by omega)]; first | (rw [npX_7 (by omega)]; done) | (rw [npX_eq (by omega) (by omega), show i = 31 by omega]; first | (rw [if_pos c_120]; done) | (rw [if_neg c_120]; done) | (rw [if_pos c_120]; rfl) | (rw [if_neg c_120]; rfl))); · (first | exact (oN_mk (by assumption)).m | exact oM_.rf _ | exact (oN_pp _ _).m | exact (oN_fo _ _ _ _).m | assumption | (apply oN_.m; assumption) | exact oM_.tr (by assumption) (by assumption)))
                · skip
                  refine lv_iload hx hb dX5_newShore_123 (lv_at hl 2 rfl) ?_
                  refine lv_goto (tgt := 130) hx hb dX5_newShore_125 (by decide) ?_
                  refine rMi hx hb hr hlk hS M2 hP ?_ dX5_newShore_130
                  first | exact ⟨(if_neg c_31).symm, oQ_n _ _⟩ | (refine ⟨?_, oQ_0 c_31 ?_⟩; · (rw [if_pos c_31]; simp only [tn_n (show v_ < 2147483648 by omega)]; first | (rw [npX_7 (by omega)]; done) | (rw [npX_eq (by omega) (by omega), show i = 31 by omega]; first | (rw [if_pos c_120]; done) | (rw [if_neg c_120]; done) | (rw [if_pos c_120]; rfl) | (rw [if_neg c_120]; rfl))); · (first | exact (oN_mk (by assumption)).m | exact oM_.rf _ | exact (oN_pp _ _).m | exact (oN_fo _ _ _ _).m | assumption | (apply oN_.m; assumption) | exact oM_.tr (by assumption) (by assumption)))
              · replace c_68 : ¬ nI 30 < nI i := c_68
                rw [jlt (by omega) (by omega)] at c_68
                have jn_93 : ∀   (M3 : MT) (y9 : Int32), (y9 = n9_ B w v_ i) → (oM_ M M3) → ∀ (H : Heap) (locs : List Loc), va_P D vwCl (mW cI r B M3) H → va_D A (mW cI r B M3) → va_S A s.heap H locs → ∀ ls : Array Slot, lv_has ls 9 [(7, .int (nI i)), (6, .int ((bs_ (n9_ B w v_) (-9) i).2)), (5, .int (oI_ (bs_ (n9_ B w v_) (-9) i).1)), (4, .int (f2_ (uk_ w 5) (f2_ (uk_ q 1) (ob_ (nI v_) 0 99)))), (0, .ref (r 0)), (1, .int w), (2, .int (nI v_)), (3, .int q)] → W p l e (jR 9) s m ([.ref (r 0), .int w, .int (nI v_), .int q] : List Value).toArray below meth c H locs 0 0 (MQ below (va_Qi (S := MT) (fun r u => r = (if f2_ (uk_ w 5) (f2_ (uk_ q 1) (ob_ (nI v_) 0 99)) = 0 then npX_ B w (tn_ (nI v_)) q else f2_ (uk_ w 5) (f2_ (uk_ q 1) (ob_ (nI v_) 0 99))) ∧ oQ_ M u (f2_ (uk_ w 5) (f2_ (uk_ q 1) (ob_ (nI v_) 0 99)))) (fun u t => va_P D vwCl ((fun u => mW cI r B u) u) t.heap) A) ([.ref (r 0), .int w, .int (nI v_), .int q] : List Value).toArray s 0 0 A) (F0 m 93 ls [.int y9]) := by
                    intro M3 y9 hy9 hM3 H locs hP hD hS ls hl
                    subst y9
                    replace hl : lv_has ls 9 [(7, .int (nI i)), (6, .int ((bs_ (n9_ B w v_) (-9) i).2)), (5, .int (oI_ (bs_ (n9_ B w v_) (-9) i).1)), (4, .int (f2_ (uk_ w 5) (f2_ (uk_ q 1) (ob_ (nI v_) 0 99)))), (0, .ref (r 0)), (1, .int w), (2, .int (nI v_)), (3, .int q)] := hl
                    replace hP : va_P D vwCl (mW cI r B M3) H := hP
                    replace hD : va_D A (mW cI r B M3) := hD
                    refine lv_istore (lv' := [(8, .int (n9_ B w v_ i)), (7, .int (nI i)), (6, .int ((bs_ (n9_ B w v_) (-9) i).2)), (5, .int (oI_ (bs_ (n9_ B w v_) (-9) i).1)), (4, .int (f2_ (uk_ w 5) (f2_ (uk_ q 1) (ob_ (nI v_) 0 99)))), (0, .ref (r 0)), (1, .int w), (2, .int (nI v_)), (3, .int q)]) hx hb dX5_newShore_93 hl (by decide) rfl (fun ls hl => ?_)
                    refine lv_iload hx hb dX5_newShore_95 (lv_at hl 0 rfl) ?_
                    refine lv_iload hx hb dX5_newShore_97 (lv_at hl 2 rfl) ?_
                    refine lv_icmp_gt (tgt := 105) hx hb dX5_newShore_99 (by decide) (fun c_99 => ?_) (fun c_99 => ?_)
                    · have d_99 := Int32.not_le.mpr c_99
                      refine lv_iload hx hb dX5_newShore_105 (lv_at hl 1 rfl) ?_
                      refine lv_istore (lv' := [(5, .int (nI i)), (8, .int (n9_ B w v_ i)), (7, .int (nI i)), (6, .int ((bs_ (n9_ B w v_) (-9) i).2)), (4, .int (f2_ (uk_ w 5) (f2_ (uk_ q 1) (ob_ (nI v_) 0 99)))), (0, .ref (r 0)), (1, .int w), (2, .int (nI v_)), (3, .int q)]) hx hb dX5_newShore_107 hl (by decide) rfl (fun ls hl => ?_)
                      refine lv_iload hx hb dX5_newShore_109 (lv_at hl 1 rfl) ?_
                      refine lv_istore (lv' := [(6, .int (n9_ B w v_ i)), (5, .int (nI i)), (8, .int (n9_ B w v_ i)), (7, .int (nI i)), (4, .int (f2_ (uk_ w 5) (f2_ (uk_ q 1) (ob_ (nI v_) 0 99)))), (0, .ref (r 0)), (1, .int w), (2, .int (nI v_)), (3, .int q)]) hx hb dX5_newShore_111 hl (by decide) rfl (fun ls hl => ?_)
                      refine lv_iinc (v := (nI i) + 1) (lv' := [(7, .int ((nI i) + 1)), (6, .int (n9_ B w v_ i)), (5, .int (nI i)), (8, .int (n9_ B w v_ i)), (4, .int (f2_ (uk_ w 5) (f2_ (uk_ q 1) (ob_ (nI v_) 0 99)))), (0, .ref (r 0)), (1, .int w), (2, .int (nI v_)), (3, .int q)]) hx hb dX5_newShore_113 hl (k := 3) rfl (by first | rfl | decide) (by decide) rfl (fun ls hl => ?_)
                      refine lv_goto (tgt := 64) hx hb dX5_newShore_116 (by decide) ?_
                      exact ih_64 (i + 1) (nI i) (n9_ B w v_ i) ((nI i) + 1) M3 (by first | exact bs_o1 (f := (n9_ B w v_)) rfl d_99 | exact bs_o2 (f := (n9_ B w v_)) rfl d_99) (by first | exact bs_m1 (f := (n9_ B w v_)) rfl d_99 | exact bs_m2 (f := (n9_ B w v_)) rfl d_99) (by first | rfl | exact nI_1 _) (by omega) (hM3) (by omega) _ _ hP hD hS ls (lv_sub hl [0, 1, 2, 4, 5, 6, 7, 8] rfl)
                    · have d_99 := Int32.not_lt.mp c_99
                      refine lv_goto (tgt := 113) hx hb dX5_newShore_102 (by decide) ?_
                      refine lv_iinc (v := (nI i) + 1) (lv' := [(7, .int ((nI i) + 1)), (8, .int (n9_ B w v_ i)), (6, .int ((bs_ (n9_ B w v_) (-9) i).2)), (5, .int (oI_ (bs_ (n9_ B w v_) (-9) i).1)), (4, .int (f2_ (uk_ w 5) (f2_ (uk_ q 1) (ob_ (nI v_) 0 99)))), (0, .ref (r 0)), (1, .int w), (2, .int (nI v_)), (3, .int q)]) hx hb dX5_newShore_113 hl (k := 1) rfl (by first | rfl | decide) (by decide) rfl (fun ls hl => ?_)
                      refine lv_goto (tgt := 64) hx hb dX5_newShore_116 (by decide) ?_
                      exact ih_64 (i + 1) (oI_ (bs_ (n9_ B w v_) (-9) i).1) ((bs_ (n9_ B w v_) (-9) i).2) ((nI i) + 1) M3 (by first | exact bs_o1 (f := (n9_ B w v_)) rfl d_99 | exact bs_o2 (f := (n9_ B w v_)) rfl d_99) (by first | exact bs_m1 (f := (n9_ B w v_)) rfl d_99 | exact bs_m2 (f := (n9_ B w v_)) rfl d_99) (by first | rfl | exact nI_1 _) (by omega) (hM3) (by omega) _ _ hP hD hS ls (lv_sub hl [0, 2, 3, 4, 5, 6, 7, 8] rfl)
                refine lv_aload_n hx hb dX5_newShore_71 rfl (lv_at hl 4 rfl) ?_
                refine lv_iload hx hb dX5_newShore_72 (lv_at hl 0 rfl) ?_
                refine kSiV hx hb hml hown hts hK hP gX5_newShore_X5_shoreAt okX5_shoreAt (qX5_shoreAt l D cI cB r B M2 (nI i) (by show sn_ B ≤ 7; omega)) [0, 1, 2, 3, 4, 5, 6, 7, 8, 9, 10, 11, 12, 13, 14, 15] rfl rfl rfl rfl (by decide) hl.1 rfl rfl (Nat.le_of_ble_eq_true rfl) dX5_newShore_74 (by decide) (fun r_1 hr_2 => ?_)
                replace hr_2 : r_1 = oI_ (sa_ B (nI i)) := hr_2
                subst r_1
                refine lv_if_lt (tgt := 85) hx hb dX5_newShore_77 (by decide) (fun c_77 => ?_) (fun c_77 => ?_)
                · rw [oI_lt0 (sa_b hn7)] at c_77
                  refine lv_aload_n hx hb dX5_newShore_85 rfl (lv_at hl 4 rfl) ?_
                  refine lv_iload_n hx hb dX5_newShore_86 rfl (lv_at hl 5 rfl) ?_
                  refine lv_iload hx hb dX5_newShore_87 (lv_at hl 0 rfl) ?_
                  refine lv_iload_n hx hb dX5_newShore_89 rfl (lv_at hl 6 rfl) ?_
                  refine kMiV hx hb hml hown hts hK hP hD hA hS gX5_newShore_X5_oftenAt okX5_oftenAt (qX5_oftenAt l D cI cB r B M2 w (nI i) v_ hI (by omega) w0.1 ⟨Int32.not_lt.mp (nI_pos (by omega)), (jle (b := 30) (by omega) (by decide)).mpr (by omega)⟩ (by assumption) (by omega)) [0, 1, 2, 3, 4, 5, 6, 7, 8, 9, 10, 11, 12, 13, 14, 15] rfl (by decide) (fun _ => mW_adr _ _ _ _ _ _) rfl rfl rfl (by decide) hl.1 rfl rfl (Nat.le_of_ble_eq_true rfl) dX5_newShore_90 (by decide) (fun r_3 u_4 H locs hw_5 hP hD hS => ?_)
                  replace hw_5 : r_3 = tc_ (ad_ B w 5 (nI i)) (sn_ B) v_ ∧ oM_ M2 u_4 := hw_5
                  obtain ⟨hw_5a, hw_5b⟩ := hw_5
                  subst r_3
                  replace hP : va_P D vwCl (mW cI r B u_4) H := hP
                  replace hD : va_D A (mW cI r B u_4) := hD
                  exact jn_93   u_4 (tc_ (ad_ B w 5 (nI i)) (sn_ B) v_) (by unfold n9_; first | exact (if_pos (by assumption)).symm | exact (if_neg (by assumption)).symm) (by first | assumption | exact oM_.tr hM (by assumption))  _ _ hP hD hS ls (lv_sub hl [0, 1, 2, 3, 4, 5, 6, 7] rfl)
                · rw [oI_lt0 (sa_b hn7)] at c_77
                  refine lv_bipush (v := (-9)) hx hb dX5_newShore_80 (by decide) ?_
                  refine lv_goto (tgt := 93) hx hb dX5_newShore_82 (by decide) ?_
                  exact jn_93   M2 (-9) (by unfold n9_; first | exact (if_pos (by assumption)).symm | exact (if_neg (by assumption)).symm) (by first | assumption | exact oM_.tr hM (by assumption))  _ _ hP hD hS ls (lv_sub hl [0, 1, 2, 3, 4, 5, 6, 7] rfl)
          exact lp_64 (31 + 1) 0 (-9) (-9) 0 M (rfl) (rfl) (by first | rfl | exact nI_0.symm) (by omega) (oM_.rf _) (by omega) _ _ hP hD hS ls (lv_sub hl [0, 1, 2, 3, 4, 5, 6, 7] rfl)
        · replace c_47 : nI (sn_ B) = nI 7 := c_47
          rw [jeq (by omega) (by omega)] at c_47
          refine lv_bipush (v := (-9)) hx hb dX5_newShore_50 (by decide) ?_
          refine rMi hx hb hr hlk hS M hP ?_ dX5_newShore_52
          first | exact ⟨(if_neg c_31).symm, oQ_n _ _⟩ | (refine ⟨?_, oQ_0 c_31 ?_⟩; · (rw [if_pos c_31]; simp only [tn_n (show v_ < 2147483648 by omega)]; first | (rw [npX_7 (by omega)]; done) | (rw [npX_eq (by omega) (by omega), show i = 31 by omega]; first | (rw [if_pos c_120]; done) | (rw [if_neg c_120]; done) | (rw [if_pos c_120]; rfl) | (rw [if_neg c_120]; rfl))); · (first | exact (oN_mk (by assumption)).m | exact oM_.rf _ | exact (oN_pp _ _).m | exact (oN_fo _ _ _ _).m | assumption | (apply oN_.m; assumption) | exact oM_.tr (by assumption) (by assumption)))
      · skip
        refine lv_aload_n hx hb dX5_newShore_34 rfl (lv_at hl 1 rfl) ?_
        refine lv_iload hx hb dX5_newShore_35 (lv_at hl 0 rfl) ?_
        refine kMiV hx hb hml hown hts hK hP hD hA hS gX5_newShore_X5_no okX5_no (qX5_no l D cI cB r B M (f2_ (uk_ w 5) (f2_ (uk_ q 1) (ob_ v 0 99))) (rc0_n (by first | exact rc0_wS _ _ | exact rc0_wSN _ _ _ | exact rc0_wSNW _ _ _ _ | exact rc0_wNW _ _ | exact rc0_wTh _ _ _ _ _ | exact rc0_wTr _ _ _ _ | exact rc0_nb _ _ | exact rc0_uk _ _ | exact rc0_ob _ _ _ | exact rc0_f2 (rc0_nb _ _) (rc0_nb _ _) | exact rc0_f2 (rc0_nb _ _) (rc0_uk _ _) | exact rc0_f2 (rc0_ob _ _ _) (rc0_uk _ _) | exact rc0_f2 (rc0_uk _ _) (rc0_f2 (rc0_uk _ _) (rc0_ob _ _ _))) c_31)) [0, 1, 2, 3, 4, 5, 6, 7, 8, 9, 10, 11, 12, 13, 14, 15] rfl (by decide) (fun _ => mW_adr _ _ _ _ _ _) rfl rfl rfl (by decide) hl.1 rfl rfl (Nat.le_of_ble_eq_true rfl) dX5_newShore_37 (by decide) (fun r_6 u_7 H locs hw_8 hP hD hS => ?_)
        replace hw_8 : r_6 = f2_ (uk_ w 5) (f2_ (uk_ q 1) (ob_ v 0 99)) ∧ u_7 = (rfm_ M (f2_ (uk_ w 5) (f2_ (uk_ q 1) (ob_ v 0 99)))) := hw_8
        obtain ⟨hw_8a, hw_8b⟩ := hw_8
        subst r_6
        subst u_7
        replace hP : va_P D vwCl ([(r 0, .inr (5, [.ref (r 1), .ref (r 2), .ref (r 3), .ref (r 4), .ref (r 5), .ref (r 6), .int (nI (sn_ B)), .int (qt_ B), .int (il_ B), .int (pa_ B), .int (ho_ B), .int (dy_ B), .ref (r 13), .ref (r 14), .ref (r 15), .ref (r 16), .int (nI (mtn_ M)), .int (nI (mrd_ M)), .int (nI (msm_ M)), .ref (r 20), .int (mhi_ M), .int (mik_ M), .int (nI (mcu_ M)), .int (nI (mbk_ M)), .ref (r 25), .ref (r 26), .int (mlw_ M), .int (mhg_ M), .int (msl_ M), .ref (r 30), .int (nI (mrm_ M)), .ref (r 32), .int (mlo_ M)])), (r 1, .inl (cI, 7, .inl (rfx_ (mrf_ M) (f2_ (uk_ w 5) (f2_ (uk_ q 1) (ob_ v 0 99)))))), (r 2, .inl (cI, 7, .inl (kd_ B))), (r 3, .inl (cI, 7, .inl (fg_ B))), (r 4, .inl (cI, 7, .inl (pl_ B))), (r 5, .inl (cI, 7, .inl (pw_ B))), (r 6, .inl (cI, 7, .inl (jy_ B))), (r 13, .inl (cI, 96, .inl (mtp_ M))), (r 14, .inl (cI, 48, .inl (mlt_ M))), (r 15, .inl (cI, 48, .inl (mla_ M))), (r 16, .inl (cI, 144, .inl (mtd_ M))), (r 20, .inl (cI, 451, .inl (flatK (mkp_ M)))), (r 25, .inl (cI, 7, .inl (mof_ M))), (r 26, .inl (cI, 7, .inl (mfa_ M))), (r 30, .inl (cI, 12, .inl (mrw_ M))), (r 32, .inl (cI, 8, .inl (mhb_ M)))]) H := hP
        replace hD : va_D A ([(r 0, .inr (5, [.ref (r 1), .ref (r 2), .ref (r 3), .ref (r 4), .ref (r 5), .ref (r 6), .int (nI (sn_ B)), .int (qt_ B), .int (il_ B), .int (pa_ B), .int (ho_ B), .int (dy_ B), .ref (r 13), .ref (r 14), .ref (r 15), .ref (r 16), .int (nI (mtn_ M)), .int (nI (mrd_ M)), .int (nI (msm_ M)), .ref (r 20), .int (mhi_ M), .int (mik_ M), .int (nI (mcu_ M)), .int (nI (mbk_ M)), .ref (r 25), .ref (r 26), .int (mlw_ M), .int (mhg_ M), .int (msl_ M), .ref (r 30), .int (nI (mrm_ M)), .ref (r 32), .int (mlo_ M)])), (r 1, .inl (cI, 7, .inl (rfx_ (mrf_ M) (f2_ (uk_ w 5) (f2_ (uk_ q 1) (ob_ v 0 99)))))), (r 2, .inl (cI, 7, .inl (kd_ B))), (r 3, .inl (cI, 7, .inl (fg_ B))), (r 4, .inl (cI, 7, .inl (pl_ B))), (r 5, .inl (cI, 7, .inl (pw_ B))), (r 6, .inl (cI, 7, .inl (jy_ B))), (r 13, .inl (cI, 96, .inl (mtp_ M))), (r 14, .inl (cI, 48, .inl (mlt_ M))), (r 15, .inl (cI, 48, .inl (mla_ M))), (r 16, .inl (cI, 144, .inl (mtd_ M))), (r 20, .inl (cI, 451, .inl (flatK (mkp_ M)))), (r 25, .inl (cI, 7, .inl (mof_ M))), (r 26, .inl (cI, 7, .inl (mfa_ M))), (r 30, .inl (cI, 12, .inl (mrw_ M))), (r 32, .inl (cI, 8, .inl (mhb_ M)))]) := hD
        refine rMi hx hb hr hlk hS (rfm_ M (f2_ (uk_ w 5) (f2_ (uk_ q 1) (ob_ v 0 99)))) hP ?_ dX5_newShore_40
        first | exact ⟨(if_neg c_31).symm, oQ_n _ _⟩ | (refine ⟨?_, oQ_0 c_31 ?_⟩; · (rw [if_pos c_31]; simp only [tn_n (show v_ < 2147483648 by omega)]; first | (rw [npX_7 (by omega)]; done) | (rw [npX_eq (by omega) (by omega), show i = 31 by omega]; first | (rw [if_pos c_120]; done) | (rw [if_neg c_120]; done) | (rw [if_pos c_120]; rfl) | (rw [if_neg c_120]; rfl))); · (first | exact (oN_mk (by assumption)).m | exact oM_.rf _ | exact (oN_pp _ _).m | exact (oN_fo _ _ _ _).m | assumption | (apply oN_.m; assumption) | exact oM_.tr (by assumption) (by assumption)))
  refine lv_iload_n hx hb dX5_newShore_0 rfl (lv_at hl 1 rfl) ?_
  refine lv_iconst (v := 0) hx hb dX5_newShore_1 (by decide) ?_
  refine lv_iconst (v := 5) hx hb dX5_newShore_2 (by decide) ?_
  refine kSiS hx hb hml hown hts hK hP gX5_newShore_X5_isIn okX5_isIn (qX5_isIn l D cI cB w 0 5 ) [] rfl (by decide) hl.1 rfl rfl (Nat.le_of_ble_eq_true rfl) dX5_newShore_3 (by decide) (fun r_9 hr_10 => ?_)
  replace hr_10 : r_9 = b1 (0 ≤ w ∧ w ≤ 5) := hr_10
  subst r_9
  refine lv_if_eq (tgt := 18) hx hb dX5_newShore_6 (by decide) (fun c_6 => ?_) (fun c_6 => ?_)
  · replace c_6 := b1_z c_6
    refine lv_bipush (v := (-2)) hx hb dX5_newShore_18 (by decide) ?_
    refine lv_goto (tgt := 27) hx hb dX5_newShore_20 (by decide) ?_
    refine lv_istore (lv' := [(4, .int (-2)), (0, .ref (r 0)), (1, .int w), (2, .int v), (3, .int q)]) hx hb dX5_newShore_27 hl (by decide) rfl (fun ls hl => ?_)
    exact jn_29  (-2)  (by first | exact ((f2_a (by rw [uk_o c_6]; decide)).trans (uk_o c_6)).symm | exact ((f2_b (uk_i c_6)).trans ((f2_a (by rw [uk_o c_15]; decide)).trans (uk_o c_15))).symm | exact ((f2_b (uk_i c_6)).trans (f2_b (uk_i c_15))).symm)   _ _ hP hD hS ls (lv_sub hl [0, 1, 2, 3, 4] rfl)
  · replace c_6 := b1_n c_6
    refine lv_iload_n hx hb dX5_newShore_9 rfl (lv_at hl 3 rfl) ?_
    refine lv_iconst (v := 0) hx hb dX5_newShore_10 (by decide) ?_
    refine lv_iconst (v := 1) hx hb dX5_newShore_11 (by decide) ?_
    refine kSiS hx hb hml hown hts hK hP gX5_newShore_X5_isIn okX5_isIn (qX5_isIn l D cI cB q 0 1 ) [] rfl (by decide) hl.1 rfl rfl (Nat.le_of_ble_eq_true rfl) dX5_newShore_12 (by decide) (fun r_11 hr_12 => ?_)
    replace hr_12 : r_11 = b1 (0 ≤ q ∧ q ≤ 1) := hr_12
    subst r_11
    refine lv_if_ne (tgt := 23) hx hb dX5_newShore_15 (by decide) (fun c_15 => ?_) (fun c_15 => ?_)
    · replace c_15 := b1_n c_15
      refine lv_iload_n hx hb dX5_newShore_23 rfl (lv_at hl 2 rfl) ?_
      refine kSiS hx hb hml hown hts hK hP gX5_newShore_X5_notHours okX5_notHours (qX5_notHours l D cI cB v ) [] rfl (by decide) hl.1 rfl rfl (Nat.le_of_ble_eq_true rfl) dX5_newShore_24 (by decide) (fun r_13 hr_14 => ?_)
      replace hr_14 : r_13 = ob_ v 0 99 := hr_14
      subst r_13
      refine lv_istore (lv' := [(4, .int (ob_ v 0 99)), (0, .ref (r 0)), (1, .int w), (2, .int v), (3, .int q)]) hx hb dX5_newShore_27 hl (by decide) rfl (fun ls hl => ?_)
      exact jn_29  (ob_ v 0 99)  (by first | exact ((f2_a (by rw [uk_o c_6]; decide)).trans (uk_o c_6)).symm | exact ((f2_b (uk_i c_6)).trans ((f2_a (by rw [uk_o c_15]; decide)).trans (uk_o c_15))).symm | exact ((f2_b (uk_i c_6)).trans (f2_b (uk_i c_15))).symm)   _ _ hP hD hS ls (lv_sub hl [0, 1, 2, 3, 4] rfl)
    · replace c_15 := b1_z c_15
      refine lv_bipush (v := (-2)) hx hb dX5_newShore_18 (by decide) ?_
      refine lv_goto (tgt := 27) hx hb dX5_newShore_20 (by decide) ?_
      refine lv_istore (lv' := [(4, .int (-2)), (0, .ref (r 0)), (1, .int w), (2, .int v), (3, .int q)]) hx hb dX5_newShore_27 hl (by decide) rfl (fun ls hl => ?_)
      exact jn_29  (-2)  (by first | exact ((f2_a (by rw [uk_o c_6]; decide)).trans (uk_o c_6)).symm | exact ((f2_b (uk_i c_6)).trans ((f2_a (by rw [uk_o c_15]; decide)).trans (uk_o c_15))).symm | exact ((f2_b (uk_i c_6)).trans (f2_b (uk_i c_15))).symm)   _ _ hP hD hS ls (lv_sub hl [0, 1, 2, 3, 4] rfl)

theorem okX5_which : jok yX5_which wsX5_which cX5_which 4 (some .int) 2 := ⟨⟨_, rfl⟩, by decide +kernel, by decide +kernel⟩
set_option maxHeartbeats 2000000 in
set_option maxRecDepth 100000 in
theorem qX5_which (l : Launch) (D : va_G) (cI cB : ClassId) (r : Nat → Nat) (B : BayT) (M : MT) (a : Int32) (q : Int32) (hI : bI_ B) (hrm : mrm_ M ≤ 12) : jMi D cI cB l yX5_which wsX5_which 8 [.ref (r 0), .int a, .int q] (mW cI r B M) (S := MT) (fun r u => r = (if f2_ (nb_ a (nI (sn_ B))) (uk_ q 2) = 0 then gbX_ B (tn_ a) q (mrw_ M) (mrm_ M) else f2_ (nb_ a (nI (sn_ B))) (uk_ q 2)) ∧ oQ_ M u (f2_ (nb_ a (nI (sn_ B))) (uk_ q 2))) (fun u => mW cI r B u) := by
  refine jMi.of (cc := cX5_which) (maxL := 4) (ret := (some .int)) okX5_which (Nat.le_of_ble_eq_true rfl) ?_
  intro p e s m below meth c ls A hx hb hr hts hown hlk hml hP hK hD hA hS hl
  replace hown : s.vm.findClass RX5 = some m.cls := hown
  replace hl : lv_has ls 4 [(0, .ref (r 0)), (1, .int a), (2, .int q)] := hl
  have hn7 := hI.1
  have hinX5 : ∀ w ∈ wsX50, w ∈ wsX5_which := by decide +kernel
  have jn_28 : ∀  (x3_28 : Int32) , (x3_28 = f2_ (nb_ a (nI (sn_ B))) (uk_ q 2)) → ∀ (H : Heap) (locs : List Loc), va_P D vwCl (mW cI r B M) H → va_D A (mW cI r B M) → va_S A s.heap H locs → ∀ ls : Array Slot, lv_has ls 4 [(3, .int x3_28), (0, .ref (r 0)), (1, .int a), (2, .int q)] → W p l e (jR 8) s m ([.ref (r 0), .int a, .int q] : List Value).toArray below meth c H locs 0 0 (MQ below (va_Qi (S := MT) (fun r u => r = (if f2_ (nb_ a (nI (sn_ B))) (uk_ q 2) = 0 then gbX_ B (tn_ a) q (mrw_ M) (mrm_ M) else f2_ (nb_ a (nI (sn_ B))) (uk_ q 2)) ∧ oQ_ M u (f2_ (nb_ a (nI (sn_ B))) (uk_ q 2))) (fun u t => va_P D vwCl ((fun u => mW cI r B u) u) t.heap) A) ([.ref (r 0), .int a, .int q] : List Value).toArray s 0 0 A) (F0 m 28 ls []) := by
      intro x3_28 hx3_28 H locs hP hD hS ls hl
      subst x3_28
      replace hl : lv_has ls 4 [(3, .int (f2_ (nb_ a (nI (sn_ B))) (uk_ q 2))), (0, .ref (r 0)), (1, .int a), (2, .int q)] := hl
      replace hP : va_P D vwCl (mW cI r B M) H := hP
      replace hD : va_D A (mW cI r B M) := hD
      refine lv_iload_n hx hb dX5_which_28 rfl (lv_at hl 0 rfl) ?_
      refine lv_if_eq (tgt := 38) hx hb dX5_which_29 (by decide) (fun c_29 => ?_) (fun c_29 => ?_)
      · skip
        have w0 := c_29
        simp only [wS_, wSN_, wSNW_, wNW_, wTh_, wTr_, f2_0, nb_0, ob_0, uk_0, lo_0, hi_0] at w0
        obtain ⟨a_, ha_, rfl⟩ := pl_lt (n := sn_ B) (by omega) w0.1
        replace hl : lv_has ls 4 [(3, .int (f2_ (nb_ (nI a_) (nI (sn_ B))) (uk_ q 2))), (0, .ref (r 0)), (1, .int (nI a_)), (2, .int q)] := hl
        refine lv_iload_n hx hb dX5_which_38 rfl (lv_at hl 3 rfl) ?_
        refine lv_if_ne (tgt := 56) hx hb dX5_which_39 (by decide) (fun c_39 => ?_) (fun c_39 => ?_)
        · skip
          refine lv_iload_n hx hb dX5_which_56 rfl (lv_at hl 3 rfl) ?_
          refine lv_iconst (v := 1) hx hb dX5_which_57 (by decide) ?_
          refine lv_icmp_ne (tgt := 75) hx hb dX5_which_58 (by decide) (fun c_58 => ?_) (fun c_58 => ?_)
          · skip
            refine lv_aload_n hx hb dX5_which_75 rfl (lv_at hl 1 rfl) ?_
            refine kMiV hx hb hml hown hts hK hP hD hA hS gX5_which_X5_pacesSo okX5_pacesSo (qX5_pacesSo l D cI cB r B M hI hrm) [0, 1, 2, 3, 4, 5, 6, 7, 8, 9, 10, 11, 12, 13, 14, 15] rfl (by decide) (fun _ => mW_adr _ _ _ _ _ _) rfl rfl rfl (by decide) hl.1 rfl rfl (Nat.le_of_ble_eq_true rfl) dX5_which_76 (by decide) (fun r_1 u_2 H locs hw_3 hP hD hS => ?_)
            replace hw_3 : r_1 = gb_ B 0 2 (mrw_ M) (mrm_ M) 1 5 ∧ oN_ M u_2 := hw_3
            obtain ⟨hw_3a, hw_3b⟩ := hw_3
            subst r_1
            replace hP : va_P D vwCl (mW cI r B u_2) H := hP
            replace hD : va_D A (mW cI r B u_2) := hD
            refine rMi hx hb hr hlk hS u_2 hP ?_ dX5_which_79
            first | exact ⟨(if_neg c_29).symm, oQ_n _ _⟩ | (refine ⟨?_, oQ_0 c_29 ?_⟩; · (rw [if_pos c_29]; simp only [tn_n (show a_ < 2147483648 by omega)]; unfold gbX_; first | (rw [if_pos c_39]; done) | (rw [if_pos c_39]; rfl) | (rw [if_neg c_39, if_pos c_58]; done) | (rw [if_neg c_39, if_pos c_58]; rfl) | (rw [if_neg c_39, if_neg c_58, q2_ w0.2 c_39 c_58]; exact gb_k _ _ _ _ _ _ _)); · (first | exact (oN_mk (by assumption)).m | exact oM_.rf _ | exact (oN_pp _ _).m | exact (oN_fo _ _ _ _).m | assumption | (apply oN_.m; assumption) | exact oM_.tr (by assumption) (by assumption)))
          · skip
            refine lv_aload_n hx hb dX5_which_61 rfl (lv_at hl 1 rfl) ?_
            refine lv_aload_n hx hb dX5_which_62 rfl (lv_at hl 1 rfl) ?_
            refine va_get (ci := 5) (C := RX5) (T := TX5) (N := 33) hx hb hts hinX5 hown hK.1 hP 0 rfl rfl 2 (by decide) (hts _ (List.mem_of_getElem? (i := 2) rfl)) (fun _ h9 => h9) rfl dX5_which_63 ?_
            refine lv_iload_n hx hb dX5_which_66 rfl (lv_at hl 2 rfl) ?_
            refine lv_bipush (v := 10) hx hb dX5_which_67 (by decide) ?_
            refine kMiV hx hb hml hown hts hK hP hD hA hS gX5_which_X5_bitsFor okX5_bitsFor (qX5_bitsForF l D cI cB r B M a_ 10 hI ha_ hrm (by decide)) [0, 1, 2, 3, 4, 5, 6, 7, 8, 9, 10, 11, 12, 13, 14, 15] rfl (by decide) (fun _ => mW_adr _ _ _ _ _ _) rfl rfl rfl (by decide) hl.1 rfl rfl (Nat.le_of_ble_eq_true rfl) dX5_which_69 (by decide) (fun r_4 u_5 H locs hw_6 hP hD hS => ?_)
            replace hw_6 : r_4 = gb_ B a_ 1 (mrw_ M) (mrm_ M) 0 m ∧ oN_ M u_5 := hw_6
            obtain ⟨hw_6a, hw_6b⟩ := hw_6
            subst r_4
            replace hP : va_P D vwCl (mW cI r B u_5) H := hP
            replace hD : va_D A (mW cI r B u_5) := hD
            refine lv_goto (tgt := 79) hx hb dX5_which_72 (by decide) ?_
            refine rMi hx hb hr hlk hS u_5 hP ?_ dX5_which_79
            first | exact ⟨(if_neg c_29).symm, oQ_n _ _⟩ | (refine ⟨?_, oQ_0 c_29 ?_⟩; · (rw [if_pos c_29]; simp only [tn_n (show a_ < 2147483648 by omega)]; unfold gbX_; first | (rw [if_pos c_39]; done) | (rw [if_pos c_39]; rfl) | (rw [if_neg c_39, if_pos c_58]; done) | (rw [if_neg c_39, if_pos c_58]; rfl) | (rw [if_neg c_39, if_neg c_58, q2_ w0.2 c_39 c_58]; exact gb_k _ _ _ _ _ _ _)); · (first | exact (oN_mk (by assumption)).m | exact oM_.rf _ | exact (oN_pp _ _).m | exact (oN_fo _ _ _ _).m | assumption | (apply oN_.m; assumption) | exact oM_.tr (by assumption) (by assumption)))
        · skip
          refine lv_aload_n hx hb dX5_which_42 rfl (lv_at hl 1 rfl) ?_
          refine lv_aload_n hx hb dX5_which_43 rfl (lv_at hl 1 rfl) ?_
          refine va_get (ci := 5) (C := RX5) (T := TX5) (N := 33) hx hb hts hinX5 hown hK.1 hP 0 rfl rfl 1 (by decide) (hts _ (List.mem_of_getElem? (i := 1) rfl)) (fun _ h9 => h9) rfl dX5_which_44 ?_
          refine lv_iload_n hx hb dX5_which_47 rfl (lv_at hl 2 rfl) ?_
          refine lv_bipush (v := 6) hx hb dX5_which_48 (by decide) ?_
          refine kMiV hx hb hml hown hts hK hP hD hA hS gX5_which_X5_bitsFor okX5_bitsFor (qX5_bitsForK l D cI cB r B M a_ 6 hI ha_ hrm (by decide)) [0, 1, 2, 3, 4, 5, 6, 7, 8, 9, 10, 11, 12, 13, 14, 15] rfl (by decide) (fun _ => mW_adr _ _ _ _ _ _) rfl rfl rfl (by decide) hl.1 rfl rfl (Nat.le_of_ble_eq_true rfl) dX5_which_50 (by decide) (fun r_7 u_8 H locs hw_9 hP hD hS => ?_)
          replace hw_9 : r_7 = gb_ B a_ 0 (mrw_ M) (mrm_ M) 0 m ∧ oN_ M u_8 := hw_9
          obtain ⟨hw_9a, hw_9b⟩ := hw_9
          subst r_7
          replace hP : va_P D vwCl (mW cI r B u_8) H := hP
          replace hD : va_D A (mW cI r B u_8) := hD
          refine lv_goto (tgt := 79) hx hb dX5_which_53 (by decide) ?_
          refine rMi hx hb hr hlk hS u_8 hP ?_ dX5_which_79
          first | exact ⟨(if_neg c_29).symm, oQ_n _ _⟩ | (refine ⟨?_, oQ_0 c_29 ?_⟩; · (rw [if_pos c_29]; simp only [tn_n (show a_ < 2147483648 by omega)]; unfold gbX_; first | (rw [if_pos c_39]; done) | (rw [if_pos c_39]; rfl) | (rw [if_neg c_39, if_pos c_58]; done) | (rw [if_neg c_39, if_pos c_58]; rfl) | (rw [if_neg c_39, if_neg c_58, q2_ w0.2 c_39 c_58]; exact gb_k _ _ _ _ _ _ _)); · (first | exact (oN_mk (by assumption)).m | exact oM_.rf _ | exact (oN_pp _ _).m | exact (oN_fo _ _ _ _).m | assumption | (apply oN_.m; assumption) | exact oM_.tr (by assumption) (by assumption)))
      · skip
        refine lv_aload_n hx hb dX5_which_32 rfl (lv_at hl 1 rfl) ?_
        refine lv_iload_n hx hb dX5_which_33 rfl (lv_at hl 0 rfl) ?_
        refine kMiV hx hb hml hown hts hK hP hD hA hS gX5_which_X5_no okX5_no (qX5_no l D cI cB r B M (f2_ (nb_ a (nI (sn_ B))) (uk_ q 2)) (rc0_n (by first | exact rc0_wS _ _ | exact rc0_wSN _ _ _ | exact rc0_wSNW _ _ _ _ | exact rc0_wNW _ _ | exact rc0_wTh _ _ _ _ _ | exact rc0_wTr _ _ _ _ | exact rc0_nb _ _ | exact rc0_uk _ _ | exact rc0_ob _ _ _ | exact rc0_f2 (rc0_nb _ _) (rc0_nb _ _) | exact rc0_f2 (rc0_nb _ _) (rc0_uk _ _) | exact rc0_f2 (rc0_ob _ _ _) (rc0_uk _ _) | exact rc0_f2 (rc0_uk _ _) (rc0_f2 (rc0_uk _ _) (rc0_ob _ _ _))) c_29)) [0, 1, 2, 3, 4, 5, 6, 7, 8, 9, 10, 11, 12, 13, 14, 15] rfl (by decide) (fun _ => mW_adr _ _ _ _ _ _) rfl rfl rfl (by decide) hl.1 rfl rfl (Nat.le_of_ble_eq_true rfl) dX5_which_34 (by decide) (fun r_10 u_11 H locs hw_12 hP hD hS => ?_)
        replace hw_12 : r_10 = f2_ (nb_ a (nI (sn_ B))) (uk_ q 2) ∧ u_11 = (rfm_ M (f2_ (nb_ a (nI (sn_ B))) (uk_ q 2))) := hw_12
        obtain ⟨hw_12a, hw_12b⟩ := hw_12
        subst r_10
        subst u_11
        replace hP : va_P D vwCl ([(r 0, .inr (5, [.ref (r 1), .ref (r 2), .ref (r 3), .ref (r 4), .ref (r 5), .ref (r 6), .int (nI (sn_ B)), .int (qt_ B), .int (il_ B), .int (pa_ B), .int (ho_ B), .int (dy_ B), .ref (r 13), .ref (r 14), .ref (r 15), .ref (r 16), .int (nI (mtn_ M)), .int (nI (mrd_ M)), .int (nI (msm_ M)), .ref (r 20), .int (mhi_ M), .int (mik_ M), .int (nI (mcu_ M)), .int (nI (mbk_ M)), .ref (r 25), .ref (r 26), .int (mlw_ M), .int (mhg_ M), .int (msl_ M), .ref (r 30), .int (nI (mrm_ M)), .ref (r 32), .int (mlo_ M)])), (r 1, .inl (cI, 7, .inl (rfx_ (mrf_ M) (f2_ (nb_ a (nI (sn_ B))) (uk_ q 2))))), (r 2, .inl (cI, 7, .inl (kd_ B))), (r 3, .inl (cI, 7, .inl (fg_ B))), (r 4, .inl (cI, 7, .inl (pl_ B))), (r 5, .inl (cI, 7, .inl (pw_ B))), (r 6, .inl (cI, 7, .inl (jy_ B))), (r 13, .inl (cI, 96, .inl (mtp_ M))), (r 14, .inl (cI, 48, .inl (mlt_ M))), (r 15, .inl (cI, 48, .inl (mla_ M))), (r 16, .inl (cI, 144, .inl (mtd_ M))), (r 20, .inl (cI, 451, .inl (flatK (mkp_ M)))), (r 25, .inl (cI, 7, .inl (mof_ M))), (r 26, .inl (cI, 7, .inl (mfa_ M))), (r 30, .inl (cI, 12, .inl (mrw_ M))), (r 32, .inl (cI, 8, .inl (mhb_ M)))]) H := hP
        replace hD : va_D A ([(r 0, .inr (5, [.ref (r 1), .ref (r 2), .ref (r 3), .ref (r 4), .ref (r 5), .ref (r 6), .int (nI (sn_ B)), .int (qt_ B), .int (il_ B), .int (pa_ B), .int (ho_ B), .int (dy_ B), .ref (r 13), .ref (r 14), .ref (r 15), .ref (r 16), .int (nI (mtn_ M)), .int (nI (mrd_ M)), .int (nI (msm_ M)), .ref (r 20), .int (mhi_ M), .int (mik_ M), .int (nI (mcu_ M)), .int (nI (mbk_ M)), .ref (r 25), .ref (r 26), .int (mlw_ M), .int (mhg_ M), .int (msl_ M), .ref (r 30), .int (nI (mrm_ M)), .ref (r 32), .int (mlo_ M)])), (r 1, .inl (cI, 7, .inl (rfx_ (mrf_ M) (f2_ (nb_ a (nI (sn_ B))) (uk_ q 2))))), (r 2, .inl (cI, 7, .inl (kd_ B))), (r 3, .inl (cI, 7, .inl (fg_ B))), (r 4, .inl (cI, 7, .inl (pl_ B))), (r 5, .inl (cI, 7, .inl (pw_ B))), (r 6, .inl (cI, 7, .inl (jy_ B))), (r 13, .inl (cI, 96, .inl (mtp_ M))), (r 14, .inl (cI, 48, .inl (mlt_ M))), (r 15, .inl (cI, 48, .inl (mla_ M))), (r 16, .inl (cI, 144, .inl (mtd_ M))), (r 20, .inl (cI, 451, .inl (flatK (mkp_ M)))), (r 25, .inl (cI, 7, .inl (mof_ M))), (r 26, .inl (cI, 7, .inl (mfa_ M))), (r 30, .inl (cI, 12, .inl (mrw_ M))), (r 32, .inl (cI, 8, .inl (mhb_ M)))]) := hD
        refine rMi hx hb hr hlk hS (rfm_ M (f2_ (nb_ a (nI (sn_ B))) (uk_ q 2))) hP ?_ dX5_which_37
        first | exact ⟨(if_neg c_29).symm, oQ_n _ _⟩ | (refine ⟨?_, oQ_0 c_29 ?_⟩; · (rw [if_pos c_29]; simp only [tn_n (show a_ < 2147483648 by omega)]; unfold gbX_; first | (rw [if_pos c_39]; done) | (rw [if_pos c_39]; rfl) | (rw [if_neg c_39, if_pos c_58]; done) | (rw [if_neg c_39, if_pos c_58]; rfl) | (rw [if_neg c_39, if_neg c_58, q2_ w0.2 c_39 c_58]; exact gb_k _ _ _ _ _ _ _)); · (first | exact (oN_mk (by assumption)).m | exact oM_.rf _ | exact (oN_pp _ _).m | exact (oN_fo _ _ _ _).m | assumption | (apply oN_.m; assumption) | exact oM_.tr (by assumption) (by assumption)))
  refine lv_aload_n hx hb dX5_which_0 rfl (lv_at hl 0 rfl) ?_
  refine lv_iload_n hx hb dX5_which_1 rfl (lv_at hl 1 rfl) ?_
  refine kSiV hx hb hml hown hts hK hP gX5_which_X5_isShore okX5_isShore (qX5_isShore l D cI cB r B M a (by show sn_ B ≤ 7; omega)) [0, 1, 2, 3, 4, 5, 6, 7, 8, 9, 10, 11, 12, 13, 14, 15] rfl rfl rfl rfl (by decide) hl.1 rfl rfl (Nat.le_of_ble_eq_true rfl) dX5_which_2 (by decide) (fun r_13 hr_14 => ?_)
  replace hr_14 : r_13 = b1 (0 ≤ a ∧ a < nI (sn_ B)) := hr_14
  subst r_13
  refine lv_if_ne (tgt := 12) hx hb dX5_which_5 (by decide) (fun c_5 => ?_) (fun c_5 => ?_)
  · replace c_5 := b1_n c_5
    refine lv_iload_n hx hb dX5_which_12 rfl (lv_at hl 2 rfl) ?_
    refine lv_iconst (v := 0) hx hb dX5_which_13 (by decide) ?_
    refine lv_iconst (v := 2) hx hb dX5_which_14 (by decide) ?_
    refine kSiS hx hb hml hown hts hK hP gX5_which_X5_isIn okX5_isIn (qX5_isIn l D cI cB q 0 2 ) [] rfl (by decide) hl.1 rfl rfl (Nat.le_of_ble_eq_true rfl) dX5_which_15 (by decide) (fun r_15 hr_16 => ?_)
    replace hr_16 : r_15 = b1 (0 ≤ q ∧ q ≤ 2) := hr_16
    subst r_15
    refine lv_if_ne (tgt := 26) hx hb dX5_which_18 (by decide) (fun c_18 => ?_) (fun c_18 => ?_)
    · replace c_18 := b1_n c_18
      refine lv_iconst (v := 0) hx hb dX5_which_26 (by decide) ?_
      refine lv_istore_n (lv' := [(3, .int 0), (0, .ref (r 0)), (1, .int a), (2, .int q)]) hx hb dX5_which_27 rfl hl (by decide) rfl (fun ls hl => ?_)
      exact jn_28  0  (by first | exact ((f2_a (by rw [nb_o c_5]; decide)).trans (nb_o c_5)).symm | exact ((f2_b (nb_i c_5)).trans (uk_o c_18)).symm | exact ((f2_b (nb_i c_5)).trans (uk_i c_18)).symm)   _ _ hP hD hS ls (lv_sub hl [0, 1, 2, 3] rfl)
    · replace c_18 := b1_z c_18
      refine lv_bipush (v := (-2)) hx hb dX5_which_21 (by decide) ?_
      refine lv_goto (tgt := 27) hx hb dX5_which_23 (by decide) ?_
      refine lv_istore_n (lv' := [(3, .int (-2)), (0, .ref (r 0)), (1, .int a), (2, .int q)]) hx hb dX5_which_27 rfl hl (by decide) rfl (fun ls hl => ?_)
      exact jn_28  (-2)  (by first | exact ((f2_a (by rw [nb_o c_5]; decide)).trans (nb_o c_5)).symm | exact ((f2_b (nb_i c_5)).trans (uk_o c_18)).symm | exact ((f2_b (nb_i c_5)).trans (uk_i c_18)).symm)   _ _ hP hD hS ls (lv_sub hl [0, 1, 2, 3] rfl)
  · replace c_5 := b1_z c_5
    refine lv_iconst (v := (-1)) hx hb dX5_which_8 (by decide) ?_
    refine lv_goto (tgt := 27) hx hb dX5_which_9 (by decide) ?_
    refine lv_istore_n (lv' := [(3, .int (-1)), (0, .ref (r 0)), (1, .int a), (2, .int q)]) hx hb dX5_which_27 rfl hl (by decide) rfl (fun ls hl => ?_)
    exact jn_28  (-1)  (by first | exact ((f2_a (by rw [nb_o c_5]; decide)).trans (nb_o c_5)).symm | exact ((f2_b (nb_i c_5)).trans (uk_o c_18)).symm | exact ((f2_b (nb_i c_5)).trans (uk_i c_18)).symm)   _ _ hP hD hS ls (lv_sub hl [0, 1, 2, 3] rfl)

theorem okX5_treaty : jok yX5_treaty wsX5_treaty cX5_treaty 7 (some .int) 3 := ⟨⟨_, rfl⟩, by decide +kernel, by decide +kernel⟩
set_option maxHeartbeats 2000000 in
set_option maxRecDepth 100000 in
theorem qX5_treaty (l : Launch) (D : va_G) (cI cB : ClassId) (r : Nat → Nat) (B : BayT) (M : MT) (a : Int32) (b : Int32) (q : Int32) (hI : bI_ B) : jMi D cI cB l yX5_treaty wsX5_treaty 8 [.ref (r 0), .int a, .int b, .int q] (mW cI r B M) (S := MT) (fun r u => r = (if wTr_ (sn_ B) a b q = 0 then trX_ B (tn_ a) (tn_ b) q else wTr_ (sn_ B) a b q) ∧ oQ_ M u (wTr_ (sn_ B) a b q)) (fun u => mW cI r B u) := by
  refine jMi.of (cc := cX5_treaty) (maxL := 7) (ret := (some .int)) okX5_treaty (Nat.le_of_ble_eq_true rfl) ?_
  intro p e s m below meth c ls A hx hb hr hts hown hlk hml hP hK hD hA hS hl
  replace hown : s.vm.findClass RX5 = some m.cls := hown
  replace hl : lv_has ls 7 [(0, .ref (r 0)), (1, .int a), (2, .int b), (3, .int q)] := hl
  have hn7 := hI.1
  have hinX5 : ∀ w ∈ wsX50, w ∈ wsX5_treaty := by decide +kernel
  have jn_42 : ∀  (x4_42 : Int32) , (x4_42 = wTr_ (sn_ B) a b q) → ∀ (H : Heap) (locs : List Loc), va_P D vwCl (mW cI r B M) H → va_D A (mW cI r B M) → va_S A s.heap H locs → ∀ ls : Array Slot, lv_has ls 7 [(4, .int x4_42), (0, .ref (r 0)), (1, .int a), (2, .int b), (3, .int q)] → W p l e (jR 8) s m ([.ref (r 0), .int a, .int b, .int q] : List Value).toArray below meth c H locs 0 0 (MQ below (va_Qi (S := MT) (fun r u => r = (if wTr_ (sn_ B) a b q = 0 then trX_ B (tn_ a) (tn_ b) q else wTr_ (sn_ B) a b q) ∧ oQ_ M u (wTr_ (sn_ B) a b q)) (fun u t => va_P D vwCl ((fun u => mW cI r B u) u) t.heap) A) ([.ref (r 0), .int a, .int b, .int q] : List Value).toArray s 0 0 A) (F0 m 42 ls []) := by
      intro x4_42 hx4_42 H locs hP hD hS ls hl
      subst x4_42
      replace hl : lv_has ls 7 [(4, .int (wTr_ (sn_ B) a b q)), (0, .ref (r 0)), (1, .int a), (2, .int b), (3, .int q)] := hl
      replace hP : va_P D vwCl (mW cI r B M) H := hP
      replace hD : va_D A (mW cI r B M) := hD
      refine lv_iload hx hb dX5_treaty_42 (lv_at hl 0 rfl) ?_
      refine lv_if_eq (tgt := 54) hx hb dX5_treaty_44 (by decide) (fun c_44 => ?_) (fun c_44 => ?_)
      · skip
        have w0 := c_44
        simp only [wS_, wSN_, wSNW_, wNW_, wTh_, wTr_, f2_0, nb_0, ob_0, uk_0, lo_0, hi_0] at w0
        obtain ⟨a_, ha_, rfl⟩ := pl_lt (n := sn_ B) (by omega) w0.1.1
        obtain ⟨b_, hb_, rfl⟩ := pl_lt (n := sn_ B) (by omega) w0.1.2
        replace hl : lv_has ls 7 [(4, .int (wTr_ (sn_ B) (nI a_) (nI b_) q)), (0, .ref (r 0)), (1, .int (nI a_)), (2, .int (nI b_)), (3, .int q)] := hl
        refine lv_aload_n hx hb dX5_treaty_54 rfl (lv_at hl 1 rfl) ?_
        refine lv_iload_n hx hb dX5_treaty_55 rfl (lv_at hl 2 rfl) ?_
        refine lv_iload_n hx hb dX5_treaty_56 rfl (lv_at hl 3 rfl) ?_
        refine kMvV hx hb hml hown hts hK hP hD hA hS gX5_treaty_X5_findTreaty okX5_findTreaty (qX5_findTreaty l D cI cB r B M a_ b_ hI ha_ hb_) [0, 1, 2, 3, 4, 5, 6, 7, 8, 9, 10, 11, 12, 13, 14, 15] rfl (by decide) (fun _ => mW_adr _ _ _ _ _ _) rfl rfl rfl (by decide) hl.1 rfl rfl (Nat.le_of_ble_eq_true rfl) dX5_treaty_57 (by decide) (fun u_2 H locs hw_3 hP hD hS => ?_)
        obtain ⟨hNu, hTu⟩ := hw_3
        replace hP : va_P D vwCl (mW cI r B u_2) H := hP
        replace hD : va_D A (mW cI r B u_2) := hD
        refine lv_iconst (v := 0) hx hb dX5_treaty_60 (by decide) ?_
        refine lv_istore (lv' := [(5, .int 0), (4, .int (wTr_ (sn_ B) (nI a_) (nI b_) q)), (0, .ref (r 0)), (1, .int (nI a_)), (2, .int (nI b_)), (3, .int q)]) hx hb dX5_treaty_61 hl (by decide) rfl (fun ls hl => ?_)
        have lp_63 : ∀ (fu_63 : Nat) (i : Nat) (x5_63 : Int32) , (x5_63 = nI i) → (i ≤ 4) → (i = 0 ∨ ¬ q = 1) → (fz_ (fun j => tc_ (tt_ B a_ b_ j) a_ 12) (fun j => tc_ (tt_ B a_ b_ j) b_ 12) (4 - i) i = fz_ (fun j => tc_ (tt_ B a_ b_ j) a_ 12) (fun j => tc_ (tt_ B a_ b_ j) b_ 12) 4 0) → 4 - i < fu_63 → ∀ (H : Heap) (locs : List Loc), va_P D vwCl (mW cI r B u_2) H → va_D A (mW cI r B u_2) → va_S A s.heap H locs → ∀ ls : Array Slot, lv_has ls 7 [(5, .int x5_63), (4, .int (wTr_ (sn_ B) (nI a_) (nI b_) q)), (0, .ref (r 0)), (1, .int (nI a_)), (2, .int (nI b_)), (3, .int q)] → W p l e (jR 8) s m ([.ref (r 0), .int (nI a_), .int (nI b_), .int q] : List Value).toArray below meth c H locs 0 0 (MQ below (va_Qi (S := MT) (fun r u => r = (if wTr_ (sn_ B) (nI a_) (nI b_) q = 0 then trX_ B (tn_ (nI a_)) (tn_ (nI b_)) q else wTr_ (sn_ B) (nI a_) (nI b_) q) ∧ oQ_ M u (wTr_ (sn_ B) (nI a_) (nI b_) q)) (fun u t => va_P D vwCl ((fun u => mW cI r B u) u) t.heap) A) ([.ref (r 0), .int (nI a_), .int (nI b_), .int q] : List Value).toArray s 0 0 A) (F0 m 63 ls []) := by
          intro fu_63
          induction fu_63 with
          | zero => intro i x5_63 hx5_63 hi hq1 hre hfu; exact absurd hfu (Nat.not_lt_zero _)
          | succ fu_63 ih_63 =>
            intro i x5_63 hx5_63 hi hq1 hre hfu_63 H locs hP hD hS ls hl
            subst x5_63
            replace hl : lv_has ls 7 [(5, .int (nI i)), (4, .int (wTr_ (sn_ B) (nI a_) (nI b_) q)), (0, .ref (r 0)), (1, .int (nI a_)), (2, .int (nI b_)), (3, .int q)] := hl
            replace hP : va_P D vwCl (mW cI r B u_2) H := hP
            replace hD : va_D A (mW cI r B u_2) := hD
            refine lv_iload hx hb dX5_treaty_63 (lv_at hl 0 rfl) ?_
            refine lv_iconst (v := 4) hx hb dX5_treaty_65 (by decide) ?_
            refine lv_icmp_ge (tgt := 166) hx hb dX5_treaty_66 (by decide) (fun c_66 => ?_) (fun c_66 => ?_)
            · replace c_66 : nI 4 ≤ nI i := c_66
              rw [jle (by omega) (by omega)] at c_66
              refine lv_bipush (v := (-9)) hx hb dX5_treaty_166 (by decide) ?_
              refine rMi hx hb hr hlk hS u_2 hP ?_ dX5_treaty_168
              first | exact ⟨(if_neg c_44).symm, oQ_n _ _⟩ | (refine ⟨?_, oQ_0 c_44 hNu.m⟩; rw [if_pos c_44]; simp only [tn_n (show a_ < 2147483648 by omega), tn_n (show b_ < 2147483648 by omega)]; unfold trX_; first | (have e0 : i = 0 := hq1.elim id (fun z => absurd c_128 z); subst e0; rw [if_pos c_128]; first | exact (b1_t c_133).symm | exact (b1_f c_133).symm) | (rw [if_neg c_128, ← hre, fz_s (by omega), if_pos c_144]; rfl) | (rw [if_neg (hq1.elim (fun z => by omega) id), ← hre, fz_0 (by omega)]; rfl))
            · replace c_66 : ¬ nI 4 ≤ nI i := c_66
              rw [jle (by omega) (by omega)] at c_66
              have jn_124 : ∀   (y9 : Int32), (y9 = b1 (tp_ (fun j => tc_ (tt_ B a_ b_ j) a_ 12) (fun j => tc_ (tt_ B a_ b_ j) b_ 12) i)) → ∀ (H : Heap) (locs : List Loc), va_P D vwCl (mW cI r B u_2) H → va_D A (mW cI r B u_2) → va_S A s.heap H locs → ∀ ls : Array Slot, lv_has ls 7 [(5, .int (nI i)), (4, .int (wTr_ (sn_ B) (nI a_) (nI b_) q)), (0, .ref (r 0)), (1, .int (nI a_)), (2, .int (nI b_)), (3, .int q)] → W p l e (jR 8) s m ([.ref (r 0), .int (nI a_), .int (nI b_), .int q] : List Value).toArray below meth c H locs 0 0 (MQ below (va_Qi (S := MT) (fun r u => r = (if wTr_ (sn_ B) (nI a_) (nI b_) q = 0 then trX_ B (tn_ (nI a_)) (tn_ (nI b_)) q else wTr_ (sn_ B) (nI a_) (nI b_) q) ∧ oQ_ M u (wTr_ (sn_ B) (nI a_) (nI b_) q)) (fun u t => va_P D vwCl ((fun u => mW cI r B u) u) t.heap) A) ([.ref (r 0), .int (nI a_), .int (nI b_), .int q] : List Value).toArray s 0 0 A) (F0 m 124 ls [.int y9]) := by
                  intro y9 hy9 H locs hP hD hS ls hl
                  subst y9
                  replace hl : lv_has ls 7 [(5, .int (nI i)), (4, .int (wTr_ (sn_ B) (nI a_) (nI b_) q)), (0, .ref (r 0)), (1, .int (nI a_)), (2, .int (nI b_)), (3, .int q)] := hl
                  replace hP : va_P D vwCl (mW cI r B u_2) H := hP
                  replace hD : va_D A (mW cI r B u_2) := hD
                  refine lv_istore (lv' := [(6, .int (b1 (tp_ (fun j => tc_ (tt_ B a_ b_ j) a_ 12) (fun j => tc_ (tt_ B a_ b_ j) b_ 12) i))), (5, .int (nI i)), (4, .int (wTr_ (sn_ B) (nI a_) (nI b_) q)), (0, .ref (r 0)), (1, .int (nI a_)), (2, .int (nI b_)), (3, .int q)]) hx hb dX5_treaty_124 hl (by decide) rfl (fun ls hl => ?_)
                  refine lv_iload_n hx hb dX5_treaty_126 rfl (lv_at hl 6 rfl) ?_
                  refine lv_iconst (v := 1) hx hb dX5_treaty_127 (by decide) ?_
                  refine lv_icmp_ne (tgt := 142) hx hb dX5_treaty_128 (by decide) (fun c_128 => ?_) (fun c_128 => ?_)
                  · skip
                    refine lv_iload hx hb dX5_treaty_142 (lv_at hl 0 rfl) ?_
                    refine lv_if_eq (tgt := 160) hx hb dX5_treaty_144 (by decide) (fun c_144 => ?_) (fun c_144 => ?_)
                    · replace c_144 := b1_z c_144
                      refine lv_iinc (v := (nI i) + 1) (lv' := [(5, .int ((nI i) + 1)), (6, .int (b1 (tp_ (fun j => tc_ (tt_ B a_ b_ j) a_ 12) (fun j => tc_ (tt_ B a_ b_ j) b_ 12) i))), (4, .int (wTr_ (sn_ B) (nI a_) (nI b_) q)), (0, .ref (r 0)), (1, .int (nI a_)), (2, .int (nI b_)), (3, .int q)]) hx hb dX5_treaty_160 hl (k := 1) rfl (by first | rfl | decide) (by decide) rfl (fun ls hl => ?_)
                      refine lv_goto (tgt := 63) hx hb dX5_treaty_163 (by decide) ?_
                      exact ih_63 (i + 1) ((nI i) + 1)  (by first | rfl | exact nI_1 _) (by omega) (Or.inr c_128) ((by rw [fz_s (by omega), if_neg c_144] at hre; exact hre)) (by omega) _ _ hP hD hS ls (lv_sub hl [0, 2, 3, 4, 5, 6] rfl)
                    · replace c_144 := b1_n c_144
                      refine lv_bipush (v := 10) hx hb dX5_treaty_147 (by decide) ?_
                      refine lv_iload hx hb dX5_treaty_149 (lv_at hl 1 rfl) ?_
                      refine lv_iconst (v := 2) hx hb dX5_treaty_151 (by decide) ?_
                      refine lv_idiv hx hb dX5_treaty_152 (by decide) ?_
                      refine lv_imul hx hb dX5_treaty_153 ?_
                      refine lv_iload hx hb dX5_treaty_154 (lv_at hl 1 rfl) ?_
                      refine lv_iconst (v := 2) hx hb dX5_treaty_156 (by decide) ?_
                      refine lv_irem hx hb dX5_treaty_157 (by decide) ?_
                      refine lv_iadd hx hb dX5_treaty_158 ?_
                      refine rMi hx hb hr hlk hS u_2 hP ?_ dX5_treaty_159
                      first | exact ⟨(if_neg c_44).symm, oQ_n _ _⟩ | (refine ⟨?_, oQ_0 c_44 hNu.m⟩; rw [if_pos c_44]; simp only [tn_n (show a_ < 2147483648 by omega), tn_n (show b_ < 2147483648 by omega)]; unfold trX_; first | (have e0 : i = 0 := hq1.elim id (fun z => absurd c_128 z); subst e0; rw [if_pos c_128]; first | exact (b1_t c_133).symm | exact (b1_f c_133).symm) | (rw [if_neg c_128, ← hre, fz_s (by omega), if_pos c_144]; rfl) | (rw [if_neg (hq1.elim (fun z => by omega) id), ← hre, fz_0 (by omega)]; rfl))
                  · skip
                    refine lv_iload hx hb dX5_treaty_131 (lv_at hl 0 rfl) ?_
                    refine lv_if_eq (tgt := 140) hx hb dX5_treaty_133 (by decide) (fun c_133 => ?_) (fun c_133 => ?_)
                    · replace c_133 := b1_z c_133
                      refine lv_iconst (v := 0) hx hb dX5_treaty_140 (by decide) ?_
                      refine rMi hx hb hr hlk hS u_2 hP ?_ dX5_treaty_141
                      first | exact ⟨(if_neg c_44).symm, oQ_n _ _⟩ | (refine ⟨?_, oQ_0 c_44 hNu.m⟩; rw [if_pos c_44]; simp only [tn_n (show a_ < 2147483648 by omega), tn_n (show b_ < 2147483648 by omega)]; unfold trX_; first | (have e0 : i = 0 := hq1.elim id (fun z => absurd c_128 z); subst e0; rw [if_pos c_128]; first | exact (b1_t c_133).symm | exact (b1_f c_133).symm) | (rw [if_neg c_128, ← hre, fz_s (by omega), if_pos c_144]; rfl) | (rw [if_neg (hq1.elim (fun z => by omega) id), ← hre, fz_0 (by omega)]; rfl))
                    · replace c_133 := b1_n c_133
                      refine lv_iconst (v := 1) hx hb dX5_treaty_136 (by decide) ?_
                      refine lv_goto (tgt := 141) hx hb dX5_treaty_137 (by decide) ?_
                      refine rMi hx hb hr hlk hS u_2 hP ?_ dX5_treaty_141
                      first | exact ⟨(if_neg c_44).symm, oQ_n _ _⟩ | (refine ⟨?_, oQ_0 c_44 hNu.m⟩; rw [if_pos c_44]; simp only [tn_n (show a_ < 2147483648 by omega), tn_n (show b_ < 2147483648 by omega)]; unfold trX_; first | (have e0 : i = 0 := hq1.elim id (fun z => absurd c_128 z); subst e0; rw [if_pos c_128]; first | exact (b1_t c_133).symm | exact (b1_f c_133).symm) | (rw [if_neg c_128, ← hre, fz_s (by omega), if_pos c_144]; rfl) | (rw [if_neg (hq1.elim (fun z => by omega) id), ← hre, fz_0 (by omega)]; rfl))
              refine lv_aload_n hx hb dX5_treaty_69 rfl (lv_at hl 2 rfl) ?_
              refine va_get (ci := 5) (C := RX5) (T := TX5) (N := 33) hx hb hts hinX5 hown hK.1 hP 0 rfl rfl 31 (by decide) (hts _ (List.mem_of_getElem? (i := 1) rfl)) (fun _ h9 => h9) rfl dX5_treaty_70 ?_
              refine lv_iconst (v := 2) hx hb dX5_treaty_73 (by decide) ?_
              refine lv_iload hx hb dX5_treaty_74 (lv_at hl 0 rfl) ?_
              refine lv_iconst (v := 2) hx hb dX5_treaty_76 (by decide) ?_
              refine lv_ixor hx hb dX5_treaty_77 ?_
              refine lv_imul hx hb dX5_treaty_78 ?_
              refine jald hx hb hK.1 hP 15 0 (2 * (i ^^^ 2)) rfl rfl by rw [(jx_ (by omega)).1.1]; exact pk_mul 2 _ (by have := (jx_ (j := i) (by omega)).1.2; omega) (Nat.le_of_ble_eq_true rfl) dX5_treaty_79 ?_
              refine sti (x := (mhb_ u_2) (2 * (i ^^^ 2))) (y := tc_ (tt_ B a_ b_ (i ^^^ 2)) a_ 12) ((hTu (i ^^^ 2) (jx_ (by omega)).1.2).1) ?_
              refine lv_aload_n hx hb dX5_treaty_80 rfl (lv_at hl 2 rfl) ?_
              refine va_get (ci := 5) (C := RX5) (T := TX5) (N := 33) hx hb hts hinX5 hown hK.1 hP 0 rfl rfl 31 (by decide) (hts _ (List.mem_of_getElem? (i := 1) rfl)) (fun _ h9 => h9) rfl dX5_treaty_81 ?_
              refine lv_iconst (v := 2) hx hb dX5_treaty_84 (by decide) ?_
              refine lv_iload hx hb dX5_treaty_85 (lv_at hl 0 rfl) ?_
              refine lv_imul hx hb dX5_treaty_87 ?_
              refine jald hx hb hK.1 hP 15 0 (2 * i) rfl rfl pk_mul 2 i (by omega) (Nat.le_of_ble_eq_true rfl) dX5_treaty_88 ?_
              refine sti (x := (mhb_ u_2) (2 * i)) (y := tc_ (tt_ B a_ b_ i) a_ 12) ((hTu i (by omega)).1) ?_
              refine lv_icmp_gt (tgt := 123) hx hb dX5_treaty_89 (by decide) (fun c_89 => ?_) (fun c_89 => ?_)
              · have d_89 := Int32.not_le.mpr c_89
                refine lv_iconst (v := 0) hx hb dX5_treaty_123 (by decide) ?_
                exact jn_124   0 (by first | exact (b1_t ⟨Int32.not_lt.mp c_89, Int32.not_lt.mp c_116⟩).symm | exact (b1_f (fun z => absurd c_89 (Int32.not_lt.mpr z.1))).symm | exact (b1_f (fun z => absurd c_116 (Int32.not_lt.mpr z.2))).symm)   _ _ hP hD hS ls (lv_sub hl [0, 1, 2, 3, 4, 5] rfl)
              · have d_89 := Int32.not_lt.mp c_89
                refine lv_aload_n hx hb dX5_treaty_92 rfl (lv_at hl 2 rfl) ?_
                refine va_get (ci := 5) (C := RX5) (T := TX5) (N := 33) hx hb hts hinX5 hown hK.1 hP 0 rfl rfl 31 (by decide) (hts _ (List.mem_of_getElem? (i := 1) rfl)) (fun _ h9 => h9) rfl dX5_treaty_93 ?_
                refine lv_iconst (v := 2) hx hb dX5_treaty_96 (by decide) ?_
                refine lv_iload hx hb dX5_treaty_97 (lv_at hl 0 rfl) ?_
                refine lv_iconst (v := 1) hx hb dX5_treaty_99 (by decide) ?_
                refine lv_ixor hx hb dX5_treaty_100 ?_
                refine lv_imul hx hb dX5_treaty_101 ?_
                refine lv_iconst (v := 1) hx hb dX5_treaty_102 (by decide) ?_
                refine lv_iadd hx hb dX5_treaty_103 ?_
                refine jald hx hb hK.1 hP 15 0 (2 * (i ^^^ 1) + 1) rfl rfl by rw [(jx_ (by omega)).2.1, show (2 : Int32) * nI (i ^^^ 1) = nI (2 * (i ^^^ 1)) from pk_mul 2 _]; exact nI_1 _ (by have := (jx_ (j := i) (by omega)).2.2; omega) (Nat.le_of_ble_eq_true rfl) dX5_treaty_104 ?_
                refine sti (x := (mhb_ u_2) (2 * (i ^^^ 1) + 1)) (y := tc_ (tt_ B a_ b_ (i ^^^ 1)) b_ 12) ((hTu (i ^^^ 1) (jx_ (by omega)).2.2).2) ?_
                refine lv_aload_n hx hb dX5_treaty_105 rfl (lv_at hl 2 rfl) ?_
                refine va_get (ci := 5) (C := RX5) (T := TX5) (N := 33) hx hb hts hinX5 hown hK.1 hP 0 rfl rfl 31 (by decide) (hts _ (List.mem_of_getElem? (i := 1) rfl)) (fun _ h9 => h9) rfl dX5_treaty_106 ?_
                refine lv_iconst (v := 2) hx hb dX5_treaty_109 (by decide) ?_
                refine lv_iload hx hb dX5_treaty_110 (lv_at hl 0 rfl) ?_
                refine lv_imul hx hb dX5_treaty_112 ?_
                refine lv_iconst (v := 1) hx hb dX5_treaty_113 (by decide) ?_
                refine lv_iadd hx hb dX5_treaty_114 ?_
                refine jald hx hb hK.1 hP 15 0 (2 * i + 1) rfl rfl by rw [show (2 : Int32) * nI i = nI (2 * i) from pk_mul 2 i]; exact nI_1 _ (by omega) (Nat.le_of_ble_eq_true rfl) dX5_treaty_115 ?_
                refine sti (x := (mhb_ u_2) (2 * i + 1)) (y := tc_ (tt_ B a_ b_ i) b_ 12) ((hTu i (by omega)).2) ?_
                refine lv_icmp_gt (tgt := 123) hx hb dX5_treaty_116 (by decide) (fun c_116 => ?_) (fun c_116 => ?_)
                · have d_116 := Int32.not_le.mpr c_116
                  refine lv_iconst (v := 0) hx hb dX5_treaty_123 (by decide) ?_
                  exact jn_124   0 (by first | exact (b1_t ⟨Int32.not_lt.mp c_89, Int32.not_lt.mp c_116⟩).symm | exact (b1_f (fun z => absurd c_89 (Int32.not_lt.mpr z.1))).symm | exact (b1_f (fun z => absurd c_116 (Int32.not_lt.mpr z.2))).symm)   _ _ hP hD hS ls (lv_sub hl [0, 1, 2, 3, 4, 5] rfl)
                · have d_116 := Int32.not_lt.mp c_116
                  refine lv_iconst (v := 1) hx hb dX5_treaty_119 (by decide) ?_
                  refine lv_goto (tgt := 124) hx hb dX5_treaty_120 (by decide) ?_
                  exact jn_124   1 (by first | exact (b1_t ⟨Int32.not_lt.mp c_89, Int32.not_lt.mp c_116⟩).symm | exact (b1_f (fun z => absurd c_89 (Int32.not_lt.mpr z.1))).symm | exact (b1_f (fun z => absurd c_116 (Int32.not_lt.mpr z.2))).symm)   _ _ hP hD hS ls (lv_sub hl [0, 1, 2, 3, 4, 5] rfl)
        exact lp_63 (4 + 1) 0 0  (by first | rfl | exact nI_0.symm) (by omega) (Or.inl rfl) (rfl) (by omega) _ _ hP hD hS ls (lv_sub hl [0, 1, 2, 3, 4, 5] rfl)
      · skip
        refine lv_aload_n hx hb dX5_treaty_47 rfl (lv_at hl 1 rfl) ?_
        refine lv_iload hx hb dX5_treaty_48 (lv_at hl 0 rfl) ?_
        refine kMiV hx hb hml hown hts hK hP hD hA hS gX5_treaty_X5_no okX5_no (qX5_no l D cI cB r B M (wTr_ (sn_ B) a b q) (rc0_n (by first | exact rc0_wS _ _ | exact rc0_wSN _ _ _ | exact rc0_wSNW _ _ _ _ | exact rc0_wNW _ _ | exact rc0_wTh _ _ _ _ _ | exact rc0_wTr _ _ _ _ | exact rc0_nb _ _ | exact rc0_uk _ _ | exact rc0_ob _ _ _ | exact rc0_f2 (rc0_nb _ _) (rc0_nb _ _) | exact rc0_f2 (rc0_nb _ _) (rc0_uk _ _) | exact rc0_f2 (rc0_ob _ _ _) (rc0_uk _ _) | exact rc0_f2 (rc0_uk _ _) (rc0_f2 (rc0_uk _ _) (rc0_ob _ _ _))) c_44)) [0, 1, 2, 3, 4, 5, 6, 7, 8, 9, 10, 11, 12, 13, 14, 15] rfl (by decide) (fun _ => mW_adr _ _ _ _ _ _) rfl rfl rfl (by decide) hl.1 rfl rfl (Nat.le_of_ble_eq_true rfl) dX5_treaty_50 (by decide) (fun r_4 u_5 H locs hw_6 hP hD hS => ?_)
        replace hw_6 : r_4 = wTr_ (sn_ B) a b q ∧ u_5 = (rfm_ M (wTr_ (sn_ B) a b q)) := hw_6
        obtain ⟨hw_6a, hw_6b⟩ := hw_6
        subst r_4
        subst u_5
        replace hP : va_P D vwCl ([(r 0, .inr (5, [.ref (r 1), .ref (r 2), .ref (r 3), .ref (r 4), .ref (r 5), .ref (r 6), .int (nI (sn_ B)), .int (qt_ B), .int (il_ B), .int (pa_ B), .int (ho_ B), .int (dy_ B), .ref (r 13), .ref (r 14), .ref (r 15), .ref (r 16), .int (nI (mtn_ M)), .int (nI (mrd_ M)), .int (nI (msm_ M)), .ref (r 20), .int (mhi_ M), .int (mik_ M), .int (nI (mcu_ M)), .int (nI (mbk_ M)), .ref (r 25), .ref (r 26), .int (mlw_ M), .int (mhg_ M), .int (msl_ M), .ref (r 30), .int (nI (mrm_ M)), .ref (r 32), .int (mlo_ M)])), (r 1, .inl (cI, 7, .inl (rfx_ (mrf_ M) (wTr_ (sn_ B) a b q)))), (r 2, .inl (cI, 7, .inl (kd_ B))), (r 3, .inl (cI, 7, .inl (fg_ B))), (r 4, .inl (cI, 7, .inl (pl_ B))), (r 5, .inl (cI, 7, .inl (pw_ B))), (r 6, .inl (cI, 7, .inl (jy_ B))), (r 13, .inl (cI, 96, .inl (mtp_ M))), (r 14, .inl (cI, 48, .inl (mlt_ M))), (r 15, .inl (cI, 48, .inl (mla_ M))), (r 16, .inl (cI, 144, .inl (mtd_ M))), (r 20, .inl (cI, 451, .inl (flatK (mkp_ M)))), (r 25, .inl (cI, 7, .inl (mof_ M))), (r 26, .inl (cI, 7, .inl (mfa_ M))), (r 30, .inl (cI, 12, .inl (mrw_ M))), (r 32, .inl (cI, 8, .inl (mhb_ M)))]) H := hP
        replace hD : va_D A ([(r 0, .inr (5, [.ref (r 1), .ref (r 2), .ref (r 3), .ref (r 4), .ref (r 5), .ref (r 6), .int (nI (sn_ B)), .int (qt_ B), .int (il_ B), .int (pa_ B), .int (ho_ B), .int (dy_ B), .ref (r 13), .ref (r 14), .ref (r 15), .ref (r 16), .int (nI (mtn_ M)), .int (nI (mrd_ M)), .int (nI (msm_ M)), .ref (r 20), .int (mhi_ M), .int (mik_ M), .int (nI (mcu_ M)), .int (nI (mbk_ M)), .ref (r 25), .ref (r 26), .int (mlw_ M), .int (mhg_ M), .int (msl_ M), .ref (r 30), .int (nI (mrm_ M)), .ref (r 32), .int (mlo_ M)])), (r 1, .inl (cI, 7, .inl (rfx_ (mrf_ M) (wTr_ (sn_ B) a b q)))), (r 2, .inl (cI, 7, .inl (kd_ B))), (r 3, .inl (cI, 7, .inl (fg_ B))), (r 4, .inl (cI, 7, .inl (pl_ B))), (r 5, .inl (cI, 7, .inl (pw_ B))), (r 6, .inl (cI, 7, .inl (jy_ B))), (r 13, .inl (cI, 96, .inl (mtp_ M))), (r 14, .inl (cI, 48, .inl (mlt_ M))), (r 15, .inl (cI, 48, .inl (mla_ M))), (r 16, .inl (cI, 144, .inl (mtd_ M))), (r 20, .inl (cI, 451, .inl (flatK (mkp_ M)))), (r 25, .inl (cI, 7, .inl (mof_ M))), (r 26, .inl (cI, 7, .inl (mfa_ M))), (r 30, .inl (cI, 12, .inl (mrw_ M))), (r 32, .inl (cI, 8, .inl (mhb_ M)))]) := hD
        refine rMi hx hb hr hlk hS (rfm_ M (wTr_ (sn_ B) a b q)) hP ?_ dX5_treaty_53
        first | exact ⟨(if_neg c_44).symm, oQ_n _ _⟩ | (refine ⟨?_, oQ_0 c_44 hNu.m⟩; rw [if_pos c_44]; simp only [tn_n (show a_ < 2147483648 by omega), tn_n (show b_ < 2147483648 by omega)]; unfold trX_; first | (have e0 : i = 0 := hq1.elim id (fun z => absurd c_128 z); subst e0; rw [if_pos c_128]; first | exact (b1_t c_133).symm | exact (b1_f c_133).symm) | (rw [if_neg c_128, ← hre, fz_s (by omega), if_pos c_144]; rfl) | (rw [if_neg (hq1.elim (fun z => by omega) id), ← hre, fz_0 (by omega)]; rfl))
  refine lv_aload_n hx hb dX5_treaty_0 rfl (lv_at hl 0 rfl) ?_
  refine lv_iload_n hx hb dX5_treaty_1 rfl (lv_at hl 1 rfl) ?_
  refine kSiV hx hb hml hown hts hK hP gX5_treaty_X5_isShore okX5_isShore (qX5_isShore l D cI cB r B M a (by show sn_ B ≤ 7; omega)) [0, 1, 2, 3, 4, 5, 6, 7, 8, 9, 10, 11, 12, 13, 14, 15] rfl rfl rfl rfl (by decide) hl.1 rfl rfl (Nat.le_of_ble_eq_true rfl) dX5_treaty_2 (by decide) (fun r_7 hr_8 => ?_)
  replace hr_8 : r_7 = b1 (0 ≤ a ∧ a < nI (sn_ B)) := hr_8
  subst r_7
  refine lv_if_eq (tgt := 21) hx hb dX5_treaty_5 (by decide) (fun c_5 => ?_) (fun c_5 => ?_)
  · replace c_5 := b1_z c_5
    refine lv_iconst (v := (-1)) hx hb dX5_treaty_21 (by decide) ?_
    refine lv_goto (tgt := 40) hx hb dX5_treaty_22 (by decide) ?_
    refine lv_istore (lv' := [(4, .int (-1)), (0, .ref (r 0)), (1, .int a), (2, .int b), (3, .int q)]) hx hb dX5_treaty_40 hl (by decide) rfl (fun ls hl => ?_)
    exact jn_42  (-1)  (by first | exact (tr_1 c_5).symm | exact (tr_2 c_5 c_13).symm | exact (tr_3 c_5 c_13 c_18).symm | exact (tr_4 c_5 c_13 c_18 c_31).symm | exact (tr_5 c_5 c_13 c_18 c_31).symm)   _ _ hP hD hS ls (lv_sub hl [0, 1, 2, 3, 4] rfl)
  · replace c_5 := b1_n c_5
    refine lv_aload_n hx hb dX5_treaty_8 rfl (lv_at hl 0 rfl) ?_
    refine lv_iload_n hx hb dX5_treaty_9 rfl (lv_at hl 2 rfl) ?_
    refine kSiV hx hb hml hown hts hK hP gX5_treaty_X5_isShore okX5_isShore (qX5_isShore l D cI cB r B M b (by show sn_ B ≤ 7; omega)) [0, 1, 2, 3, 4, 5, 6, 7, 8, 9, 10, 11, 12, 13, 14, 15] rfl rfl rfl rfl (by decide) hl.1 rfl rfl (Nat.le_of_ble_eq_true rfl) dX5_treaty_10 (by decide) (fun r_9 hr_10 => ?_)
    replace hr_10 : r_9 = b1 (0 ≤ b ∧ b < nI (sn_ B)) := hr_10
    subst r_9
    refine lv_if_eq (tgt := 21) hx hb dX5_treaty_13 (by decide) (fun c_13 => ?_) (fun c_13 => ?_)
    · replace c_13 := b1_z c_13
      refine lv_iconst (v := (-1)) hx hb dX5_treaty_21 (by decide) ?_
      refine lv_goto (tgt := 40) hx hb dX5_treaty_22 (by decide) ?_
      refine lv_istore (lv' := [(4, .int (-1)), (0, .ref (r 0)), (1, .int a), (2, .int b), (3, .int q)]) hx hb dX5_treaty_40 hl (by decide) rfl (fun ls hl => ?_)
      exact jn_42  (-1)  (by first | exact (tr_1 c_5).symm | exact (tr_2 c_5 c_13).symm | exact (tr_3 c_5 c_13 c_18).symm | exact (tr_4 c_5 c_13 c_18 c_31).symm | exact (tr_5 c_5 c_13 c_18 c_31).symm)   _ _ hP hD hS ls (lv_sub hl [0, 1, 2, 3, 4] rfl)
    · replace c_13 := b1_n c_13
      refine lv_iload_n hx hb dX5_treaty_16 rfl (lv_at hl 1 rfl) ?_
      refine lv_iload_n hx hb dX5_treaty_17 rfl (lv_at hl 2 rfl) ?_
      refine lv_icmp_ne (tgt := 25) hx hb dX5_treaty_18 (by decide) (fun c_18 => ?_) (fun c_18 => ?_)
      · skip
        refine lv_iload_n hx hb dX5_treaty_25 rfl (lv_at hl 3 rfl) ?_
        refine lv_iconst (v := 0) hx hb dX5_treaty_26 (by decide) ?_
        refine lv_iconst (v := 1) hx hb dX5_treaty_27 (by decide) ?_
        refine kSiS hx hb hml hown hts hK hP gX5_treaty_X5_isIn okX5_isIn (qX5_isIn l D cI cB q 0 1 ) [] rfl (by decide) hl.1 rfl rfl (Nat.le_of_ble_eq_true rfl) dX5_treaty_28 (by decide) (fun r_11 hr_12 => ?_)
        replace hr_12 : r_11 = b1 (0 ≤ q ∧ q ≤ 1) := hr_12
        subst r_11
        refine lv_if_ne (tgt := 39) hx hb dX5_treaty_31 (by decide) (fun c_31 => ?_) (fun c_31 => ?_)
        · replace c_31 := b1_n c_31
          refine lv_iconst (v := 0) hx hb dX5_treaty_39 (by decide) ?_
          refine lv_istore (lv' := [(4, .int 0), (0, .ref (r 0)), (1, .int a), (2, .int b), (3, .int q)]) hx hb dX5_treaty_40 hl (by decide) rfl (fun ls hl => ?_)
          exact jn_42  0  (by first | exact (tr_1 c_5).symm | exact (tr_2 c_5 c_13).symm | exact (tr_3 c_5 c_13 c_18).symm | exact (tr_4 c_5 c_13 c_18 c_31).symm | exact (tr_5 c_5 c_13 c_18 c_31).symm)   _ _ hP hD hS ls (lv_sub hl [0, 1, 2, 3, 4] rfl)
        · replace c_31 := b1_z c_31
          refine lv_bipush (v := (-2)) hx hb dX5_treaty_34 (by decide) ?_
          refine lv_goto (tgt := 40) hx hb dX5_treaty_36 (by decide) ?_
          refine lv_istore (lv' := [(4, .int (-2)), (0, .ref (r 0)), (1, .int a), (2, .int b), (3, .int q)]) hx hb dX5_treaty_40 hl (by decide) rfl (fun ls hl => ?_)
          exact jn_42  (-2)  (by first | exact (tr_1 c_5).symm | exact (tr_2 c_5 c_13).symm | exact (tr_3 c_5 c_13 c_18).symm | exact (tr_4 c_5 c_13 c_18 c_31).symm | exact (tr_5 c_5 c_13 c_18 c_31).symm)   _ _ hP hD hS ls (lv_sub hl [0, 1, 2, 3, 4] rfl)
      · skip
        refine lv_iconst (v := (-1)) hx hb dX5_treaty_21 (by decide) ?_
        refine lv_goto (tgt := 40) hx hb dX5_treaty_22 (by decide) ?_
        refine lv_istore (lv' := [(4, .int (-1)), (0, .ref (r 0)), (1, .int a), (2, .int b), (3, .int q)]) hx hb dX5_treaty_40 hl (by decide) rfl (fun ls hl => ?_)
        exact jn_42  (-1)  (by first | exact (tr_1 c_5).symm | exact (tr_2 c_5 c_13).symm | exact (tr_3 c_5 c_13 c_18).symm | exact (tr_4 c_5 c_13 c_18 c_31).symm | exact (tr_5 c_5 c_13 c_18 c_31).symm)   _ _ hP hD hS ls (lv_sub hl [0, 1, 2, 3, 4] rfl)

theorem okX5_thunder : jok yX5_thunder wsX5_thunder cX5_thunder 14 (some .long) 4 := ⟨⟨_, rfl⟩, by decide +kernel, by decide +kernel⟩
set_option maxHeartbeats 2000000 in
set_option maxRecDepth 100000 in
theorem qX5_thunder (l : Launch) (D : va_G) (cI cB : ClassId) (r : Nat → Nat) (B : BayT) (M : MT) (a : Int32) (v : Int32) (t : Int32) (p_9 : Int32) (hI : bI_ B) : jMl D cI cB l yX5_thunder wsX5_thunder 6 [.ref (r 0), .int a, .int v, .int t, .int p_9] (mW cI r B M) (S := MT) (fun r u => r = (if wTh_ (sn_ B) a v t p_9 = 0 then it_ (wy_ B (tn_ a) (tn_ v) t (p2_ (tn_ v))) (pw_l t.toInt64 (tn_ v)) p_9 else lref_ (wTh_ (sn_ B) a v t p_9)) ∧ oQ_ M u (wTh_ (sn_ B) a v t p_9)) (fun u => mW cI r B u) := by
  refine jMl.of (cc := cX5_thunder) (maxL := 14) (ret := (some .long)) okX5_thunder (Nat.le_of_ble_eq_true rfl) ?_
  intro p e s m below meth c ls A hx hb hr hts hown hlk hml hP hK hD hA hS hl
  replace hown : s.vm.findClass RX5 = some m.cls := hown
  replace hl : lv_has ls 14 [(0, .ref (r 0)), (1, .int a), (2, .int v), (3, .int t), (4, .int p_9)] := hl
  have hn7 := hI.1
  have jn_61 : ∀  (x5_61 : Int32) , (x5_61 = wTh_ (sn_ B) a v t p_9) → ∀ (H : Heap) (locs : List Loc), va_P D vwCl (mW cI r B M) H → va_D A (mW cI r B M) → va_S A s.heap H locs → ∀ ls : Array Slot, lv_has ls 14 [(5, .int x5_61), (0, .ref (r 0)), (1, .int a), (2, .int v), (3, .int t), (4, .int p_9)] → W p l e (jR 6) s m ([.ref (r 0), .int a, .int v, .int t, .int p_9] : List Value).toArray below meth c H locs 0 0 (MQ below (va_Ql (S := MT) (fun r u => r = (if wTh_ (sn_ B) a v t p_9 = 0 then it_ (wy_ B (tn_ a) (tn_ v) t (p2_ (tn_ v))) (pw_l t.toInt64 (tn_ v)) p_9 else lref_ (wTh_ (sn_ B) a v t p_9)) ∧ oQ_ M u (wTh_ (sn_ B) a v t p_9)) (fun u t => va_P D vwCl ((fun u => mW cI r B u) u) t.heap) A) ([.ref (r 0), .int a, .int v, .int t, .int p_9] : List Value).toArray s 0 0 A) (F0 m 61 ls []) := by
      intro x5_61 hx5_61 H locs hP hD hS ls hl
      subst x5_61
      replace hl : lv_has ls 14 [(5, .int (wTh_ (sn_ B) a v t p_9)), (0, .ref (r 0)), (1, .int a), (2, .int v), (3, .int t), (4, .int p_9)] := hl
      replace hP : va_P D vwCl (mW cI r B M) H := hP
      replace hD : va_D A (mW cI r B M) := hD
      refine lv_iload hx hb dX5_thunder_61 (lv_at hl 0 rfl) ?_
      refine lv_if_eq (tgt := 73) hx hb dX5_thunder_63 (by decide) (fun c_63 => ?_) (fun c_63 => ?_)
      · skip
        have w0 := c_63
        simp only [wS_, wSN_, wSNW_, wNW_, wTh_, wTr_, f2_0, nb_0, ob_0, uk_0, lo_0, hi_0] at w0
        obtain ⟨a_, ha_, rfl⟩ := pl_lt (n := sn_ B) (by omega) w0.1.1
        obtain ⟨v_, hv_, rfl⟩ := pl_le (n := 7) (by decide) ⟨w0.1.2.1, w0.2.1.1⟩
        obtain ⟨t_, ht_, rfl⟩ := pl_le (n := 20) (by decide) ⟨Int32.le_trans (by decide) w0.1.2.2, w0.2.1.2⟩
        replace hl : lv_has ls 14 [(5, .int (wTh_ (sn_ B) (nI a_) (nI v_) (nI t_) p_9)), (0, .ref (r 0)), (1, .int (nI a_)), (2, .int (nI v_)), (3, .int (nI t_)), (4, .int p_9)] := hl
        refine lv_lconst (v := 0) hx hb dX5_thunder_73 rfl ?_
        refine lv_lstore (lv' := [(6, .long 0), (5, .int (wTh_ (sn_ B) (nI a_) (nI v_) (nI t_) p_9)), (0, .ref (r 0)), (1, .int (nI a_)), (2, .int (nI v_)), (3, .int (nI t_)), (4, .int p_9)]) hx hb dX5_thunder_74 hl (by decide) rfl (fun ls hl => ?_)
        refine lv_lconst (v := 1) hx hb dX5_thunder_76 rfl ?_
        refine lv_lstore (lv' := [(8, .long 1), (6, .long 0), (5, .int (wTh_ (sn_ B) (nI a_) (nI v_) (nI t_) p_9)), (0, .ref (r 0)), (1, .int (nI a_)), (2, .int (nI v_)), (3, .int (nI t_)), (4, .int p_9)]) hx hb dX5_thunder_77 hl (by decide) rfl (fun ls hl => ?_)
        refine lv_iconst (v := 0) hx hb dX5_thunder_79 (by decide) ?_
        refine lv_istore (lv' := [(10, .int 0), (8, .long 1), (6, .long 0), (5, .int (wTh_ (sn_ B) (nI a_) (nI v_) (nI t_) p_9)), (0, .ref (r 0)), (1, .int (nI a_)), (2, .int (nI v_)), (3, .int (nI t_)), (4, .int p_9)]) hx hb dX5_thunder_80 hl (by decide) rfl (fun ls hl => ?_)
        have lp_82 : ∀ (fu_82 : Nat) (i8 : Nat) (x8_82 : Int64) (x10_82 : Int32) , (x8_82 = pw_l (nI t_).toInt64 i8) → (x10_82 = nI i8) → (i8 ≤ v_) → v_ - i8 < fu_82 → ∀ (H : Heap) (locs : List Loc), va_P D vwCl (mW cI r B M) H → va_D A (mW cI r B M) → va_S A s.heap H locs → ∀ ls : Array Slot, lv_has ls 14 [(10, .int x10_82), (8, .long x8_82), (6, .long 0), (5, .int (wTh_ (sn_ B) (nI a_) (nI v_) (nI t_) p_9)), (0, .ref (r 0)), (1, .int (nI a_)), (2, .int (nI v_)), (3, .int (nI t_)), (4, .int p_9)] → W p l e (jR 6) s m ([.ref (r 0), .int (nI a_), .int (nI v_), .int (nI t_), .int p_9] : List Value).toArray below meth c H locs 0 0 (MQ below (va_Ql (S := MT) (fun r u => r = (if wTh_ (sn_ B) (nI a_) (nI v_) (nI t_) p_9 = 0 then it_ (wy_ B (tn_ (nI a_)) (tn_ (nI v_)) (nI t_) (p2_ (tn_ (nI v_)))) (pw_l (nI t_).toInt64 (tn_ (nI v_))) p_9 else lref_ (wTh_ (sn_ B) (nI a_) (nI v_) (nI t_) p_9)) ∧ oQ_ M u (wTh_ (sn_ B) (nI a_) (nI v_) (nI t_) p_9)) (fun u (nI t_) => va_P D vwCl ((fun u => mW cI r B u) u) (nI t_).heap) A) ([.ref (r 0), .int (nI a_), .int (nI v_), .int (nI t_), .int p_9] : List Value).toArray s 0 0 A) (F0 m 82 ls []) := by
          intro fu_82
          induction fu_82 with
          | zero => intro i8 x8_82 x10_82 hx8_82 hx10_82 hi hfu; exact absurd hfu (Nat.not_lt_zero _)
          | succ fu_82 ih_82 =>
            intro i8 x8_82 x10_82 hx8_82 hx10_82 hi hfu_82 H locs hP hD hS ls hl
            subst x8_82
            subst x10_82
            replace hl : lv_has ls 14 [(10, .int (nI i8)), (8, .long (pw_l (nI t_).toInt64 i8)), (6, .long 0), (5, .int (wTh_ (sn_ B) (nI a_) (nI v_) (nI t_) p_9)), (0, .ref (r 0)), (1, .int (nI a_)), (2, .int (nI v_)), (3, .int (nI t_)), (4, .int p_9)] := hl
            replace hP : va_P D vwCl (mW cI r B M) H := hP
            replace hD : va_D A (mW cI r B M) := hD
            refine lv_iload hx hb dX5_thunder_82 (lv_at hl 0 rfl) ?_
            refine lv_iload_n hx hb dX5_thunder_84 rfl (lv_at hl 6 rfl) ?_
            refine lv_icmp_ge (tgt := 101) hx hb dX5_thunder_85 (by decide) (fun c_85 => ?_) (fun c_85 => ?_)
            · replace c_85 : nI v_ ≤ nI i8 := c_85
              rw [jle (by omega) (by omega)] at c_85
              have e8 : i8 = v_ := by omega
              rw [e8] at hl
              refine lv_iconst (v := 0) hx hb dX5_thunder_101 (by decide) ?_
              refine lv_istore (lv' := [(10, .int 0), (8, .long (pw_l (nI t_).toInt64 v_)), (6, .long 0), (5, .int (wTh_ (sn_ B) (nI a_) (nI v_) (nI t_) p_9)), (0, .ref (r 0)), (1, .int (nI a_)), (2, .int (nI v_)), (3, .int (nI t_)), (4, .int p_9)]) hx hb dX5_thunder_102 hl (by decide) rfl (fun ls hl => ?_)
              have hp2 := p2_7 (n := v_) (by omega)
              have ht2 : 2 ≤ t_ := (jle (a := 2) (by decide) (by omega)).mp w0.1.2.2
              have lp_104 : ∀ (fu_104 : Nat) (i : Nat) (x6_104 : Int64) (x10_104 : Int32) (M2 : MT), (x6_104 = wy_ B a_ v_ (nI t_) i) → (x10_104 = nI i) → (i ≤ p2_ v_) → (oN_ M M2) → p2_ v_ - i < fu_104 → ∀ (H : Heap) (locs : List Loc), va_P D vwCl (mW cI r B M2) H → va_D A (mW cI r B M2) → va_S A s.heap H locs → ∀ ls : Array Slot, lv_has ls 14 [(10, .int x10_104), (8, .long (pw_l (nI t_).toInt64 v_)), (6, .long x6_104), (5, .int (wTh_ (sn_ B) (nI a_) (nI v_) (nI t_) p_9)), (0, .ref (r 0)), (1, .int (nI a_)), (2, .int (nI v_)), (3, .int (nI t_)), (4, .int p_9)] → W p l e (jR 6) s m ([.ref (r 0), .int (nI a_), .int (nI v_), .int (nI t_), .int p_9] : List Value).toArray below meth c H locs 0 0 (MQ below (va_Ql (S := MT) (fun r u => r = (if wTh_ (sn_ B) (nI a_) (nI v_) (nI t_) p_9 = 0 then it_ (wy_ B (tn_ (nI a_)) (tn_ (nI v_)) (nI t_) (p2_ (tn_ (nI v_)))) (pw_l (nI t_).toInt64 (tn_ (nI v_))) p_9 else lref_ (wTh_ (sn_ B) (nI a_) (nI v_) (nI t_) p_9)) ∧ oQ_ M u (wTh_ (sn_ B) (nI a_) (nI v_) (nI t_) p_9)) (fun u (nI t_) => va_P D vwCl ((fun u => mW cI r B u) u) (nI t_).heap) A) ([.ref (r 0), .int (nI a_), .int (nI v_), .int (nI t_), .int p_9] : List Value).toArray s 0 0 A) (F0 m 104 ls []) := by
                intro fu_104
                induction fu_104 with
                | zero => intro i x6_104 x10_104 M2 hx6_104 hx10_104 hi hM hfu; exact absurd hfu (Nat.not_lt_zero _)
                | succ fu_104 ih_104 =>
                  intro i x6_104 x10_104 M2 hx6_104 hx10_104 hi hM hfu_104 H locs hP hD hS ls hl
                  subst x6_104
                  subst x10_104
                  replace hl : lv_has ls 14 [(10, .int (nI i)), (8, .long (pw_l (nI t_).toInt64 v_)), (6, .long (wy_ B a_ v_ (nI t_) i)), (5, .int (wTh_ (sn_ B) (nI a_) (nI v_) (nI t_) p_9)), (0, .ref (r 0)), (1, .int (nI a_)), (2, .int (nI v_)), (3, .int (nI t_)), (4, .int p_9)] := hl
                  replace hP : va_P D vwCl (mW cI r B M2) H := hP
                  replace hD : va_D A (mW cI r B M2) := hD
                  refine lv_iload hx hb dX5_thunder_104 (lv_at hl 0 rfl) ?_
                  refine lv_iconst (v := 1) hx hb dX5_thunder_106 (by decide) ?_
                  refine lv_iload_n hx hb dX5_thunder_107 rfl (lv_at hl 6 rfl) ?_
                  refine lv_ishl hx hb dX5_thunder_108 ?_
                  refine lv_icmp_ge (tgt := 197) hx hb dX5_thunder_109 (by decide) (fun c_109 => ?_) (fun c_109 => ?_)
                  · rw [sh_n (by omega), jle (by omega) (by omega)] at c_109
                    refine lv_lload hx hb dX5_thunder_197 (lv_at hl 2 rfl) ?_
                    refine lv_lload hx hb dX5_thunder_199 (lv_at hl 1 rfl) ?_
                    refine lv_iload hx hb dX5_thunder_201 (lv_at hl 8 rfl) ?_
                    refine kSlS hx hb hml hown hts hK hP gX5_thunder_X5_partOf okX5_partOf (qX5_partOf l D cI cB (wy_ B a_ v_ (nI t_) i) (pw_l (nI t_).toInt64 v_) p_9 (by rw [show i = p2_ v_ by omega]; exact wy_N ht2 (by omega) (by omega)) (by exact pwl_N ht2 (by omega) (by omega))) [] rfl (by decide) hl.1 rfl rfl (Nat.le_of_ble_eq_true rfl) dX5_thunder_203 (by decide) (fun r_1 hr_2 => ?_)
                    replace hr_2 : r_1 = it_ (wy_ B a_ v_ (nI t_) i) (pw_l (nI t_).toInt64 v_) p_9 := hr_2
                    subst r_1
                    refine rMl hx hb hr hlk hS M2 hP ?_ dX5_thunder_206
                    first | exact ⟨(if_neg c_63).symm, oQ_n _ _⟩ | (refine ⟨?_, oQ_0 c_63 ?_⟩; · (rw [if_pos c_63]; simp only [tn_n (show a_ < 2147483648 by omega), tn_n (show v_ < 2147483648 by omega), tn_n (show t_ < 2147483648 by omega)]; first | rfl | done); · (first | exact (oN_mk (by assumption)).m | exact oM_.rf _ | exact (oN_pp _ _).m | exact (oN_fo _ _ _ _).m | assumption | (apply oN_.m; assumption) | exact oM_.tr (by assumption) (by assumption)))
                  · rw [sh_n (by omega), jle (by omega) (by omega)] at c_109
                    refine lv_aload_n hx hb dX5_thunder_112 rfl (lv_at hl 4 rfl) ?_
                    refine kMvV hx hb hml hown hts hK hP hD hA hS gX5_thunder_X5_thinks okX5_thinks (qX5_thinksE l D cI cB r B M2 ) [0, 1, 2, 3, 4, 5, 6, 7, 8, 9, 10, 11, 12, 13, 14, 15] rfl (by decide) (fun _ => mW_adE rfl) rfl rfl rfl (by decide) hl.1 rfl rfl (Nat.le_of_ble_eq_true rfl) dX5_thunder_113 (by decide) (fun u_4 H locs hw_5 hP hD hS => ?_)
                    replace hP : va_P D vwCl ([(r 0, .inr (5, [.ref (r 1), .ref (r 2), .ref (r 3), .ref (r 4), .ref (r 5), .ref (r 6), .int (nI (sn_ B)), .int (qt_ B), .int (il_ B), .int (pa_ B), .int (ho_ B), .int (dy_ B), .ref (r 13), .ref (r 14), .ref (r 15), .ref (r 16), .int (nI (mtn_ M2)), .int (nI (mrd_ M2)), .int (nI (msm_ M2)), .ref (r 20), .int (mhi_ M2), .int (1), .int (nI (41 * 2 + 41)), .int (nI (mbk_ M2)), .ref (r 25), .ref (r 26), .int (mlw_ M2), .int (mhg_ M2), .int (msl_ M2), .ref (r 30), .int (nI (mrm_ M2)), .ref (r 32), .int (mlo_ M2)])), (r 1, .inl (cI, 7, .inl (mrf_ M2))), (r 2, .inl (cI, 7, .inl (kd_ B))), (r 3, .inl (cI, 7, .inl (fg_ B))), (r 4, .inl (cI, 7, .inl (pl_ B))), (r 5, .inl (cI, 7, .inl (pw_ B))), (r 6, .inl (cI, 7, .inl (jy_ B))), (r 13, .inl (cI, 96, .inl (mtp_ M2))), (r 14, .inl (cI, 48, .inl (mlt_ M2))), (r 15, .inl (cI, 48, .inl (mla_ M2))), (r 16, .inl (cI, 144, .inl (mtd_ M2))), (r 20, .inl (cI, 451, .inl (flatK (va_up (mkp_ M2) 2 B)))), (r 25, .inl (cI, 7, .inl (mof_ M2))), (r 26, .inl (cI, 7, .inl (mfa_ M2))), (r 30, .inl (cI, 12, .inl (mrw_ M2))), (r 32, .inl (cI, 8, .inl (mhb_ M2)))]) H := hP
                    replace hD : va_D A ([(r 0, .inr (5, [.ref (r 1), .ref (r 2), .ref (r 3), .ref (r 4), .ref (r 5), .ref (r 6), .int (nI (sn_ B)), .int (qt_ B), .int (il_ B), .int (pa_ B), .int (ho_ B), .int (dy_ B), .ref (r 13), .ref (r 14), .ref (r 15), .ref (r 16), .int (nI (mtn_ M2)), .int (nI (mrd_ M2)), .int (nI (msm_ M2)), .ref (r 20), .int (mhi_ M2), .int (1), .int (nI (41 * 2 + 41)), .int (nI (mbk_ M2)), .ref (r 25), .ref (r 26), .int (mlw_ M2), .int (mhg_ M2), .int (msl_ M2), .ref (r 30), .int (nI (mrm_ M2)), .ref (r 32), .int (mlo_ M2)])), (r 1, .inl (cI, 7, .inl (mrf_ M2))), (r 2, .inl (cI, 7, .inl (kd_ B))), (r 3, .inl (cI, 7, .inl (fg_ B))), (r 4, .inl (cI, 7, .inl (pl_ B))), (r 5, .inl (cI, 7, .inl (pw_ B))), (r 6, .inl (cI, 7, .inl (jy_ B))), (r 13, .inl (cI, 96, .inl (mtp_ M2))), (r 14, .inl (cI, 48, .inl (mlt_ M2))), (r 15, .inl (cI, 48, .inl (mla_ M2))), (r 16, .inl (cI, 144, .inl (mtd_ M2))), (r 20, .inl (cI, 451, .inl (flatK (va_up (mkp_ M2) 2 B)))), (r 25, .inl (cI, 7, .inl (mof_ M2))), (r 26, .inl (cI, 7, .inl (mfa_ M2))), (r 30, .inl (cI, 12, .inl (mrw_ M2))), (r 32, .inl (cI, 8, .inl (mhb_ M2)))]) := hD
                    refine lv_lconst (v := 1) hx hb dX5_thunder_116 rfl ?_
                    refine lv_lstore (lv' := [(11, .long 1), (10, .int (nI i)), (8, .long (pw_l (nI t_).toInt64 v_)), (6, .long (wy_ B a_ v_ (nI t_) i)), (5, .int (wTh_ (sn_ B) (nI a_) (nI v_) (nI t_) p_9)), (0, .ref (r 0)), (1, .int (nI a_)), (2, .int (nI v_)), (3, .int (nI t_)), (4, .int p_9)]) hx hb dX5_thunder_117 hl (by decide) rfl (fun ls hl => ?_)
                    refine lv_iconst (v := 0) hx hb dX5_thunder_119 (by decide) ?_
                    refine lv_istore (lv' := [(13, .int 0), (11, .long 1), (10, .int (nI i)), (8, .long (pw_l (nI t_).toInt64 v_)), (6, .long (wy_ B a_ v_ (nI t_) i)), (5, .int (wTh_ (sn_ B) (nI a_) (nI v_) (nI t_) p_9)), (0, .ref (r 0)), (1, .int (nI a_)), (2, .int (nI v_)), (3, .int (nI t_)), (4, .int p_9)]) hx hb dX5_thunder_120 hl (by decide) rfl (fun ls hl => ?_)
                    have lp_122 : ∀ (fu_122 : Nat) (j : Nat) (x11_122 : Int64) (x13_122 : Int32) (T3 : BayT), (x11_122 = al_ (nI t_) i j) → (x13_122 = nI j) → (T3 = th_ B i j) → (j ≤ v_) → v_ - j < fu_122 → ∀ (H : Heap) (locs : List Loc), va_P D vwCl ([(r 0, .inr (5, [.ref (r 1), .ref (r 2), .ref (r 3), .ref (r 4), .ref (r 5), .ref (r 6), .int (nI (sn_ T3)), .int (qt_ T3), .int (il_ T3), .int (pa_ T3), .int (ho_ T3), .int (dy_ T3), .ref (r 13), .ref (r 14), .ref (r 15), .ref (r 16), .int (nI (mtn_ M2)), .int (nI (mrd_ M2)), .int (nI (msm_ M2)), .ref (r 20), .int (mhi_ M2), .int (1), .int (nI (41 * 2 + 41)), .int (nI (mbk_ M2)), .ref (r 25), .ref (r 26), .int (mlw_ M2), .int (mhg_ M2), .int (msl_ M2), .ref (r 30), .int (nI (mrm_ M2)), .ref (r 32), .int (mlo_ M2)])), (r 1, .inl (cI, 7, .inl (mrf_ M2))), (r 2, .inl (cI, 7, .inl (kd_ T3))), (r 3, .inl (cI, 7, .inl (fg_ T3))), (r 4, .inl (cI, 7, .inl (pl_ T3))), (r 5, .inl (cI, 7, .inl (pw_ T3))), (r 6, .inl (cI, 7, .inl (jy_ T3))), (r 13, .inl (cI, 96, .inl (mtp_ M2))), (r 14, .inl (cI, 48, .inl (mlt_ M2))), (r 15, .inl (cI, 48, .inl (mla_ M2))), (r 16, .inl (cI, 144, .inl (mtd_ M2))), (r 20, .inl (cI, 451, .inl (flatK (va_up (mkp_ M2) 2 B)))), (r 25, .inl (cI, 7, .inl (mof_ M2))), (r 26, .inl (cI, 7, .inl (mfa_ M2))), (r 30, .inl (cI, 12, .inl (mrw_ M2))), (r 32, .inl (cI, 8, .inl (mhb_ M2)))]) H → va_D A ([(r 0, .inr (5, [.ref (r 1), .ref (r 2), .ref (r 3), .ref (r 4), .ref (r 5), .ref (r 6), .int (nI (sn_ T3)), .int (qt_ T3), .int (il_ T3), .int (pa_ T3), .int (ho_ T3), .int (dy_ T3), .ref (r 13), .ref (r 14), .ref (r 15), .ref (r 16), .int (nI (mtn_ M2)), .int (nI (mrd_ M2)), .int (nI (msm_ M2)), .ref (r 20), .int (mhi_ M2), .int (1), .int (nI (41 * 2 + 41)), .int (nI (mbk_ M2)), .ref (r 25), .ref (r 26), .int (mlw_ M2), .int (mhg_ M2), .int (msl_ M2), .ref (r 30), .int (nI (mrm_ M2)), .ref (r 32), .int (mlo_ M2)])), (r 1, .inl (cI, 7, .inl (mrf_ M2))), (r 2, .inl (cI, 7, .inl (kd_ T3))), (r 3, .inl (cI, 7, .inl (fg_ T3))), (r 4, .inl (cI, 7, .inl (pl_ T3))), (r 5, .inl (cI, 7, .inl (pw_ T3))), (r 6, .inl (cI, 7, .inl (jy_ T3))), (r 13, .inl (cI, 96, .inl (mtp_ M2))), (r 14, .inl (cI, 48, .inl (mlt_ M2))), (r 15, .inl (cI, 48, .inl (mla_ M2))), (r 16, .inl (cI, 144, .inl (mtd_ M2))), (r 20, .inl (cI, 451, .inl (flatK (va_up (mkp_ M2) 2 B)))), (r 25, .inl (cI, 7, .inl (mof_ M2))), (r 26, .inl (cI, 7, .inl (mfa_ M2))), (r 30, .inl (cI, 12, .inl (mrw_ M2))), (r 32, .inl (cI, 8, .inl (mhb_ M2)))]) → va_S A s.heap H locs → ∀ ls : Array Slot, lv_has ls 14 [(13, .int x13_122), (11, .long x11_122), (10, .int (nI i)), (8, .long (pw_l (nI t_).toInt64 v_)), (6, .long (wy_ B a_ v_ (nI t_) i)), (5, .int (wTh_ (sn_ B) (nI a_) (nI v_) (nI t_) p_9)), (0, .ref (r 0)), (1, .int (nI a_)), (2, .int (nI v_)), (3, .int (nI t_)), (4, .int p_9)] → W p l e (jR 6) s m ([.ref (r 0), .int (nI a_), .int (nI v_), .int (nI t_), .int p_9] : List Value).toArray below meth c H locs 0 0 (MQ below (va_Ql (S := MT) (fun r u => r = (if wTh_ (sn_ B) (nI a_) (nI v_) (nI t_) p_9 = 0 then it_ (wy_ B (tn_ (nI a_)) (tn_ (nI v_)) (nI t_) (p2_ (tn_ (nI v_)))) (pw_l (nI t_).toInt64 (tn_ (nI v_))) p_9 else lref_ (wTh_ (sn_ B) (nI a_) (nI v_) (nI t_) p_9)) ∧ oQ_ M u (wTh_ (sn_ B) (nI a_) (nI v_) (nI t_) p_9)) (fun u (nI t_) => va_P D vwCl ((fun u => mW cI r B u) u) (nI t_).heap) A) ([.ref (r 0), .int (nI a_), .int (nI v_), .int (nI t_), .int p_9] : List Value).toArray s 0 0 A) (F0 m 122 ls []) := by
                      intro fu_122
                      induction fu_122 with
                      | zero => intro j x11_122 x13_122 T3 hx11_122 hx13_122 hT3 hj hfu; exact absurd hfu (Nat.not_lt_zero _)
                      | succ fu_122 ih_122 =>
                        intro j x11_122 x13_122 T3 hx11_122 hx13_122 hT3 hj hfu_122 H locs hP hD hS ls hl
                        subst x11_122
                        subst x13_122
                        subst T3
                        replace hl : lv_has ls 14 [(13, .int (nI j)), (11, .long (al_ (nI t_) i j)), (10, .int (nI i)), (8, .long (pw_l (nI t_).toInt64 v_)), (6, .long (wy_ B a_ v_ (nI t_) i)), (5, .int (wTh_ (sn_ B) (nI a_) (nI v_) (nI t_) p_9)), (0, .ref (r 0)), (1, .int (nI a_)), (2, .int (nI v_)), (3, .int (nI t_)), (4, .int p_9)] := hl
                        replace hP : va_P D vwCl ([(r 0, .inr (5, [.ref (r 1), .ref (r 2), .ref (r 3), .ref (r 4), .ref (r 5), .ref (r 6), .int (nI (sn_ (th_ B i j))), .int (qt_ (th_ B i j)), .int (il_ (th_ B i j)), .int (pa_ (th_ B i j)), .int (ho_ (th_ B i j)), .int (dy_ (th_ B i j)), .ref (r 13), .ref (r 14), .ref (r 15), .ref (r 16), .int (nI (mtn_ M2)), .int (nI (mrd_ M2)), .int (nI (msm_ M2)), .ref (r 20), .int (mhi_ M2), .int (1), .int (nI (41 * 2 + 41)), .int (nI (mbk_ M2)), .ref (r 25), .ref (r 26), .int (mlw_ M2), .int (mhg_ M2), .int (msl_ M2), .ref (r 30), .int (nI (mrm_ M2)), .ref (r 32), .int (mlo_ M2)])), (r 1, .inl (cI, 7, .inl (mrf_ M2))), (r 2, .inl (cI, 7, .inl (kd_ (th_ B i j)))), (r 3, .inl (cI, 7, .inl (fg_ (th_ B i j)))), (r 4, .inl (cI, 7, .inl (pl_ (th_ B i j)))), (r 5, .inl (cI, 7, .inl (pw_ (th_ B i j)))), (r 6, .inl (cI, 7, .inl (jy_ (th_ B i j)))), (r 13, .inl (cI, 96, .inl (mtp_ M2))), (r 14, .inl (cI, 48, .inl (mlt_ M2))), (r 15, .inl (cI, 48, .inl (mla_ M2))), (r 16, .inl (cI, 144, .inl (mtd_ M2))), (r 20, .inl (cI, 451, .inl (flatK (va_up (mkp_ M2) 2 B)))), (r 25, .inl (cI, 7, .inl (mof_ M2))), (r 26, .inl (cI, 7, .inl (mfa_ M2))), (r 30, .inl (cI, 12, .inl (mrw_ M2))), (r 32, .inl (cI, 8, .inl (mhb_ M2)))]) H := hP
                        replace hD : va_D A ([(r 0, .inr (5, [.ref (r 1), .ref (r 2), .ref (r 3), .ref (r 4), .ref (r 5), .ref (r 6), .int (nI (sn_ (th_ B i j))), .int (qt_ (th_ B i j)), .int (il_ (th_ B i j)), .int (pa_ (th_ B i j)), .int (ho_ (th_ B i j)), .int (dy_ (th_ B i j)), .ref (r 13), .ref (r 14), .ref (r 15), .ref (r 16), .int (nI (mtn_ M2)), .int (nI (mrd_ M2)), .int (nI (msm_ M2)), .ref (r 20), .int (mhi_ M2), .int (1), .int (nI (41 * 2 + 41)), .int (nI (mbk_ M2)), .ref (r 25), .ref (r 26), .int (mlw_ M2), .int (mhg_ M2), .int (msl_ M2), .ref (r 30), .int (nI (mrm_ M2)), .ref (r 32), .int (mlo_ M2)])), (r 1, .inl (cI, 7, .inl (mrf_ M2))), (r 2, .inl (cI, 7, .inl (kd_ (th_ B i j)))), (r 3, .inl (cI, 7, .inl (fg_ (th_ B i j)))), (r 4, .inl (cI, 7, .inl (pl_ (th_ B i j)))), (r 5, .inl (cI, 7, .inl (pw_ (th_ B i j)))), (r 6, .inl (cI, 7, .inl (jy_ (th_ B i j)))), (r 13, .inl (cI, 96, .inl (mtp_ M2))), (r 14, .inl (cI, 48, .inl (mlt_ M2))), (r 15, .inl (cI, 48, .inl (mla_ M2))), (r 16, .inl (cI, 144, .inl (mtd_ M2))), (r 20, .inl (cI, 451, .inl (flatK (va_up (mkp_ M2) 2 B)))), (r 25, .inl (cI, 7, .inl (mof_ M2))), (r 26, .inl (cI, 7, .inl (mfa_ M2))), (r 30, .inl (cI, 12, .inl (mrw_ M2))), (r 32, .inl (cI, 8, .inl (mhb_ M2)))]) := hD
                        refine lv_iload hx hb dX5_thunder_122 (lv_at hl 0 rfl) ?_
                        refine lv_iload_n hx hb dX5_thunder_124 rfl (lv_at hl 8 rfl) ?_
                        refine lv_icmp_ge (tgt := 168) hx hb dX5_thunder_125 (by decide) (fun c_125 => ?_) (fun c_125 => ?_)
                        · replace c_125 : nI v_ ≤ nI j := c_125
                          rw [jle (by omega) (by omega)] at c_125
                          refine lv_lload hx hb dX5_thunder_168 (lv_at hl 4 rfl) ?_
                          refine lv_aload_n hx hb dX5_thunder_170 rfl (lv_at hl 6 rfl) ?_
                          refine kSiV hx hb hml hown hts hK hP gX5_thunder_X5_holder okX5_holder (qX5_holder l D cI cB r (th_ B i j) (mkM (mrf_ M2) (mtp_ M2) (mlt_ M2) (mla_ M2) (mtd_ M2) (va_up (mkp_ M2) 2 B) (mof_ M2) (mfa_ M2) (mrw_ M2) (mhb_ M2) (mtn_ M2) (mrd_ M2) (msm_ M2) (41 * 2 + 41) (mbk_ M2) (mrm_ M2) (mhi_ M2) 1 (mlw_ M2) (mhg_ M2) (msl_ M2) (mlo_ M2)) (bI_th hI _ _).1) [0, 1, 2, 3, 4, 5, 6, 7, 8, 9, 10, 11, 12, 13, 14, 15] rfl rfl rfl rfl (by decide) hl.1 rfl rfl (Nat.le_of_ble_eq_true rfl) dX5_thunder_171 (by decide) (fun r_6 hr_7 => ?_)
                          replace hr_7 : r_6 = oI_ (ow_ (th_ B i j)) := hr_7
                          subst r_6
                          refine lv_iload_n hx hb dX5_thunder_174 rfl (lv_at hl 7 rfl) ?_
                          refine lv_icmp_ne (tgt := 183) hx hb dX5_thunder_175 (by decide) (fun c_175 => ?_) (fun c_175 => ?_)
                          · skip
                            refine lv_lconst (v := 0) hx hb dX5_thunder_183 rfl ?_
                            refine lv_ladd hx hb dX5_thunder_184 ?_
                            refine lv_lstore (lv' := [(6, .long ((wy_ B a_ v_ (nI t_) i) + 0)), (13, .int (nI j)), (11, .long (al_ (nI t_) i j)), (10, .int (nI i)), (8, .long (pw_l (nI t_).toInt64 v_)), (5, .int (wTh_ (sn_ B) (nI a_) (nI v_) (nI t_) p_9)), (0, .ref (r 0)), (1, .int (nI a_)), (2, .int (nI v_)), (3, .int (nI t_)), (4, .int p_9)]) hx hb dX5_thunder_185 hl (by decide) rfl (fun ls hl => ?_)
                            refine lv_aload_n hx hb dX5_thunder_187 rfl (lv_at hl 6 rfl) ?_
                            refine kMvV hx hb hml hown hts hK hP hD hA hS gX5_thunder_X5_forgets okX5_forgets (qX5_forgetsE l D cI cB r (th_ B i j) (mkM (mrf_ M2) (mtp_ M2) (mlt_ M2) (mla_ M2) (mtd_ M2) (va_up (mkp_ M2) 2 B) (mof_ M2) (mfa_ M2) (mrw_ M2) (mhb_ M2) (mtn_ M2) (mrd_ M2) (msm_ M2) (41 * 2 + 41) (mbk_ M2) (mrm_ M2) (mhi_ M2) 1 (mlw_ M2) (mhg_ M2) (msl_ M2) (mlo_ M2)) ) [0, 1, 2, 3, 4, 5, 6, 7, 8, 9, 10, 11, 12, 13, 14, 15] rfl (by decide) (fun _ => mW_adE rfl) rfl rfl rfl (by decide) hl.1 rfl rfl (Nat.le_of_ble_eq_true rfl) dX5_thunder_188 (by decide) (fun u_9 H locs hw_10 hP hD hS => ?_)
                            replace hP : va_P D vwCl ([(r 0, .inr (5, [.ref (r 1), .ref (r 2), .ref (r 3), .ref (r 4), .ref (r 5), .ref (r 6), .int (nI (sn_ B)), .int (qt_ B), .int (il_ B), .int (pa_ B), .int (ho_ B), .int (dy_ B), .ref (r 13), .ref (r 14), .ref (r 15), .ref (r 16), .int (nI (mtn_ M2)), .int (nI (mrd_ M2)), .int (nI (msm_ M2)), .ref (r 20), .int (mhi_ M2), .int (0), .int (nI (41 * 2 + 41)), .int (nI (mbk_ M2)), .ref (r 25), .ref (r 26), .int (mlw_ M2), .int (mhg_ M2), .int (msl_ M2), .ref (r 30), .int (nI (mrm_ M2)), .ref (r 32), .int (mlo_ M2)])), (r 1, .inl (cI, 7, .inl (mrf_ M2))), (r 2, .inl (cI, 7, .inl (kd_ B))), (r 3, .inl (cI, 7, .inl (fg_ B))), (r 4, .inl (cI, 7, .inl (pl_ B))), (r 5, .inl (cI, 7, .inl (pw_ B))), (r 6, .inl (cI, 7, .inl (jy_ B))), (r 13, .inl (cI, 96, .inl (mtp_ M2))), (r 14, .inl (cI, 48, .inl (mlt_ M2))), (r 15, .inl (cI, 48, .inl (mla_ M2))), (r 16, .inl (cI, 144, .inl (mtd_ M2))), (r 20, .inl (cI, 451, .inl (flatK (va_up (mkp_ M2) 2 B)))), (r 25, .inl (cI, 7, .inl (mof_ M2))), (r 26, .inl (cI, 7, .inl (mfa_ M2))), (r 30, .inl (cI, 12, .inl (mrw_ M2))), (r 32, .inl (cI, 8, .inl (mhb_ M2)))]) H := hP
                            replace hD : va_D A ([(r 0, .inr (5, [.ref (r 1), .ref (r 2), .ref (r 3), .ref (r 4), .ref (r 5), .ref (r 6), .int (nI (sn_ B)), .int (qt_ B), .int (il_ B), .int (pa_ B), .int (ho_ B), .int (dy_ B), .ref (r 13), .ref (r 14), .ref (r 15), .ref (r 16), .int (nI (mtn_ M2)), .int (nI (mrd_ M2)), .int (nI (msm_ M2)), .ref (r 20), .int (mhi_ M2), .int (0), .int (nI (41 * 2 + 41)), .int (nI (mbk_ M2)), .ref (r 25), .ref (r 26), .int (mlw_ M2), .int (mhg_ M2), .int (msl_ M2), .ref (r 30), .int (nI (mrm_ M2)), .ref (r 32), .int (mlo_ M2)])), (r 1, .inl (cI, 7, .inl (mrf_ M2))), (r 2, .inl (cI, 7, .inl (kd_ B))), (r 3, .inl (cI, 7, .inl (fg_ B))), (r 4, .inl (cI, 7, .inl (pl_ B))), (r 5, .inl (cI, 7, .inl (pw_ B))), (r 6, .inl (cI, 7, .inl (jy_ B))), (r 13, .inl (cI, 96, .inl (mtp_ M2))), (r 14, .inl (cI, 48, .inl (mlt_ M2))), (r 15, .inl (cI, 48, .inl (mla_ M2))), (r 16, .inl (cI, 144, .inl (mtd_ M2))), (r 20, .inl (cI, 451, .inl (flatK (va_up (mkp_ M2) 2 B)))), (r 25, .inl (cI, 7, .inl (mof_ M2))), (r 26, .inl (cI, 7, .inl (mfa_ M2))), (r 30, .inl (cI, 12, .inl (mrw_ M2))), (r 32, .inl (cI, 8, .inl (mhb_ M2)))]) := hD
                            refine lv_iinc (v := (nI i) + 1) (lv' := [(10, .int ((nI i) + 1)), (6, .long ((wy_ B a_ v_ (nI t_) i) + 0)), (13, .int (nI j)), (11, .long (al_ (nI t_) i j)), (8, .long (pw_l (nI t_).toInt64 v_)), (5, .int (wTh_ (sn_ B) (nI a_) (nI v_) (nI t_) p_9)), (0, .ref (r 0)), (1, .int (nI a_)), (2, .int (nI v_)), (3, .int (nI t_)), (4, .int p_9)]) hx hb dX5_thunder_191 hl (k := 3) rfl (by first | rfl | decide) (by decide) rfl (fun ls hl => ?_)
                            refine lv_goto (tgt := 104) hx hb dX5_thunder_194 (by decide) ?_
                            exact ih_104 (i + 1) ((wy_ B a_ v_ (nI t_) i) + 0) ((nI i) + 1) (mkM (mrf_ M2) (mtp_ M2) (mlt_ M2) (mla_ M2) (mtd_ M2) (va_up (mkp_ M2) 2 B) (mof_ M2) (mfa_ M2) (mrw_ M2) (mhb_ M2) (mtn_ M2) (mrd_ M2) (msm_ M2) (41 * 2 + 41) (mbk_ M2) (mrm_ M2) (mhi_ M2) 0 (mlw_ M2) (mhg_ M2) (msl_ M2) (mlo_ M2)) (by first | exact wy_y (by omega) ((ow_own (bI_th hI _ _) ha_).mp c_175) | exact wy_n (by omega) (fun z => c_175 ((ow_own (bI_th hI _ _) ha_).mpr z))) (by first | rfl | exact nI_1 _) (by omega) (oN_.tr hM (oN_pp _ _)) (by omega) _ _ hP hD hS ls (lv_sub hl [0, 4, 1, 5, 6, 7, 8, 9, 10] rfl)
                          · skip
                            refine lv_lload hx hb dX5_thunder_178 (lv_at hl 1 rfl) ?_
                            refine lv_goto (tgt := 184) hx hb dX5_thunder_180 (by decide) ?_
                            refine lv_ladd hx hb dX5_thunder_184 ?_
                            refine lv_lstore (lv' := [(6, .long ((wy_ B a_ v_ (nI t_) i) + (al_ (nI t_) i j))), (13, .int (nI j)), (11, .long (al_ (nI t_) i j)), (10, .int (nI i)), (8, .long (pw_l (nI t_).toInt64 v_)), (5, .int (wTh_ (sn_ B) (nI a_) (nI v_) (nI t_) p_9)), (0, .ref (r 0)), (1, .int (nI a_)), (2, .int (nI v_)), (3, .int (nI t_)), (4, .int p_9)]) hx hb dX5_thunder_185 hl (by decide) rfl (fun ls hl => ?_)
                            refine lv_aload_n hx hb dX5_thunder_187 rfl (lv_at hl 6 rfl) ?_
                            refine kMvV hx hb hml hown hts hK hP hD hA hS gX5_thunder_X5_forgets okX5_forgets (qX5_forgetsE l D cI cB r (th_ B i j) (mkM (mrf_ M2) (mtp_ M2) (mlt_ M2) (mla_ M2) (mtd_ M2) (va_up (mkp_ M2) 2 B) (mof_ M2) (mfa_ M2) (mrw_ M2) (mhb_ M2) (mtn_ M2) (mrd_ M2) (msm_ M2) (41 * 2 + 41) (mbk_ M2) (mrm_ M2) (mhi_ M2) 1 (mlw_ M2) (mhg_ M2) (msl_ M2) (mlo_ M2)) ) [0, 1, 2, 3, 4, 5, 6, 7, 8, 9, 10, 11, 12, 13, 14, 15] rfl (by decide) (fun _ => mW_adE rfl) rfl rfl rfl (by decide) hl.1 rfl rfl (Nat.le_of_ble_eq_true rfl) dX5_thunder_188 (by decide) (fun u_12 H locs hw_13 hP hD hS => ?_)
                            replace hP : va_P D vwCl ([(r 0, .inr (5, [.ref (r 1), .ref (r 2), .ref (r 3), .ref (r 4), .ref (r 5), .ref (r 6), .int (nI (sn_ B)), .int (qt_ B), .int (il_ B), .int (pa_ B), .int (ho_ B), .int (dy_ B), .ref (r 13), .ref (r 14), .ref (r 15), .ref (r 16), .int (nI (mtn_ M2)), .int (nI (mrd_ M2)), .int (nI (msm_ M2)), .ref (r 20), .int (mhi_ M2), .int (0), .int (nI (41 * 2 + 41)), .int (nI (mbk_ M2)), .ref (r 25), .ref (r 26), .int (mlw_ M2), .int (mhg_ M2), .int (msl_ M2), .ref (r 30), .int (nI (mrm_ M2)), .ref (r 32), .int (mlo_ M2)])), (r 1, .inl (cI, 7, .inl (mrf_ M2))), (r 2, .inl (cI, 7, .inl (kd_ B))), (r 3, .inl (cI, 7, .inl (fg_ B))), (r 4, .inl (cI, 7, .inl (pl_ B))), (r 5, .inl (cI, 7, .inl (pw_ B))), (r 6, .inl (cI, 7, .inl (jy_ B))), (r 13, .inl (cI, 96, .inl (mtp_ M2))), (r 14, .inl (cI, 48, .inl (mlt_ M2))), (r 15, .inl (cI, 48, .inl (mla_ M2))), (r 16, .inl (cI, 144, .inl (mtd_ M2))), (r 20, .inl (cI, 451, .inl (flatK (va_up (mkp_ M2) 2 B)))), (r 25, .inl (cI, 7, .inl (mof_ M2))), (r 26, .inl (cI, 7, .inl (mfa_ M2))), (r 30, .inl (cI, 12, .inl (mrw_ M2))), (r 32, .inl (cI, 8, .inl (mhb_ M2)))]) H := hP
                            replace hD : va_D A ([(r 0, .inr (5, [.ref (r 1), .ref (r 2), .ref (r 3), .ref (r 4), .ref (r 5), .ref (r 6), .int (nI (sn_ B)), .int (qt_ B), .int (il_ B), .int (pa_ B), .int (ho_ B), .int (dy_ B), .ref (r 13), .ref (r 14), .ref (r 15), .ref (r 16), .int (nI (mtn_ M2)), .int (nI (mrd_ M2)), .int (nI (msm_ M2)), .ref (r 20), .int (mhi_ M2), .int (0), .int (nI (41 * 2 + 41)), .int (nI (mbk_ M2)), .ref (r 25), .ref (r 26), .int (mlw_ M2), .int (mhg_ M2), .int (msl_ M2), .ref (r 30), .int (nI (mrm_ M2)), .ref (r 32), .int (mlo_ M2)])), (r 1, .inl (cI, 7, .inl (mrf_ M2))), (r 2, .inl (cI, 7, .inl (kd_ B))), (r 3, .inl (cI, 7, .inl (fg_ B))), (r 4, .inl (cI, 7, .inl (pl_ B))), (r 5, .inl (cI, 7, .inl (pw_ B))), (r 6, .inl (cI, 7, .inl (jy_ B))), (r 13, .inl (cI, 96, .inl (mtp_ M2))), (r 14, .inl (cI, 48, .inl (mlt_ M2))), (r 15, .inl (cI, 48, .inl (mla_ M2))), (r 16, .inl (cI, 144, .inl (mtd_ M2))), (r 20, .inl (cI, 451, .inl (flatK (va_up (mkp_ M2) 2 B)))), (r 25, .inl (cI, 7, .inl (mof_ M2))), (r 26, .inl (cI, 7, .inl (mfa_ M2))), (r 30, .inl (cI, 12, .inl (mrw_ M2))), (r 32, .inl (cI, 8, .inl (mhb_ M2)))]) := hD
                            refine lv_iinc (v := (nI i) + 1) (lv' := [(10, .int ((nI i) + 1)), (6, .long ((wy_ B a_ v_ (nI t_) i) + (al_ (nI t_) i j))), (13, .int (nI j)), (11, .long (al_ (nI t_) i j)), (8, .long (pw_l (nI t_).toInt64 v_)), (5, .int (wTh_ (sn_ B) (nI a_) (nI v_) (nI t_) p_9)), (0, .ref (r 0)), (1, .int (nI a_)), (2, .int (nI v_)), (3, .int (nI t_)), (4, .int p_9)]) hx hb dX5_thunder_191 hl (k := 3) rfl (by first | rfl | decide) (by decide) rfl (fun ls hl => ?_)
                            refine lv_goto (tgt := 104) hx hb dX5_thunder_194 (by decide) ?_
                            exact ih_104 (i + 1) ((wy_ B a_ v_ (nI t_) i) + (al_ (nI t_) i j)) ((nI i) + 1) (mkM (mrf_ M2) (mtp_ M2) (mlt_ M2) (mla_ M2) (mtd_ M2) (va_up (mkp_ M2) 2 B) (mof_ M2) (mfa_ M2) (mrw_ M2) (mhb_ M2) (mtn_ M2) (mrd_ M2) (msm_ M2) (41 * 2 + 41) (mbk_ M2) (mrm_ M2) (mhi_ M2) 0 (mlw_ M2) (mhg_ M2) (msl_ M2) (mlo_ M2)) (by first | exact wy_y (by omega) ((ow_own (bI_th hI _ _) ha_).mp c_175) | exact wy_n (by omega) (fun z => c_175 ((ow_own (bI_th hI _ _) ha_).mpr z))) (by first | rfl | exact nI_1 _) (by omega) (oN_.tr hM (oN_pp _ _)) (by omega) _ _ hP hD hS ls (lv_sub hl [0, 4, 1, 5, 6, 7, 8, 9, 10] rfl)
                        · replace c_125 : ¬ nI v_ ≤ nI j := c_125
                          rw [jle (by omega) (by omega)] at c_125
                          refine lv_lload hx hb dX5_thunder_128 (lv_at hl 1 rfl) ?_
                          refine lv_iload hx hb dX5_thunder_130 (lv_at hl 2 rfl) ?_
                          refine lv_iload hx hb dX5_thunder_132 (lv_at hl 0 rfl) ?_
                          refine kSiS hx hb hml hown hts hK hP gX5_thunder_X5_has okX5_has (qX5_has l D cI cB (nI i) j ) [] rfl (by decide) hl.1 rfl rfl (Nat.le_of_ble_eq_true rfl) dX5_thunder_134 (by decide) (fun r_14 hr_15 => ?_)
                          replace hr_15 : r_14 = b1 (qb_ (nI i) j = 1) := hr_15
                          subst r_14
                          refine lv_if_eq (tgt := 144) hx hb dX5_thunder_137 (by decide) (fun c_137 => ?_) (fun c_137 => ?_)
                          · replace c_137 := b1_z c_137
                            refine lv_iload_n hx hb dX5_thunder_144 rfl (lv_at hl 9 rfl) ?_
                            refine lv_iconst (v := 1) hx hb dX5_thunder_145 (by decide) ?_
                            refine lv_isub hx hb dX5_thunder_146 ?_
                            refine lv_i2l (v := ((nI t_) - 1 : Int32).toInt64) hx hb dX5_thunder_147 rfl ?_
                            refine lv_lmul hx hb dX5_thunder_148 ?_
                            refine lv_lstore (lv' := [(11, .long ((al_ (nI t_) i j) * (((nI t_) - 1 : Int32).toInt64))), (13, .int (nI j)), (10, .int (nI i)), (8, .long (pw_l (nI t_).toInt64 v_)), (6, .long (wy_ B a_ v_ (nI t_) i)), (5, .int (wTh_ (sn_ B) (nI a_) (nI v_) (nI t_) p_9)), (0, .ref (r 0)), (1, .int (nI a_)), (2, .int (nI v_)), (3, .int (nI t_)), (4, .int p_9)]) hx hb dX5_thunder_149 hl (by decide) rfl (fun ls hl => ?_)
                            refine lv_aload_n hx hb dX5_thunder_151 rfl (lv_at hl 6 rfl) ?_
                            refine lv_iload hx hb dX5_thunder_152 (lv_at hl 2 rfl) ?_
                            refine lv_iload hx hb dX5_thunder_154 (lv_at hl 1 rfl) ?_
                            refine kSiS hx hb hml hown hts hK hP gX5_thunder_X5_has okX5_has (qX5_has l D cI cB (nI i) j ) [] rfl (by decide) hl.1 rfl rfl (Nat.le_of_ble_eq_true rfl) dX5_thunder_156 (by decide) (fun r_16 hr_17 => ?_)
                            replace hr_17 : r_16 = b1 (qb_ (nI i) j = 1) := hr_17
                            subst r_16
                            refine kMvV hx hb hml hown hts hK hP hD hA hS gX5_thunder_X5_goesHour okX5_goesHour (qX5_goesHour l D cI cB r (th_ B i j) (mkM (mrf_ M2) (mtp_ M2) (mlt_ M2) (mla_ M2) (mtd_ M2) (va_up (mkp_ M2) 2 B) (mof_ M2) (mfa_ M2) (mrw_ M2) (mhb_ M2) (mtn_ M2) (mrd_ M2) (msm_ M2) (41 * 2 + 41) (mbk_ M2) (mrm_ M2) (mhi_ M2) 1 (mlw_ M2) (mhg_ M2) (msl_ M2) (mlo_ M2)) (qb_ (nI i) j = 1) inferInstance (bI_th hI _ _)) [0, 1, 2, 3, 4, 5, 6, 7, 8, 9, 10, 11, 12, 13, 14, 15] rfl (by decide) (fun _ => mW_adr _ _ _ _ _ _) rfl rfl rfl (by decide) hl.1 rfl rfl (Nat.le_of_ble_eq_true rfl) dX5_thunder_159 (by decide) (fun u_19 H locs hw_20 hP hD hS => ?_)
                            replace hw_20 : u_19 = hb_ (qb_ (nI i) j = 1) (th_ B i j) := hw_20
                            subst u_19
                            replace hP : va_P D vwCl ([(r 0, .inr (5, [.ref (r 1), .ref (r 2), .ref (r 3), .ref (r 4), .ref (r 5), .ref (r 6), .int (nI (sn_ (hb_ (qb_ (nI i) j = 1) (th_ B i j)))), .int (qt_ (hb_ (qb_ (nI i) j = 1) (th_ B i j))), .int (il_ (hb_ (qb_ (nI i) j = 1) (th_ B i j))), .int (pa_ (hb_ (qb_ (nI i) j = 1) (th_ B i j))), .int (ho_ (hb_ (qb_ (nI i) j = 1) (th_ B i j))), .int (dy_ (hb_ (qb_ (nI i) j = 1) (th_ B i j))), .ref (r 13), .ref (r 14), .ref (r 15), .ref (r 16), .int (nI (mtn_ M2)), .int (nI (mrd_ M2)), .int (nI (msm_ M2)), .ref (r 20), .int (mhi_ M2), .int (1), .int (nI (41 * 2 + 41)), .int (nI (mbk_ M2)), .ref (r 25), .ref (r 26), .int (mlw_ M2), .int (mhg_ M2), .int (msl_ M2), .ref (r 30), .int (nI (mrm_ M2)), .ref (r 32), .int (mlo_ M2)])), (r 1, .inl (cI, 7, .inl (mrf_ M2))), (r 2, .inl (cI, 7, .inl (kd_ (hb_ (qb_ (nI i) j = 1) (th_ B i j))))), (r 3, .inl (cI, 7, .inl (fg_ (hb_ (qb_ (nI i) j = 1) (th_ B i j))))), (r 4, .inl (cI, 7, .inl (pl_ (hb_ (qb_ (nI i) j = 1) (th_ B i j))))), (r 5, .inl (cI, 7, .inl (pw_ (hb_ (qb_ (nI i) j = 1) (th_ B i j))))), (r 6, .inl (cI, 7, .inl (jy_ (hb_ (qb_ (nI i) j = 1) (th_ B i j))))), (r 13, .inl (cI, 96, .inl (mtp_ M2))), (r 14, .inl (cI, 48, .inl (mlt_ M2))), (r 15, .inl (cI, 48, .inl (mla_ M2))), (r 16, .inl (cI, 144, .inl (mtd_ M2))), (r 20, .inl (cI, 451, .inl (flatK (va_up (mkp_ M2) 2 B)))), (r 25, .inl (cI, 7, .inl (mof_ M2))), (r 26, .inl (cI, 7, .inl (mfa_ M2))), (r 30, .inl (cI, 12, .inl (mrw_ M2))), (r 32, .inl (cI, 8, .inl (mhb_ M2)))]) H := hP
                            replace hD : va_D A ([(r 0, .inr (5, [.ref (r 1), .ref (r 2), .ref (r 3), .ref (r 4), .ref (r 5), .ref (r 6), .int (nI (sn_ (hb_ (qb_ (nI i) j = 1) (th_ B i j)))), .int (qt_ (hb_ (qb_ (nI i) j = 1) (th_ B i j))), .int (il_ (hb_ (qb_ (nI i) j = 1) (th_ B i j))), .int (pa_ (hb_ (qb_ (nI i) j = 1) (th_ B i j))), .int (ho_ (hb_ (qb_ (nI i) j = 1) (th_ B i j))), .int (dy_ (hb_ (qb_ (nI i) j = 1) (th_ B i j))), .ref (r 13), .ref (r 14), .ref (r 15), .ref (r 16), .int (nI (mtn_ M2)), .int (nI (mrd_ M2)), .int (nI (msm_ M2)), .ref (r 20), .int (mhi_ M2), .int (1), .int (nI (41 * 2 + 41)), .int (nI (mbk_ M2)), .ref (r 25), .ref (r 26), .int (mlw_ M2), .int (mhg_ M2), .int (msl_ M2), .ref (r 30), .int (nI (mrm_ M2)), .ref (r 32), .int (mlo_ M2)])), (r 1, .inl (cI, 7, .inl (mrf_ M2))), (r 2, .inl (cI, 7, .inl (kd_ (hb_ (qb_ (nI i) j = 1) (th_ B i j))))), (r 3, .inl (cI, 7, .inl (fg_ (hb_ (qb_ (nI i) j = 1) (th_ B i j))))), (r 4, .inl (cI, 7, .inl (pl_ (hb_ (qb_ (nI i) j = 1) (th_ B i j))))), (r 5, .inl (cI, 7, .inl (pw_ (hb_ (qb_ (nI i) j = 1) (th_ B i j))))), (r 6, .inl (cI, 7, .inl (jy_ (hb_ (qb_ (nI i) j = 1) (th_ B i j))))), (r 13, .inl (cI, 96, .inl (mtp_ M2))), (r 14, .inl (cI, 48, .inl (mlt_ M2))), (r 15, .inl (cI, 48, .inl (mla_ M2))), (r 16, .inl (cI, 144, .inl (mtd_ M2))), (r 20, .inl (cI, 451, .inl (flatK (va_up (mkp_ M2) 2 B)))), (r 25, .inl (cI, 7, .inl (mof_ M2))), (r 26, .inl (cI, 7, .inl (mfa_ M2))), (r 30, .inl (cI, 12, .inl (mrw_ M2))), (r 32, .inl (cI, 8, .inl (mhb_ M2)))]) := hD
                            refine lv_iinc (v := (nI j) + 1) (lv' := [(13, .int ((nI j) + 1)), (11, .long ((al_ (nI t_) i j) * (((nI t_) - 1 : Int32).toInt64))), (10, .int (nI i)), (8, .long (pw_l (nI t_).toInt64 v_)), (6, .long (wy_ B a_ v_ (nI t_) i)), (5, .int (wTh_ (sn_ B) (nI a_) (nI v_) (nI t_) p_9)), (0, .ref (r 0)), (1, .int (nI a_)), (2, .int (nI v_)), (3, .int (nI t_)), (4, .int p_9)]) hx hb dX5_thunder_162 hl (k := 1) rfl (by first | rfl | decide) (by decide) rfl (fun ls hl => ?_)
                            refine lv_goto (tgt := 122) hx hb dX5_thunder_165 (by decide) ?_
                            exact ih_122 (j + 1) ((al_ (nI t_) i j) * (((nI t_) - 1 : Int32).toInt64)) ((nI j) + 1) (hb_ (qb_ (nI i) j = 1) (th_ B i j)) (by simp only [al_]; first | rw [if_pos c_137] | rw [if_neg c_137]) (by first | rfl | exact nI_1 _) (rfl) (by omega) (by omega) _ _ hP hD hS ls (lv_sub hl [0, 1, 2, 3, 4, 5, 6, 7, 8, 9, 10] rfl)
                          · replace c_137 := b1_n c_137
                            refine lv_lconst (v := 1) hx hb dX5_thunder_140 rfl ?_
                            refine lv_goto (tgt := 148) hx hb dX5_thunder_141 (by decide) ?_
                            refine lv_lmul hx hb dX5_thunder_148 ?_
                            refine lv_lstore (lv' := [(11, .long ((al_ (nI t_) i j) * 1)), (13, .int (nI j)), (10, .int (nI i)), (8, .long (pw_l (nI t_).toInt64 v_)), (6, .long (wy_ B a_ v_ (nI t_) i)), (5, .int (wTh_ (sn_ B) (nI a_) (nI v_) (nI t_) p_9)), (0, .ref (r 0)), (1, .int (nI a_)), (2, .int (nI v_)), (3, .int (nI t_)), (4, .int p_9)]) hx hb dX5_thunder_149 hl (by decide) rfl (fun ls hl => ?_)
                            refine lv_aload_n hx hb dX5_thunder_151 rfl (lv_at hl 6 rfl) ?_
                            refine lv_iload hx hb dX5_thunder_152 (lv_at hl 2 rfl) ?_
                            refine lv_iload hx hb dX5_thunder_154 (lv_at hl 1 rfl) ?_
                            refine kSiS hx hb hml hown hts hK hP gX5_thunder_X5_has okX5_has (qX5_has l D cI cB (nI i) j ) [] rfl (by decide) hl.1 rfl rfl (Nat.le_of_ble_eq_true rfl) dX5_thunder_156 (by decide) (fun r_21 hr_22 => ?_)
                            replace hr_22 : r_21 = b1 (qb_ (nI i) j = 1) := hr_22
                            subst r_21
                            refine kMvV hx hb hml hown hts hK hP hD hA hS gX5_thunder_X5_goesHour okX5_goesHour (qX5_goesHour l D cI cB r (th_ B i j) (mkM (mrf_ M2) (mtp_ M2) (mlt_ M2) (mla_ M2) (mtd_ M2) (va_up (mkp_ M2) 2 B) (mof_ M2) (mfa_ M2) (mrw_ M2) (mhb_ M2) (mtn_ M2) (mrd_ M2) (msm_ M2) (41 * 2 + 41) (mbk_ M2) (mrm_ M2) (mhi_ M2) 1 (mlw_ M2) (mhg_ M2) (msl_ M2) (mlo_ M2)) (qb_ (nI i) j = 1) inferInstance (bI_th hI _ _)) [0, 1, 2, 3, 4, 5, 6, 7, 8, 9, 10, 11, 12, 13, 14, 15] rfl (by decide) (fun _ => mW_adr _ _ _ _ _ _) rfl rfl rfl (by decide) hl.1 rfl rfl (Nat.le_of_ble_eq_true rfl) dX5_thunder_159 (by decide) (fun u_24 H locs hw_25 hP hD hS => ?_)
                            replace hw_25 : u_24 = hb_ (qb_ (nI i) j = 1) (th_ B i j) := hw_25
                            subst u_24
                            replace hP : va_P D vwCl ([(r 0, .inr (5, [.ref (r 1), .ref (r 2), .ref (r 3), .ref (r 4), .ref (r 5), .ref (r 6), .int (nI (sn_ (hb_ (qb_ (nI i) j = 1) (th_ B i j)))), .int (qt_ (hb_ (qb_ (nI i) j = 1) (th_ B i j))), .int (il_ (hb_ (qb_ (nI i) j = 1) (th_ B i j))), .int (pa_ (hb_ (qb_ (nI i) j = 1) (th_ B i j))), .int (ho_ (hb_ (qb_ (nI i) j = 1) (th_ B i j))), .int (dy_ (hb_ (qb_ (nI i) j = 1) (th_ B i j))), .ref (r 13), .ref (r 14), .ref (r 15), .ref (r 16), .int (nI (mtn_ M2)), .int (nI (mrd_ M2)), .int (nI (msm_ M2)), .ref (r 20), .int (mhi_ M2), .int (1), .int (nI (41 * 2 + 41)), .int (nI (mbk_ M2)), .ref (r 25), .ref (r 26), .int (mlw_ M2), .int (mhg_ M2), .int (msl_ M2), .ref (r 30), .int (nI (mrm_ M2)), .ref (r 32), .int (mlo_ M2)])), (r 1, .inl (cI, 7, .inl (mrf_ M2))), (r 2, .inl (cI, 7, .inl (kd_ (hb_ (qb_ (nI i) j = 1) (th_ B i j))))), (r 3, .inl (cI, 7, .inl (fg_ (hb_ (qb_ (nI i) j = 1) (th_ B i j))))), (r 4, .inl (cI, 7, .inl (pl_ (hb_ (qb_ (nI i) j = 1) (th_ B i j))))), (r 5, .inl (cI, 7, .inl (pw_ (hb_ (qb_ (nI i) j = 1) (th_ B i j))))), (r 6, .inl (cI, 7, .inl (jy_ (hb_ (qb_ (nI i) j = 1) (th_ B i j))))), (r 13, .inl (cI, 96, .inl (mtp_ M2))), (r 14, .inl (cI, 48, .inl (mlt_ M2))), (r 15, .inl (cI, 48, .inl (mla_ M2))), (r 16, .inl (cI, 144, .inl (mtd_ M2))), (r 20, .inl (cI, 451, .inl (flatK (va_up (mkp_ M2) 2 B)))), (r 25, .inl (cI, 7, .inl (mof_ M2))), (r 26, .inl (cI, 7, .inl (mfa_ M2))), (r 30, .inl (cI, 12, .inl (mrw_ M2))), (r 32, .inl (cI, 8, .inl (mhb_ M2)))]) H := hP
                            replace hD : va_D A ([(r 0, .inr (5, [.ref (r 1), .ref (r 2), .ref (r 3), .ref (r 4), .ref (r 5), .ref (r 6), .int (nI (sn_ (hb_ (qb_ (nI i) j = 1) (th_ B i j)))), .int (qt_ (hb_ (qb_ (nI i) j = 1) (th_ B i j))), .int (il_ (hb_ (qb_ (nI i) j = 1) (th_ B i j))), .int (pa_ (hb_ (qb_ (nI i) j = 1) (th_ B i j))), .int (ho_ (hb_ (qb_ (nI i) j = 1) (th_ B i j))), .int (dy_ (hb_ (qb_ (nI i) j = 1) (th_ B i j))), .ref (r 13), .ref (r 14), .ref (r 15), .ref (r 16), .int (nI (mtn_ M2)), .int (nI (mrd_ M2)), .int (nI (msm_ M2)), .ref (r 20), .int (mhi_ M2), .int (1), .int (nI (41 * 2 + 41)), .int (nI (mbk_ M2)), .ref (r 25), .ref (r 26), .int (mlw_ M2), .int (mhg_ M2), .int (msl_ M2), .ref (r 30), .int (nI (mrm_ M2)), .ref (r 32), .int (mlo_ M2)])), (r 1, .inl (cI, 7, .inl (mrf_ M2))), (r 2, .inl (cI, 7, .inl (kd_ (hb_ (qb_ (nI i) j = 1) (th_ B i j))))), (r 3, .inl (cI, 7, .inl (fg_ (hb_ (qb_ (nI i) j = 1) (th_ B i j))))), (r 4, .inl (cI, 7, .inl (pl_ (hb_ (qb_ (nI i) j = 1) (th_ B i j))))), (r 5, .inl (cI, 7, .inl (pw_ (hb_ (qb_ (nI i) j = 1) (th_ B i j))))), (r 6, .inl (cI, 7, .inl (jy_ (hb_ (qb_ (nI i) j = 1) (th_ B i j))))), (r 13, .inl (cI, 96, .inl (mtp_ M2))), (r 14, .inl (cI, 48, .inl (mlt_ M2))), (r 15, .inl (cI, 48, .inl (mla_ M2))), (r 16, .inl (cI, 144, .inl (mtd_ M2))), (r 20, .inl (cI, 451, .inl (flatK (va_up (mkp_ M2) 2 B)))), (r 25, .inl (cI, 7, .inl (mof_ M2))), (r 26, .inl (cI, 7, .inl (mfa_ M2))), (r 30, .inl (cI, 12, .inl (mrw_ M2))), (r 32, .inl (cI, 8, .inl (mhb_ M2)))]) := hD
                            refine lv_iinc (v := (nI j) + 1) (lv' := [(13, .int ((nI j) + 1)), (11, .long ((al_ (nI t_) i j) * 1)), (10, .int (nI i)), (8, .long (pw_l (nI t_).toInt64 v_)), (6, .long (wy_ B a_ v_ (nI t_) i)), (5, .int (wTh_ (sn_ B) (nI a_) (nI v_) (nI t_) p_9)), (0, .ref (r 0)), (1, .int (nI a_)), (2, .int (nI v_)), (3, .int (nI t_)), (4, .int p_9)]) hx hb dX5_thunder_162 hl (k := 1) rfl (by first | rfl | decide) (by decide) rfl (fun ls hl => ?_)
                            refine lv_goto (tgt := 122) hx hb dX5_thunder_165 (by decide) ?_
                            exact ih_122 (j + 1) ((al_ (nI t_) i j) * 1) ((nI j) + 1) (hb_ (qb_ (nI i) j = 1) (th_ B i j)) (by simp only [al_]; first | rw [if_pos c_137] | rw [if_neg c_137]) (by first | rfl | exact nI_1 _) (rfl) (by omega) (by omega) _ _ hP hD hS ls (lv_sub hl [0, 1, 2, 3, 4, 5, 6, 7, 8, 9, 10] rfl)
                    exact lp_122 (v_ + 1) 0 1 0 B (rfl) (by first | rfl | exact nI_0.symm) (rfl) (by omega) (by omega) _ _ hP hD hS ls (lv_sub hl [0, 1, 2, 3, 4, 5, 6, 7, 8, 9, 10] rfl)
              exact lp_104 ((p2_ v_) + 1) 0 0 0 M (rfl) (by first | rfl | exact nI_0.symm) (by omega) (oN_.rf _) (by omega) _ _ hP hD hS ls (lv_sub hl [0, 1, 2, 3, 4, 5, 6, 7, 8] rfl)
            · replace c_85 : ¬ nI v_ ≤ nI i8 := c_85
              rw [jle (by omega) (by omega)] at c_85
              refine lv_lload hx hb dX5_thunder_88 (lv_at hl 1 rfl) ?_
              refine lv_iload_n hx hb dX5_thunder_90 rfl (lv_at hl 7 rfl) ?_
              refine lv_i2l (v := ((nI t_) : Int32).toInt64) hx hb dX5_thunder_91 rfl ?_
              refine lv_lmul hx hb dX5_thunder_92 ?_
              refine lv_lstore (lv' := [(8, .long ((pw_l (nI t_).toInt64 i8) * (((nI t_) : Int32).toInt64))), (10, .int (nI i8)), (6, .long 0), (5, .int (wTh_ (sn_ B) (nI a_) (nI v_) (nI t_) p_9)), (0, .ref (r 0)), (1, .int (nI a_)), (2, .int (nI v_)), (3, .int (nI t_)), (4, .int p_9)]) hx hb dX5_thunder_93 hl (by decide) rfl (fun ls hl => ?_)
              refine lv_iinc (v := (nI i8) + 1) (lv' := [(10, .int ((nI i8) + 1)), (8, .long ((pw_l (nI t_).toInt64 i8) * (((nI t_) : Int32).toInt64))), (6, .long 0), (5, .int (wTh_ (sn_ B) (nI a_) (nI v_) (nI t_) p_9)), (0, .ref (r 0)), (1, .int (nI a_)), (2, .int (nI v_)), (3, .int (nI t_)), (4, .int p_9)]) hx hb dX5_thunder_95 hl (k := 1) rfl (by first | rfl | decide) (by decide) rfl (fun ls hl => ?_)
              refine lv_goto (tgt := 82) hx hb dX5_thunder_98 (by decide) ?_
              exact ih_82 (i8 + 1) ((pw_l (nI t_).toInt64 i8) * (((nI t_) : Int32).toInt64)) ((nI i8) + 1)  (rfl) (by first | rfl | exact nI_1 _) (by omega) (by omega) _ _ hP hD hS ls (lv_sub hl [0, 1, 2, 3, 4, 5, 6, 7, 8] rfl)
        exact lp_82 (v_ + 1) 0 1 0  (rfl) (by first | rfl | exact nI_0.symm) (by omega) (by omega) _ _ hP hD hS ls (lv_sub hl [0, 1, 2, 3, 4, 5, 6, 7, 8] rfl)
      · skip
        refine lv_aload_n hx hb dX5_thunder_66 rfl (lv_at hl 1 rfl) ?_
        refine lv_iload hx hb dX5_thunder_67 (lv_at hl 0 rfl) ?_
        refine kMlV hx hb hml hown hts hK hP hD hA hS gX5_thunder_X5_lowestOf okX5_lowestOf (qX5_lowestOf l D cI cB r B M (wTh_ (sn_ B) a v t p_9) (rc0_n (by first | exact rc0_wS _ _ | exact rc0_wSN _ _ _ | exact rc0_wSNW _ _ _ _ | exact rc0_wNW _ _ | exact rc0_wTh _ _ _ _ _ | exact rc0_wTr _ _ _ _ | exact rc0_nb _ _ | exact rc0_uk _ _ | exact rc0_ob _ _ _ | exact rc0_f2 (rc0_nb _ _) (rc0_nb _ _) | exact rc0_f2 (rc0_nb _ _) (rc0_uk _ _) | exact rc0_f2 (rc0_ob _ _ _) (rc0_uk _ _) | exact rc0_f2 (rc0_uk _ _) (rc0_f2 (rc0_uk _ _) (rc0_ob _ _ _))) c_63)) [0, 1, 2, 3, 4, 5, 6, 7, 8, 9, 10, 11, 12, 13, 14, 15] rfl (by decide) (fun _ => mW_adr _ _ _ _ _ _) rfl rfl rfl (by decide) hl.1 rfl rfl (Nat.le_of_ble_eq_true rfl) dX5_thunder_69 (by decide) (fun r_26 u_27 H locs hw_28 hP hD hS => ?_)
        replace hw_28 : r_26 = lref_ (wTh_ (sn_ B) a v t p_9) ∧ u_27 = (rfm_ M (wTh_ (sn_ B) a v t p_9)) := hw_28
        obtain ⟨hw_28a, hw_28b⟩ := hw_28
        subst r_26
        subst u_27
        replace hP : va_P D vwCl ([(r 0, .inr (5, [.ref (r 1), .ref (r 2), .ref (r 3), .ref (r 4), .ref (r 5), .ref (r 6), .int (nI (sn_ B)), .int (qt_ B), .int (il_ B), .int (pa_ B), .int (ho_ B), .int (dy_ B), .ref (r 13), .ref (r 14), .ref (r 15), .ref (r 16), .int (nI (mtn_ M)), .int (nI (mrd_ M)), .int (nI (msm_ M)), .ref (r 20), .int (mhi_ M), .int (mik_ M), .int (nI (mcu_ M)), .int (nI (mbk_ M)), .ref (r 25), .ref (r 26), .int (mlw_ M), .int (mhg_ M), .int (msl_ M), .ref (r 30), .int (nI (mrm_ M)), .ref (r 32), .int (mlo_ M)])), (r 1, .inl (cI, 7, .inl (rfx_ (mrf_ M) (wTh_ (sn_ B) a v t p_9)))), (r 2, .inl (cI, 7, .inl (kd_ B))), (r 3, .inl (cI, 7, .inl (fg_ B))), (r 4, .inl (cI, 7, .inl (pl_ B))), (r 5, .inl (cI, 7, .inl (pw_ B))), (r 6, .inl (cI, 7, .inl (jy_ B))), (r 13, .inl (cI, 96, .inl (mtp_ M))), (r 14, .inl (cI, 48, .inl (mlt_ M))), (r 15, .inl (cI, 48, .inl (mla_ M))), (r 16, .inl (cI, 144, .inl (mtd_ M))), (r 20, .inl (cI, 451, .inl (flatK (mkp_ M)))), (r 25, .inl (cI, 7, .inl (mof_ M))), (r 26, .inl (cI, 7, .inl (mfa_ M))), (r 30, .inl (cI, 12, .inl (mrw_ M))), (r 32, .inl (cI, 8, .inl (mhb_ M)))]) H := hP
        replace hD : va_D A ([(r 0, .inr (5, [.ref (r 1), .ref (r 2), .ref (r 3), .ref (r 4), .ref (r 5), .ref (r 6), .int (nI (sn_ B)), .int (qt_ B), .int (il_ B), .int (pa_ B), .int (ho_ B), .int (dy_ B), .ref (r 13), .ref (r 14), .ref (r 15), .ref (r 16), .int (nI (mtn_ M)), .int (nI (mrd_ M)), .int (nI (msm_ M)), .ref (r 20), .int (mhi_ M), .int (mik_ M), .int (nI (mcu_ M)), .int (nI (mbk_ M)), .ref (r 25), .ref (r 26), .int (mlw_ M), .int (mhg_ M), .int (msl_ M), .ref (r 30), .int (nI (mrm_ M)), .ref (r 32), .int (mlo_ M)])), (r 1, .inl (cI, 7, .inl (rfx_ (mrf_ M) (wTh_ (sn_ B) a v t p_9)))), (r 2, .inl (cI, 7, .inl (kd_ B))), (r 3, .inl (cI, 7, .inl (fg_ B))), (r 4, .inl (cI, 7, .inl (pl_ B))), (r 5, .inl (cI, 7, .inl (pw_ B))), (r 6, .inl (cI, 7, .inl (jy_ B))), (r 13, .inl (cI, 96, .inl (mtp_ M))), (r 14, .inl (cI, 48, .inl (mlt_ M))), (r 15, .inl (cI, 48, .inl (mla_ M))), (r 16, .inl (cI, 144, .inl (mtd_ M))), (r 20, .inl (cI, 451, .inl (flatK (mkp_ M)))), (r 25, .inl (cI, 7, .inl (mof_ M))), (r 26, .inl (cI, 7, .inl (mfa_ M))), (r 30, .inl (cI, 12, .inl (mrw_ M))), (r 32, .inl (cI, 8, .inl (mhb_ M)))]) := hD
        refine rMl hx hb hr hlk hS (rfm_ M (wTh_ (sn_ B) a v t p_9)) hP ?_ dX5_thunder_72
        first | exact ⟨(if_neg c_63).symm, oQ_n _ _⟩ | (refine ⟨?_, oQ_0 c_63 ?_⟩; · (rw [if_pos c_63]; simp only [tn_n (show a_ < 2147483648 by omega), tn_n (show v_ < 2147483648 by omega), tn_n (show t_ < 2147483648 by omega)]; first | rfl | done); · (first | exact (oN_mk (by assumption)).m | exact oM_.rf _ | exact (oN_pp _ _).m | exact (oN_fo _ _ _ _).m | assumption | (apply oN_.m; assumption) | exact oM_.tr (by assumption) (by assumption)))
  refine lv_aload_n hx hb dX5_thunder_0 rfl (lv_at hl 0 rfl) ?_
  refine lv_iload_n hx hb dX5_thunder_1 rfl (lv_at hl 1 rfl) ?_
  refine kSiV hx hb hml hown hts hK hP gX5_thunder_X5_isShore okX5_isShore (qX5_isShore l D cI cB r B M a (by show sn_ B ≤ 7; omega)) [0, 1, 2, 3, 4, 5, 6, 7, 8, 9, 10, 11, 12, 13, 14, 15] rfl rfl rfl rfl (by decide) hl.1 rfl rfl (Nat.le_of_ble_eq_true rfl) dX5_thunder_2 (by decide) (fun r_29 hr_30 => ?_)
  replace hr_30 : r_29 = b1 (0 ≤ a ∧ a < nI (sn_ B)) := hr_30
  subst r_29
  refine lv_if_ne (tgt := 12) hx hb dX5_thunder_5 (by decide) (fun c_5 => ?_) (fun c_5 => ?_)
  · replace c_5 := b1_n c_5
    refine lv_iload_n hx hb dX5_thunder_12 rfl (lv_at hl 2 rfl) ?_
    refine lv_if_lt (tgt := 21) hx hb dX5_thunder_13 (by decide) (fun c_13 => ?_) (fun c_13 => ?_)
    · have d_13 := Int32.not_le.mpr c_13
      refine lv_bipush (v := (-4)) hx hb dX5_thunder_21 (by decide) ?_
      refine lv_goto (tgt := 59) hx hb dX5_thunder_23 (by decide) ?_
      refine lv_istore (lv' := [(5, .int (-4)), (0, .ref (r 0)), (1, .int a), (2, .int v), (3, .int t), (4, .int p_9)]) hx hb dX5_thunder_59 hl (by decide) rfl (fun ls hl => ?_)
      exact jn_61  (-4)  (by first | exact (th_1 c_5).symm | exact (th_2 c_5 c_13).symm | exact (th_3 c_5 c_13 c_18).symm | exact (th_4 c_5 c_13 c_18 c_29).symm | exact (th_5 c_5 c_13 c_18 c_29 c_35).symm | exact (th_6 c_5 c_13 c_18 c_29 c_35 c_50).symm | exact (th_7 c_5 c_13 c_18 c_29 c_35 c_50).symm)   _ _ hP hD hS ls (lv_sub hl [0, 1, 2, 3, 4, 5] rfl)
    · have d_13 := Int32.not_lt.mp c_13
      refine lv_iload_n hx hb dX5_thunder_16 rfl (lv_at hl 3 rfl) ?_
      refine lv_iconst (v := 2) hx hb dX5_thunder_17 (by decide) ?_
      refine lv_icmp_ge (tgt := 26) hx hb dX5_thunder_18 (by decide) (fun c_18 => ?_) (fun c_18 => ?_)
      · have d_18 := Int32.not_lt.mpr c_18
        refine lv_iload_n hx hb dX5_thunder_26 rfl (lv_at hl 2 rfl) ?_
        refine lv_bipush (v := 7) hx hb dX5_thunder_27 (by decide) ?_
        refine lv_icmp_gt (tgt := 38) hx hb dX5_thunder_29 (by decide) (fun c_29 => ?_) (fun c_29 => ?_)
        · have d_29 := Int32.not_le.mpr c_29
          refine lv_bipush (v := (-6)) hx hb dX5_thunder_38 (by decide) ?_
          refine lv_goto (tgt := 59) hx hb dX5_thunder_40 (by decide) ?_
          refine lv_istore (lv' := [(5, .int (-6)), (0, .ref (r 0)), (1, .int a), (2, .int v), (3, .int t), (4, .int p_9)]) hx hb dX5_thunder_59 hl (by decide) rfl (fun ls hl => ?_)
          exact jn_61  (-6)  (by first | exact (th_1 c_5).symm | exact (th_2 c_5 c_13).symm | exact (th_3 c_5 c_13 c_18).symm | exact (th_4 c_5 c_13 c_18 c_29).symm | exact (th_5 c_5 c_13 c_18 c_29 c_35).symm | exact (th_6 c_5 c_13 c_18 c_29 c_35 c_50).symm | exact (th_7 c_5 c_13 c_18 c_29 c_35 c_50).symm)   _ _ hP hD hS ls (lv_sub hl [0, 1, 2, 3, 4, 5] rfl)
        · have d_29 := Int32.not_lt.mp c_29
          refine lv_iload_n hx hb dX5_thunder_32 rfl (lv_at hl 3 rfl) ?_
          refine lv_bipush (v := 20) hx hb dX5_thunder_33 (by decide) ?_
          refine lv_icmp_le (tgt := 43) hx hb dX5_thunder_35 (by decide) (fun c_35 => ?_) (fun c_35 => ?_)
          · have d_35 := Int32.not_lt.mpr c_35
            refine lv_iload hx hb dX5_thunder_43 (lv_at hl 4 rfl) ?_
            refine lv_iconst (v := 0) hx hb dX5_thunder_45 (by decide) ?_
            refine lv_iconst (v := 1) hx hb dX5_thunder_46 (by decide) ?_
            refine kSiS hx hb hml hown hts hK hP gX5_thunder_X5_isIn okX5_isIn (qX5_isIn l D cI cB p_9 0 1 ) [] rfl (by decide) hl.1 rfl rfl (Nat.le_of_ble_eq_true rfl) dX5_thunder_47 (by decide) (fun r_31 hr_32 => ?_)
            replace hr_32 : r_31 = b1 (0 ≤ p_9 ∧ p_9 ≤ 1) := hr_32
            subst r_31
            refine lv_if_ne (tgt := 58) hx hb dX5_thunder_50 (by decide) (fun c_50 => ?_) (fun c_50 => ?_)
            · replace c_50 := b1_n c_50
              refine lv_iconst (v := 0) hx hb dX5_thunder_58 (by decide) ?_
              refine lv_istore (lv' := [(5, .int 0), (0, .ref (r 0)), (1, .int a), (2, .int v), (3, .int t), (4, .int p_9)]) hx hb dX5_thunder_59 hl (by decide) rfl (fun ls hl => ?_)
              exact jn_61  0  (by first | exact (th_1 c_5).symm | exact (th_2 c_5 c_13).symm | exact (th_3 c_5 c_13 c_18).symm | exact (th_4 c_5 c_13 c_18 c_29).symm | exact (th_5 c_5 c_13 c_18 c_29 c_35).symm | exact (th_6 c_5 c_13 c_18 c_29 c_35 c_50).symm | exact (th_7 c_5 c_13 c_18 c_29 c_35 c_50).symm)   _ _ hP hD hS ls (lv_sub hl [0, 1, 2, 3, 4, 5] rfl)
            · replace c_50 := b1_z c_50
              refine lv_bipush (v := (-2)) hx hb dX5_thunder_53 (by decide) ?_
              refine lv_goto (tgt := 59) hx hb dX5_thunder_55 (by decide) ?_
              refine lv_istore (lv' := [(5, .int (-2)), (0, .ref (r 0)), (1, .int a), (2, .int v), (3, .int t), (4, .int p_9)]) hx hb dX5_thunder_59 hl (by decide) rfl (fun ls hl => ?_)
              exact jn_61  (-2)  (by first | exact (th_1 c_5).symm | exact (th_2 c_5 c_13).symm | exact (th_3 c_5 c_13 c_18).symm | exact (th_4 c_5 c_13 c_18 c_29).symm | exact (th_5 c_5 c_13 c_18 c_29 c_35).symm | exact (th_6 c_5 c_13 c_18 c_29 c_35 c_50).symm | exact (th_7 c_5 c_13 c_18 c_29 c_35 c_50).symm)   _ _ hP hD hS ls (lv_sub hl [0, 1, 2, 3, 4, 5] rfl)
          · have d_35 := Int32.not_le.mp c_35
            refine lv_bipush (v := (-6)) hx hb dX5_thunder_38 (by decide) ?_
            refine lv_goto (tgt := 59) hx hb dX5_thunder_40 (by decide) ?_
            refine lv_istore (lv' := [(5, .int (-6)), (0, .ref (r 0)), (1, .int a), (2, .int v), (3, .int t), (4, .int p_9)]) hx hb dX5_thunder_59 hl (by decide) rfl (fun ls hl => ?_)
            exact jn_61  (-6)  (by first | exact (th_1 c_5).symm | exact (th_2 c_5 c_13).symm | exact (th_3 c_5 c_13 c_18).symm | exact (th_4 c_5 c_13 c_18 c_29).symm | exact (th_5 c_5 c_13 c_18 c_29 c_35).symm | exact (th_6 c_5 c_13 c_18 c_29 c_35 c_50).symm | exact (th_7 c_5 c_13 c_18 c_29 c_35 c_50).symm)   _ _ hP hD hS ls (lv_sub hl [0, 1, 2, 3, 4, 5] rfl)
      · have d_18 := Int32.not_le.mp c_18
        refine lv_bipush (v := (-4)) hx hb dX5_thunder_21 (by decide) ?_
        refine lv_goto (tgt := 59) hx hb dX5_thunder_23 (by decide) ?_
        refine lv_istore (lv' := [(5, .int (-4)), (0, .ref (r 0)), (1, .int a), (2, .int v), (3, .int t), (4, .int p_9)]) hx hb dX5_thunder_59 hl (by decide) rfl (fun ls hl => ?_)
        exact jn_61  (-4)  (by first | exact (th_1 c_5).symm | exact (th_2 c_5 c_13).symm | exact (th_3 c_5 c_13 c_18).symm | exact (th_4 c_5 c_13 c_18 c_29).symm | exact (th_5 c_5 c_13 c_18 c_29 c_35).symm | exact (th_6 c_5 c_13 c_18 c_29 c_35 c_50).symm | exact (th_7 c_5 c_13 c_18 c_29 c_35 c_50).symm)   _ _ hP hD hS ls (lv_sub hl [0, 1, 2, 3, 4, 5] rfl)
  · replace c_5 := b1_z c_5
    refine lv_iconst (v := (-1)) hx hb dX5_thunder_8 (by decide) ?_
    refine lv_goto (tgt := 59) hx hb dX5_thunder_9 (by decide) ?_
    refine lv_istore (lv' := [(5, .int (-1)), (0, .ref (r 0)), (1, .int a), (2, .int v), (3, .int t), (4, .int p_9)]) hx hb dX5_thunder_59 hl (by decide) rfl (fun ls hl => ?_)
    exact jn_61  (-1)  (by first | exact (th_1 c_5).symm | exact (th_2 c_5 c_13).symm | exact (th_3 c_5 c_13 c_18).symm | exact (th_4 c_5 c_13 c_18 c_29).symm | exact (th_5 c_5 c_13 c_18 c_29 c_35).symm | exact (th_6 c_5 c_13 c_18 c_29 c_35 c_50).symm | exact (th_7 c_5 c_13 c_18 c_29 c_35 c_50).symm)   _ _ hP hD hS ls (lv_sub hl [0, 1, 2, 3, 4, 5] rfl)

theorem okX5_nearest : jok yX5_nearest wsX5_nearest cX5_nearest 4 (some .int) 1 := ⟨⟨_, rfl⟩, by decide +kernel, by decide +kernel⟩
set_option maxHeartbeats 2000000 in
set_option maxRecDepth 100000 in
theorem qX5_nearest (l : Launch) (D : va_G) (cI cB : ClassId) (r : Nat → Nat) (B : BayT) (M : MT) (q : Int32) (hI : bI_ B) : jMi D cI cB l yX5_nearest wsX5_nearest 1 [.ref (r 0), .int q] (mW cI r B M) (S := MT) (fun r u => r = (if uk_ q 1 = 0 then (if q = 0 then oI_ (ne_ B (sn_ B)) else dNe_ B) else uk_ q 1) ∧ oQ_ M u (uk_ q 1)) (fun u => mW cI r B u) := by
  refine jMi.of (cc := cX5_nearest) (maxL := 4) (ret := (some .int)) okX5_nearest (Nat.le_of_ble_eq_true rfl) ?_
  intro p e s m below meth c ls A hx hb hr hts hown hlk hml hP hK hD hA hS hl
  replace hown : s.vm.findClass RX5 = some m.cls := hown
  replace hl : lv_has ls 4 [(0, .ref (r 0)), (1, .int q)] := hl
  have hn7 := hI.1
  have hinX5 : ∀ w ∈ wsX50, w ∈ wsX5_nearest := by decide +kernel
  refine lv_iload_n hx hb dX5_nearest_0 rfl (lv_at hl 1 rfl) ?_
  refine lv_iconst (v := 0) hx hb dX5_nearest_1 (by decide) ?_
  refine lv_iconst (v := 1) hx hb dX5_nearest_2 (by decide) ?_
  refine kSiS hx hb hml hown hts hK hP gX5_nearest_X5_isIn okX5_isIn (qX5_isIn l D cI cB q 0 1 ) [] rfl (by decide) hl.1 rfl rfl (Nat.le_of_ble_eq_true rfl) dX5_nearest_3 (by decide) (fun r_1 hr_2 => ?_)
  replace hr_2 : r_1 = b1 (0 ≤ q ∧ q ≤ 1) := hr_2
  subst r_1
  refine lv_if_ne (tgt := 16) hx hb dX5_nearest_6 (by decide) (fun c_6 => ?_) (fun c_6 => ?_)
  · replace c_6 := b1_n c_6
    refine lv_bipush (v := (-9)) hx hb dX5_nearest_16 (by decide) ?_
    refine lv_istore_n (lv' := [(2, .int (-9)), (0, .ref (r 0)), (1, .int q)]) hx hb dX5_nearest_18 rfl hl (by decide) rfl (fun ls hl => ?_)
    refine lv_iconst (v := 0) hx hb dX5_nearest_19 (by decide) ?_
    refine lv_istore_n (lv' := [(3, .int 0), (2, .int (-9)), (0, .ref (r 0)), (1, .int q)]) hx hb dX5_nearest_20 rfl hl (by decide) rfl (fun ls hl => ?_)
    have lp_21 : ∀ (fu_21 : Nat) (i : Nat) (x2_21 : Int32) (x3_21 : Int32) , (x2_21 = oI_ (ne_ B i)) → (x3_21 = nI i) → (i ≤ sn_ B) → sn_ B - i < fu_21 → ∀ (H : Heap) (locs : List Loc), va_P D vwCl (mW cI r B M) H → va_D A (mW cI r B M) → va_S A s.heap H locs → ∀ ls : Array Slot, lv_has ls 4 [(3, .int x3_21), (2, .int x2_21), (0, .ref (r 0)), (1, .int q)] → W p l e (jR 1) s m ([.ref (r 0), .int q] : List Value).toArray below meth c H locs 0 0 (MQ below (va_Qi (S := MT) (fun r u => r = (if uk_ q 1 = 0 then (if q = 0 then oI_ (ne_ B (sn_ B)) else dNe_ B) else uk_ q 1) ∧ oQ_ M u (uk_ q 1)) (fun u t => va_P D vwCl ((fun u => mW cI r B u) u) t.heap) A) ([.ref (r 0), .int q] : List Value).toArray s 0 0 A) (F0 m 21 ls []) := by
      intro fu_21
      induction fu_21 with
      | zero => intro i x2_21 x3_21 hx2_21 hx3_21 hi hfu; exact absurd hfu (Nat.not_lt_zero _)
      | succ fu_21 ih_21 =>
        intro i x2_21 x3_21 hx2_21 hx3_21 hi hfu_21 H locs hP hD hS ls hl
        subst x2_21
        subst x3_21
        replace hl : lv_has ls 4 [(3, .int (nI i)), (2, .int (oI_ (ne_ B i))), (0, .ref (r 0)), (1, .int q)] := hl
        replace hP : va_P D vwCl (mW cI r B M) H := hP
        replace hD : va_D A (mW cI r B M) := hD
        rcases hL : ne_ B i with _ | t
        · rw [hL] at hl
          replace hl : lv_has ls 4 [(3, .int (nI i)), (2, .int (-9)), (0, .ref (r 0)), (1, .int q)] := hl
          refine lv_iload_n hx hb dX5_nearest_21 rfl (lv_at hl 0 rfl) ?_
          refine lv_aload_n hx hb dX5_nearest_22 rfl (lv_at hl 2 rfl) ?_
          refine va_get (ci := 5) (C := RX5) (T := TX5) (N := 33) hx hb hts hinX5 hown hK.1 hP 0 rfl rfl 6 (by decide) (hts _ (List.mem_of_getElem? (i := 1) rfl)) (fun _ h9 => h9) rfl dX5_nearest_23 ?_
          refine lv_icmp_ge (tgt := 70) hx hb dX5_nearest_26 (by decide) (fun c_26 => ?_) (fun c_26 => ?_)
          · replace c_26 : nI (sn_ B) ≤ nI i := c_26
            rw [jle (by omega) (by omega)] at c_26
            refine lv_iload_n hx hb dX5_nearest_70 rfl (lv_at hl 3 rfl) ?_
            refine lv_if_eq (tgt := 78) hx hb dX5_nearest_71 (by decide) (fun c_71 => ?_) (fun c_71 => ?_)
            · skip
              refine lv_iload_n hx hb dX5_nearest_78 rfl (lv_at hl 1 rfl) ?_
              refine lv_goto (tgt := 95) hx hb dX5_nearest_79 (by decide) ?_
              refine rMi hx hb hr hlk hS M hP ?_ dX5_nearest_95
              first | (have hW : uk_ q 1 = -2 := uk_o c_6; rw [hW]; exact ⟨(if_neg (by decide)).symm, oQ_n _ _⟩) | (have hW : uk_ q 1 = 0 := uk_i c_6; rw [hW]; refine ⟨?_, oQ_0 rfl ?_⟩; · (rw [if_pos rfl]; have e9 : i = sn_ B := by omega; rw [e9] at hL; unfold dNe_; rw [hL]; first | (rw [if_pos c_71]; rfl) | (rw [if_neg c_71]; rfl) | (rw [if_neg c_71]; exact (di_i hI (by omega)).symm)); · (first | exact (oN_mk (by assumption)).m | exact oM_.rf _ | exact (oN_pp _ _).m | exact (oN_fo _ _ _ _).m | assumption | (apply oN_.m; assumption) | exact oM_.tr (by assumption) (by assumption)))
            · skip
              refine lv_iload_n hx hb dX5_nearest_74 rfl (lv_at hl 1 rfl) ?_
              refine lv_if_ge (tgt := 82) hx hb dX5_nearest_75 (by decide) (fun q => absurd q (by decide)) (fun _ => ?_)
              refine lv_iload_n hx hb dX5_nearest_78 rfl (lv_at hl 1 rfl) ?_
              refine lv_goto (tgt := 95) hx hb dX5_nearest_79 (by decide) ?_
              refine rMi hx hb hr hlk hS M hP ?_ dX5_nearest_95
              first | (have hW : uk_ q 1 = -2 := uk_o c_6; rw [hW]; exact ⟨(if_neg (by decide)).symm, oQ_n _ _⟩) | (have hW : uk_ q 1 = 0 := uk_i c_6; rw [hW]; refine ⟨?_, oQ_0 rfl ?_⟩; · (rw [if_pos rfl]; have e9 : i = sn_ B := by omega; rw [e9] at hL; unfold dNe_; rw [hL]; first | (rw [if_pos c_71]; rfl) | (rw [if_neg c_71]; rfl) | (rw [if_neg c_71]; exact (di_i hI (by omega)).symm)); · (first | exact (oN_mk (by assumption)).m | exact oM_.rf _ | exact (oN_pp _ _).m | exact (oN_fo _ _ _ _).m | assumption | (apply oN_.m; assumption) | exact oM_.tr (by assumption) (by assumption)))
          · replace c_26 : ¬ nI (sn_ B) ≤ nI i := c_26
            rw [jle (by omega) (by omega)] at c_26
            refine lv_iload_n hx hb dX5_nearest_29 rfl (lv_at hl 1 rfl) ?_
            refine lv_if_lt (tgt := 62) hx hb dX5_nearest_30 (by decide) (fun _ => ?_) (fun q => absurd q (by decide))
            refine lv_iload_n hx hb dX5_nearest_62 rfl (lv_at hl 0 rfl) ?_
            refine lv_istore_n (lv' := [(2, .int (nI i)), (3, .int (nI i)), (0, .ref (r 0)), (1, .int q)]) hx hb dX5_nearest_63 rfl hl (by decide) rfl (fun ls hl => ?_)
            refine lv_iinc (v := (nI i) + 1) (lv' := [(3, .int ((nI i) + 1)), (2, .int (nI i)), (0, .ref (r 0)), (1, .int q)]) hx hb dX5_nearest_64 hl (k := 1) rfl (by first | rfl | decide) (by decide) rfl (fun ls hl => ?_)
            refine lv_goto (tgt := 21) hx hb dX5_nearest_67 (by decide) ?_
            exact ih_21 (i + 1) (nI i) ((nI i) + 1)  (by first | (simp only [ne_, hL]; done) | (simp only [ne_, hL]; rfl) | (simp only [ne_, hL]; rw [if_neg (by rw [di_i hI (by omega), di_i hI (by omega)]; exact d_59)]; rfl) | (simp only [ne_, hL]; rw [if_pos (by rw [di_i hI (by omega), di_i hI (by omega)]; exact d_59)]; rfl)) (by first | rfl | exact nI_1 _) (by omega) (by omega) _ _ hP hD hS ls (lv_sub hl [0, 1, 2, 3] rfl)
        · rw [hL] at hl
          replace hl : lv_has ls 4 [(3, .int (nI i)), (2, .int (nI t)), (0, .ref (r 0)), (1, .int q)] := hl
          have ht := ne_lt _ _ hL
          refine lv_iload_n hx hb dX5_nearest_21 rfl (lv_at hl 0 rfl) ?_
          refine lv_aload_n hx hb dX5_nearest_22 rfl (lv_at hl 2 rfl) ?_
          refine va_get (ci := 5) (C := RX5) (T := TX5) (N := 33) hx hb hts hinX5 hown hK.1 hP 0 rfl rfl 6 (by decide) (hts _ (List.mem_of_getElem? (i := 1) rfl)) (fun _ h9 => h9) rfl dX5_nearest_23 ?_
          refine lv_icmp_ge (tgt := 70) hx hb dX5_nearest_26 (by decide) (fun c_26 => ?_) (fun c_26 => ?_)
          · replace c_26 : nI (sn_ B) ≤ nI i := c_26
            rw [jle (by omega) (by omega)] at c_26
            refine lv_iload_n hx hb dX5_nearest_70 rfl (lv_at hl 3 rfl) ?_
            refine lv_if_eq (tgt := 78) hx hb dX5_nearest_71 (by decide) (fun c_71 => ?_) (fun c_71 => ?_)
            · skip
              refine lv_iload_n hx hb dX5_nearest_78 rfl (lv_at hl 1 rfl) ?_
              refine lv_goto (tgt := 95) hx hb dX5_nearest_79 (by decide) ?_
              refine rMi hx hb hr hlk hS M hP ?_ dX5_nearest_95
              first | (have hW : uk_ q 1 = -2 := uk_o c_6; rw [hW]; exact ⟨(if_neg (by decide)).symm, oQ_n _ _⟩) | (have hW : uk_ q 1 = 0 := uk_i c_6; rw [hW]; refine ⟨?_, oQ_0 rfl ?_⟩; · (rw [if_pos rfl]; have e9 : i = sn_ B := by omega; rw [e9] at hL; unfold dNe_; rw [hL]; first | (rw [if_pos c_71]; rfl) | (rw [if_neg c_71]; rfl) | (rw [if_neg c_71]; exact (di_i hI (by omega)).symm)); · (first | exact (oN_mk (by assumption)).m | exact oM_.rf _ | exact (oN_pp _ _).m | exact (oN_fo _ _ _ _).m | assumption | (apply oN_.m; assumption) | exact oM_.tr (by assumption) (by assumption)))
            · skip
              refine lv_iload_n hx hb dX5_nearest_74 rfl (lv_at hl 1 rfl) ?_
              refine lv_if_ge (tgt := 82) hx hb dX5_nearest_75 (by decide) (fun _ => ?_) (fun q => absurd (nI_pos' (by omega)) q)
              refine lv_aload_n hx hb dX5_nearest_82 rfl (lv_at hl 2 rfl) ?_
              refine va_get (ci := 5) (C := RX5) (T := TX5) (N := 33) hx hb hts hinX5 hown hK.1 hP 0 rfl rfl 3 (by decide) (hts _ (List.mem_of_getElem? (i := 2) rfl)) (fun _ h9 => h9) rfl dX5_nearest_83 ?_
              refine lv_iload_n hx hb dX5_nearest_86 rfl (lv_at hl 1 rfl) ?_
              refine jald hx hb hK.1 hP 4 0 t rfl rfl rfl (by omega) (Nat.le_of_ble_eq_true rfl) dX5_nearest_87 ?_
              refine lv_aload_n hx hb dX5_nearest_88 rfl (lv_at hl 2 rfl) ?_
              refine va_get (ci := 5) (C := RX5) (T := TX5) (N := 33) hx hb hts hinX5 hown hK.1 hP 0 rfl rfl 8 (by decide) (hts _ (List.mem_of_getElem? (i := 3) rfl)) (fun _ h9 => h9) rfl dX5_nearest_89 ?_
              refine kSiS hx hb hml hown hts hK hP gX5_nearest_X5_far okX5_far (qX5_far l D cI cB ((pl_ B) t) (il_ B) ) [] rfl (by decide) hl.1 rfl rfl (Nat.le_of_ble_eq_true rfl) dX5_nearest_92 (by decide) (fun r_3 hr_4 => ?_)
              replace hr_4 : r_3 = fr_ ((pl_ B) t) (il_ B) := hr_4
              subst r_3
              refine rMi hx hb hr hlk hS M hP ?_ dX5_nearest_95
              first | (have hW : uk_ q 1 = -2 := uk_o c_6; rw [hW]; exact ⟨(if_neg (by decide)).symm, oQ_n _ _⟩) | (have hW : uk_ q 1 = 0 := uk_i c_6; rw [hW]; refine ⟨?_, oQ_0 rfl ?_⟩; · (rw [if_pos rfl]; have e9 : i = sn_ B := by omega; rw [e9] at hL; unfold dNe_; rw [hL]; first | (rw [if_pos c_71]; rfl) | (rw [if_neg c_71]; rfl) | (rw [if_neg c_71]; exact (di_i hI (by omega)).symm)); · (first | exact (oN_mk (by assumption)).m | exact oM_.rf _ | exact (oN_pp _ _).m | exact (oN_fo _ _ _ _).m | assumption | (apply oN_.m; assumption) | exact oM_.tr (by assumption) (by assumption)))
          · replace c_26 : ¬ nI (sn_ B) ≤ nI i := c_26
            rw [jle (by omega) (by omega)] at c_26
            refine lv_iload_n hx hb dX5_nearest_29 rfl (lv_at hl 1 rfl) ?_
            refine lv_if_lt (tgt := 62) hx hb dX5_nearest_30 (by decide) (fun q => absurd q (nI_pos (by omega))) (fun _ => ?_)
            refine lv_aload_n hx hb dX5_nearest_33 rfl (lv_at hl 2 rfl) ?_
            refine va_get (ci := 5) (C := RX5) (T := TX5) (N := 33) hx hb hts hinX5 hown hK.1 hP 0 rfl rfl 3 (by decide) (hts _ (List.mem_of_getElem? (i := 2) rfl)) (fun _ h9 => h9) rfl dX5_nearest_34 ?_
            refine lv_iload_n hx hb dX5_nearest_37 rfl (lv_at hl 0 rfl) ?_
            refine jald hx hb hK.1 hP 4 0 i rfl rfl rfl (by omega) (Nat.le_of_ble_eq_true rfl) dX5_nearest_38 ?_
            refine lv_aload_n hx hb dX5_nearest_39 rfl (lv_at hl 2 rfl) ?_
            refine va_get (ci := 5) (C := RX5) (T := TX5) (N := 33) hx hb hts hinX5 hown hK.1 hP 0 rfl rfl 8 (by decide) (hts _ (List.mem_of_getElem? (i := 3) rfl)) (fun _ h9 => h9) rfl dX5_nearest_40 ?_
            refine kSiS hx hb hml hown hts hK hP gX5_nearest_X5_far okX5_far (qX5_far l D cI cB ((pl_ B) i) (il_ B) ) [] rfl (by decide) hl.1 rfl rfl (Nat.le_of_ble_eq_true rfl) dX5_nearest_43 (by decide) (fun r_5 hr_6 => ?_)
            replace hr_6 : r_5 = fr_ ((pl_ B) i) (il_ B) := hr_6
            subst r_5
            refine lv_aload_n hx hb dX5_nearest_46 rfl (lv_at hl 2 rfl) ?_
            refine va_get (ci := 5) (C := RX5) (T := TX5) (N := 33) hx hb hts hinX5 hown hK.1 hP 0 rfl rfl 3 (by decide) (hts _ (List.mem_of_getElem? (i := 2) rfl)) (fun _ h9 => h9) rfl dX5_nearest_47 ?_
            refine lv_iload_n hx hb dX5_nearest_50 rfl (lv_at hl 1 rfl) ?_
            refine jald hx hb hK.1 hP 4 0 t rfl rfl rfl (by omega) (Nat.le_of_ble_eq_true rfl) dX5_nearest_51 ?_
            refine lv_aload_n hx hb dX5_nearest_52 rfl (lv_at hl 2 rfl) ?_
            refine va_get (ci := 5) (C := RX5) (T := TX5) (N := 33) hx hb hts hinX5 hown hK.1 hP 0 rfl rfl 8 (by decide) (hts _ (List.mem_of_getElem? (i := 3) rfl)) (fun _ h9 => h9) rfl dX5_nearest_53 ?_
            refine kSiS hx hb hml hown hts hK hP gX5_nearest_X5_far okX5_far (qX5_far l D cI cB ((pl_ B) t) (il_ B) ) [] rfl (by decide) hl.1 rfl rfl (Nat.le_of_ble_eq_true rfl) dX5_nearest_56 (by decide) (fun r_7 hr_8 => ?_)
            replace hr_8 : r_7 = fr_ ((pl_ B) t) (il_ B) := hr_8
            subst r_7
            refine lv_icmp_ge (tgt := 64) hx hb dX5_nearest_59 (by decide) (fun c_59 => ?_) (fun c_59 => ?_)
            · have d_59 := Int32.not_lt.mpr c_59
              refine lv_iinc (v := (nI i) + 1) (lv' := [(3, .int ((nI i) + 1)), (2, .int (nI t)), (0, .ref (r 0)), (1, .int q)]) hx hb dX5_nearest_64 hl (k := 0) rfl (by first | rfl | decide) (by decide) rfl (fun ls hl => ?_)
              refine lv_goto (tgt := 21) hx hb dX5_nearest_67 (by decide) ?_
              exact ih_21 (i + 1) (nI t) ((nI i) + 1)  (by first | (simp only [ne_, hL]; done) | (simp only [ne_, hL]; rfl) | (simp only [ne_, hL]; rw [if_neg (by rw [di_i hI (by omega), di_i hI (by omega)]; exact d_59)]; rfl) | (simp only [ne_, hL]; rw [if_pos (by rw [di_i hI (by omega), di_i hI (by omega)]; exact d_59)]; rfl)) (by first | rfl | exact nI_1 _) (by omega) (by omega) _ _ hP hD hS ls (lv_sub hl [0, 1, 2, 3] rfl)
            · have d_59 := Int32.not_le.mp c_59
              refine lv_iload_n hx hb dX5_nearest_62 rfl (lv_at hl 0 rfl) ?_
              refine lv_istore_n (lv' := [(2, .int (nI i)), (3, .int (nI i)), (0, .ref (r 0)), (1, .int q)]) hx hb dX5_nearest_63 rfl hl (by decide) rfl (fun ls hl => ?_)
              refine lv_iinc (v := (nI i) + 1) (lv' := [(3, .int ((nI i) + 1)), (2, .int (nI i)), (0, .ref (r 0)), (1, .int q)]) hx hb dX5_nearest_64 hl (k := 1) rfl (by first | rfl | decide) (by decide) rfl (fun ls hl => ?_)
              refine lv_goto (tgt := 21) hx hb dX5_nearest_67 (by decide) ?_
              exact ih_21 (i + 1) (nI i) ((nI i) + 1)  (by first | (simp only [ne_, hL]; done) | (simp only [ne_, hL]; rfl) | (simp only [ne_, hL]; rw [if_neg (by rw [di_i hI (by omega), di_i hI (by omega)]; exact d_59)]; rfl) | (simp only [ne_, hL]; rw [if_pos (by rw [di_i hI (by omega), di_i hI (by omega)]; exact d_59)]; rfl)) (by first | rfl | exact nI_1 _) (by omega) (by omega) _ _ hP hD hS ls (lv_sub hl [0, 1, 2, 3] rfl)
    exact lp_21 ((sn_ B) + 1) 0 (-9) 0  (rfl) (by first | rfl | exact nI_0.symm) (by omega) (by omega) _ _ hP hD hS ls (lv_sub hl [0, 1, 2, 3] rfl)
  · replace c_6 := b1_z c_6
    refine lv_aload_n hx hb dX5_nearest_9 rfl (lv_at hl 0 rfl) ?_
    refine lv_bipush (v := (-2)) hx hb dX5_nearest_10 (by decide) ?_
    refine kMiV hx hb hml hown hts hK hP hD hA hS gX5_nearest_X5_no okX5_no (qX5_no l D cI cB r B M (-2) (Or.inr (Or.inl rfl))) [0, 1, 2, 3, 4, 5, 6, 7, 8, 9, 10, 11, 12, 13, 14, 15] rfl (by decide) (fun _ => mW_adr _ _ _ _ _ _) rfl rfl rfl (by decide) hl.1 rfl rfl (Nat.le_of_ble_eq_true rfl) dX5_nearest_12 (by decide) (fun r_9 u_10 H locs hw_11 hP hD hS => ?_)
    replace hw_11 : r_9 = (-2) ∧ u_10 = (rfm_ M (-2)) := hw_11
    obtain ⟨hw_11a, hw_11b⟩ := hw_11
    subst r_9
    subst u_10
    replace hP : va_P D vwCl ([(r 0, .inr (5, [.ref (r 1), .ref (r 2), .ref (r 3), .ref (r 4), .ref (r 5), .ref (r 6), .int (nI (sn_ B)), .int (qt_ B), .int (il_ B), .int (pa_ B), .int (ho_ B), .int (dy_ B), .ref (r 13), .ref (r 14), .ref (r 15), .ref (r 16), .int (nI (mtn_ M)), .int (nI (mrd_ M)), .int (nI (msm_ M)), .ref (r 20), .int (mhi_ M), .int (mik_ M), .int (nI (mcu_ M)), .int (nI (mbk_ M)), .ref (r 25), .ref (r 26), .int (mlw_ M), .int (mhg_ M), .int (msl_ M), .ref (r 30), .int (nI (mrm_ M)), .ref (r 32), .int (mlo_ M)])), (r 1, .inl (cI, 7, .inl (rfx_ (mrf_ M) (-2)))), (r 2, .inl (cI, 7, .inl (kd_ B))), (r 3, .inl (cI, 7, .inl (fg_ B))), (r 4, .inl (cI, 7, .inl (pl_ B))), (r 5, .inl (cI, 7, .inl (pw_ B))), (r 6, .inl (cI, 7, .inl (jy_ B))), (r 13, .inl (cI, 96, .inl (mtp_ M))), (r 14, .inl (cI, 48, .inl (mlt_ M))), (r 15, .inl (cI, 48, .inl (mla_ M))), (r 16, .inl (cI, 144, .inl (mtd_ M))), (r 20, .inl (cI, 451, .inl (flatK (mkp_ M)))), (r 25, .inl (cI, 7, .inl (mof_ M))), (r 26, .inl (cI, 7, .inl (mfa_ M))), (r 30, .inl (cI, 12, .inl (mrw_ M))), (r 32, .inl (cI, 8, .inl (mhb_ M)))]) H := hP
    replace hD : va_D A ([(r 0, .inr (5, [.ref (r 1), .ref (r 2), .ref (r 3), .ref (r 4), .ref (r 5), .ref (r 6), .int (nI (sn_ B)), .int (qt_ B), .int (il_ B), .int (pa_ B), .int (ho_ B), .int (dy_ B), .ref (r 13), .ref (r 14), .ref (r 15), .ref (r 16), .int (nI (mtn_ M)), .int (nI (mrd_ M)), .int (nI (msm_ M)), .ref (r 20), .int (mhi_ M), .int (mik_ M), .int (nI (mcu_ M)), .int (nI (mbk_ M)), .ref (r 25), .ref (r 26), .int (mlw_ M), .int (mhg_ M), .int (msl_ M), .ref (r 30), .int (nI (mrm_ M)), .ref (r 32), .int (mlo_ M)])), (r 1, .inl (cI, 7, .inl (rfx_ (mrf_ M) (-2)))), (r 2, .inl (cI, 7, .inl (kd_ B))), (r 3, .inl (cI, 7, .inl (fg_ B))), (r 4, .inl (cI, 7, .inl (pl_ B))), (r 5, .inl (cI, 7, .inl (pw_ B))), (r 6, .inl (cI, 7, .inl (jy_ B))), (r 13, .inl (cI, 96, .inl (mtp_ M))), (r 14, .inl (cI, 48, .inl (mlt_ M))), (r 15, .inl (cI, 48, .inl (mla_ M))), (r 16, .inl (cI, 144, .inl (mtd_ M))), (r 20, .inl (cI, 451, .inl (flatK (mkp_ M)))), (r 25, .inl (cI, 7, .inl (mof_ M))), (r 26, .inl (cI, 7, .inl (mfa_ M))), (r 30, .inl (cI, 12, .inl (mrw_ M))), (r 32, .inl (cI, 8, .inl (mhb_ M)))]) := hD
    refine rMi hx hb hr hlk hS (rfm_ M (-2)) hP ?_ dX5_nearest_15
    first | (have hW : uk_ q 1 = -2 := uk_o c_6; rw [hW]; exact ⟨(if_neg (by decide)).symm, oQ_n _ _⟩) | (have hW : uk_ q 1 = 0 := uk_i c_6; rw [hW]; refine ⟨?_, oQ_0 rfl ?_⟩; · (rw [if_pos rfl]; have e9 : i = sn_ B := by omega; rw [e9] at hL; unfold dNe_; rw [hL]; first | (rw [if_pos c_71]; rfl) | (rw [if_neg c_71]; rfl) | (rw [if_neg c_71]; exact (di_i hI (by omega)).symm)); · (first | exact (oN_mk (by assumption)).m | exact oM_.rf _ | exact (oN_pp _ _).m | exact (oN_fo _ _ _ _).m | assumption | (apply oN_.m; assumption) | exact oM_.tr (by assumption) (by assumption)))

theorem okX5_shared : jok yX5_shared wsX5_shared cX5_shared 2 (some .int) 1 := ⟨⟨_, rfl⟩, by decide +kernel, by decide +kernel⟩
set_option maxHeartbeats 2000000 in
set_option maxRecDepth 100000 in
theorem qX5_shared (l : Launch) (D : va_G) (cI cB : ClassId) (r : Nat → Nat) (B : BayT) (M : MT) (q : Int32) (hI : bI_ B) : jMi D cI cB l yX5_shared wsX5_shared 1 [.ref (r 0), .int q] (mW cI r B M) (S := MT) (fun r u => r = (if uk_ q 2 = 0 then shX_ B q else uk_ q 2) ∧ oQ_ M u (uk_ q 2)) (fun u => mW cI r B u) := by
  refine jMi.of (cc := cX5_shared) (maxL := 2) (ret := (some .int)) okX5_shared (Nat.le_of_ble_eq_true rfl) ?_
  intro p e s m below meth c ls A hx hb hr hts hown hlk hml hP hK hD hA hS hl
  replace hown : s.vm.findClass RX5 = some m.cls := hown
  replace hl : lv_has ls 2 [(0, .ref (r 0)), (1, .int q)] := hl
  have hn7 := hI.1
  have hinX5 : ∀ w ∈ wsX50, w ∈ wsX5_shared := by decide +kernel
  refine lv_iload_n hx hb dX5_shared_0 rfl (lv_at hl 1 rfl) ?_
  refine lv_iconst (v := 0) hx hb dX5_shared_1 (by decide) ?_
  refine lv_iconst (v := 2) hx hb dX5_shared_2 (by decide) ?_
  refine kSiS hx hb hml hown hts hK hP gX5_shared_X5_isIn okX5_isIn (qX5_isIn l D cI cB q 0 2 ) [] rfl (by decide) hl.1 rfl rfl (Nat.le_of_ble_eq_true rfl) dX5_shared_3 (by decide) (fun r_1 hr_2 => ?_)
  replace hr_2 : r_1 = b1 (0 ≤ q ∧ q ≤ 2) := hr_2
  subst r_1
  refine lv_if_ne (tgt := 16) hx hb dX5_shared_6 (by decide) (fun c_6 => ?_) (fun c_6 => ?_)
  · replace c_6 := b1_n c_6
    refine lv_iload_n hx hb dX5_shared_16 rfl (lv_at hl 1 rfl) ?_
    refine lv_iconst (v := 2) hx hb dX5_shared_17 (by decide) ?_
    refine lv_icmp_ne (tgt := 26) hx hb dX5_shared_18 (by decide) (fun c_18 => ?_) (fun c_18 => ?_)
    · skip
      refine lv_aload_n hx hb dX5_shared_26 rfl (lv_at hl 0 rfl) ?_
      refine va_get (ci := 5) (C := RX5) (T := TX5) (N := 33) hx hb hts hinX5 hown hK.1 hP 0 rfl rfl 6 (by decide) (hts _ (List.mem_of_getElem? (i := 1) rfl)) (fun _ h9 => h9) rfl dX5_shared_27 ?_
      refine lv_if_ne (tgt := 37) hx hb dX5_shared_30 (by decide) (fun c_30 => ?_) (fun c_30 => ?_)
      · replace c_30 : ¬ nI (sn_ B) = nI 0 := c_30
        rw [jeq (by omega) (by omega)] at c_30
        refine lv_iload_n hx hb dX5_shared_37 rfl (lv_at hl 1 rfl) ?_
        refine lv_if_ne (tgt := 53) hx hb dX5_shared_38 (by decide) (fun c_38 => ?_) (fun c_38 => ?_)
        · skip
          refine lv_aload_n hx hb dX5_shared_53 rfl (lv_at hl 0 rfl) ?_
          refine kSiV hx hb hml hown hts hK hP gX5_shared_X5_allJoy okX5_allJoy (qX5_allJoy l D cI cB r B M (by show sn_ B ≤ 7; omega)) [0, 1, 2, 3, 4, 5, 6, 7, 8, 9, 10, 11, 12, 13, 14, 15] rfl rfl rfl rfl (by decide) hl.1 rfl rfl (Nat.le_of_ble_eq_true rfl) dX5_shared_54 (by decide) (fun r_3 hr_4 => ?_)
          replace hr_4 : r_3 = su_ (jy_ B) (sn_ B) := hr_4
          subst r_3
          refine lv_aload_n hx hb dX5_shared_57 rfl (lv_at hl 0 rfl) ?_
          refine va_get (ci := 5) (C := RX5) (T := TX5) (N := 33) hx hb hts hinX5 hown hK.1 hP 0 rfl rfl 6 (by decide) (hts _ (List.mem_of_getElem? (i := 1) rfl)) (fun _ h9 => h9) rfl dX5_shared_58 ?_
          refine lv_irem hx hb dX5_shared_61 (sn_nz c_30 hn7) ?_
          refine rMi hx hb hr hlk hS M hP ?_ dX5_shared_62
          first | (have hW : uk_ q 2 = -2 := uk_o c_6; rw [hW]; exact ⟨(if_neg (by decide)).symm, oQ_n _ _⟩) | (have hW : uk_ q 2 = 0 := uk_i c_6; rw [hW]; refine ⟨?_, oQ_0 rfl ?_⟩; · (rw [if_pos rfl]; unfold shX_; first | (rw [if_neg (by rw [c_18]; decide), if_neg (by rw [c_18]; decide)]; done) | exact sh_0 c_30 (uk_0.mp hW) c_18 | (rw [if_pos c_38, mx_n (Nat.pos_of_ne_zero c_30) hn7]; done) | (rw [if_neg c_38, if_pos (q1_ c_6 c_38 c_18), mx_n (Nat.pos_of_ne_zero c_30) hn7]; done)); · (first | exact (oN_mk (by assumption)).m | exact oM_.rf _ | exact (oN_pp _ _).m | exact (oN_fo _ _ _ _).m | assumption | (apply oN_.m; assumption) | exact oM_.tr (by assumption) (by assumption)))
        · skip
          refine lv_aload_n hx hb dX5_shared_41 rfl (lv_at hl 0 rfl) ?_
          refine kSiV hx hb hml hown hts hK hP gX5_shared_X5_allJoy okX5_allJoy (qX5_allJoy l D cI cB r B M (by show sn_ B ≤ 7; omega)) [0, 1, 2, 3, 4, 5, 6, 7, 8, 9, 10, 11, 12, 13, 14, 15] rfl rfl rfl rfl (by decide) hl.1 rfl rfl (Nat.le_of_ble_eq_true rfl) dX5_shared_42 (by decide) (fun r_5 hr_6 => ?_)
          replace hr_6 : r_5 = su_ (jy_ B) (sn_ B) := hr_6
          subst r_5
          refine lv_aload_n hx hb dX5_shared_45 rfl (lv_at hl 0 rfl) ?_
          refine va_get (ci := 5) (C := RX5) (T := TX5) (N := 33) hx hb hts hinX5 hown hK.1 hP 0 rfl rfl 6 (by decide) (hts _ (List.mem_of_getElem? (i := 1) rfl)) (fun _ h9 => h9) rfl dX5_shared_46 ?_
          refine lv_idiv hx hb dX5_shared_49 (sn_nz c_30 hn7) ?_
          refine lv_goto (tgt := 62) hx hb dX5_shared_50 (by decide) ?_
          refine rMi hx hb hr hlk hS M hP ?_ dX5_shared_62
          first | (have hW : uk_ q 2 = -2 := uk_o c_6; rw [hW]; exact ⟨(if_neg (by decide)).symm, oQ_n _ _⟩) | (have hW : uk_ q 2 = 0 := uk_i c_6; rw [hW]; refine ⟨?_, oQ_0 rfl ?_⟩; · (rw [if_pos rfl]; unfold shX_; first | (rw [if_neg (by rw [c_18]; decide), if_neg (by rw [c_18]; decide)]; done) | exact sh_0 c_30 (uk_0.mp hW) c_18 | (rw [if_pos c_38, mx_n (Nat.pos_of_ne_zero c_30) hn7]; done) | (rw [if_neg c_38, if_pos (q1_ c_6 c_38 c_18), mx_n (Nat.pos_of_ne_zero c_30) hn7]; done)); · (first | exact (oN_mk (by assumption)).m | exact oM_.rf _ | exact (oN_pp _ _).m | exact (oN_fo _ _ _ _).m | assumption | (apply oN_.m; assumption) | exact oM_.tr (by assumption) (by assumption)))
      · replace c_30 : nI (sn_ B) = nI 0 := c_30
        rw [jeq (by omega) (by omega)] at c_30
        refine lv_iconst (v := 0) hx hb dX5_shared_33 (by decide) ?_
        refine lv_goto (tgt := 62) hx hb dX5_shared_34 (by decide) ?_
        refine rMi hx hb hr hlk hS M hP ?_ dX5_shared_62
        first | (have hW : uk_ q 2 = -2 := uk_o c_6; rw [hW]; exact ⟨(if_neg (by decide)).symm, oQ_n _ _⟩) | (have hW : uk_ q 2 = 0 := uk_i c_6; rw [hW]; refine ⟨?_, oQ_0 rfl ?_⟩; · (rw [if_pos rfl]; unfold shX_; first | (rw [if_neg (by rw [c_18]; decide), if_neg (by rw [c_18]; decide)]; done) | exact sh_0 c_30 (uk_0.mp hW) c_18 | (rw [if_pos c_38, mx_n (Nat.pos_of_ne_zero c_30) hn7]; done) | (rw [if_neg c_38, if_pos (q1_ c_6 c_38 c_18), mx_n (Nat.pos_of_ne_zero c_30) hn7]; done)); · (first | exact (oN_mk (by assumption)).m | exact oM_.rf _ | exact (oN_pp _ _).m | exact (oN_fo _ _ _ _).m | assumption | (apply oN_.m; assumption) | exact oM_.tr (by assumption) (by assumption)))
    · skip
      refine lv_aload_n hx hb dX5_shared_21 rfl (lv_at hl 0 rfl) ?_
      refine kSiV hx hb hml hown hts hK hP gX5_shared_X5_joyless okX5_joyless (qX5_joyless l D cI cB r B M (by show sn_ B ≤ 7; omega)) [0, 1, 2, 3, 4, 5, 6, 7, 8, 9, 10, 11, 12, 13, 14, 15] rfl rfl rfl rfl (by decide) hl.1 rfl rfl (Nat.le_of_ble_eq_true rfl) dX5_shared_22 (by decide) (fun r_7 hr_8 => ?_)
      replace hr_8 : r_7 = bi_ (jy_ B) 0 (sn_ B) := hr_8
      subst r_7
      refine rMi hx hb hr hlk hS M hP ?_ dX5_shared_25
      first | (have hW : uk_ q 2 = -2 := uk_o c_6; rw [hW]; exact ⟨(if_neg (by decide)).symm, oQ_n _ _⟩) | (have hW : uk_ q 2 = 0 := uk_i c_6; rw [hW]; refine ⟨?_, oQ_0 rfl ?_⟩; · (rw [if_pos rfl]; unfold shX_; first | (rw [if_neg (by rw [c_18]; decide), if_neg (by rw [c_18]; decide)]; done) | exact sh_0 c_30 (uk_0.mp hW) c_18 | (rw [if_pos c_38, mx_n (Nat.pos_of_ne_zero c_30) hn7]; done) | (rw [if_neg c_38, if_pos (q1_ c_6 c_38 c_18), mx_n (Nat.pos_of_ne_zero c_30) hn7]; done)); · (first | exact (oN_mk (by assumption)).m | exact oM_.rf _ | exact (oN_pp _ _).m | exact (oN_fo _ _ _ _).m | assumption | (apply oN_.m; assumption) | exact oM_.tr (by assumption) (by assumption)))
  · replace c_6 := b1_z c_6
    refine lv_aload_n hx hb dX5_shared_9 rfl (lv_at hl 0 rfl) ?_
    refine lv_bipush (v := (-2)) hx hb dX5_shared_10 (by decide) ?_
    refine kMiV hx hb hml hown hts hK hP hD hA hS gX5_shared_X5_no okX5_no (qX5_no l D cI cB r B M (-2) (Or.inr (Or.inl rfl))) [0, 1, 2, 3, 4, 5, 6, 7, 8, 9, 10, 11, 12, 13, 14, 15] rfl (by decide) (fun _ => mW_adr _ _ _ _ _ _) rfl rfl rfl (by decide) hl.1 rfl rfl (Nat.le_of_ble_eq_true rfl) dX5_shared_12 (by decide) (fun r_9 u_10 H locs hw_11 hP hD hS => ?_)
    replace hw_11 : r_9 = (-2) ∧ u_10 = (rfm_ M (-2)) := hw_11
    obtain ⟨hw_11a, hw_11b⟩ := hw_11
    subst r_9
    subst u_10
    replace hP : va_P D vwCl ([(r 0, .inr (5, [.ref (r 1), .ref (r 2), .ref (r 3), .ref (r 4), .ref (r 5), .ref (r 6), .int (nI (sn_ B)), .int (qt_ B), .int (il_ B), .int (pa_ B), .int (ho_ B), .int (dy_ B), .ref (r 13), .ref (r 14), .ref (r 15), .ref (r 16), .int (nI (mtn_ M)), .int (nI (mrd_ M)), .int (nI (msm_ M)), .ref (r 20), .int (mhi_ M), .int (mik_ M), .int (nI (mcu_ M)), .int (nI (mbk_ M)), .ref (r 25), .ref (r 26), .int (mlw_ M), .int (mhg_ M), .int (msl_ M), .ref (r 30), .int (nI (mrm_ M)), .ref (r 32), .int (mlo_ M)])), (r 1, .inl (cI, 7, .inl (rfx_ (mrf_ M) (-2)))), (r 2, .inl (cI, 7, .inl (kd_ B))), (r 3, .inl (cI, 7, .inl (fg_ B))), (r 4, .inl (cI, 7, .inl (pl_ B))), (r 5, .inl (cI, 7, .inl (pw_ B))), (r 6, .inl (cI, 7, .inl (jy_ B))), (r 13, .inl (cI, 96, .inl (mtp_ M))), (r 14, .inl (cI, 48, .inl (mlt_ M))), (r 15, .inl (cI, 48, .inl (mla_ M))), (r 16, .inl (cI, 144, .inl (mtd_ M))), (r 20, .inl (cI, 451, .inl (flatK (mkp_ M)))), (r 25, .inl (cI, 7, .inl (mof_ M))), (r 26, .inl (cI, 7, .inl (mfa_ M))), (r 30, .inl (cI, 12, .inl (mrw_ M))), (r 32, .inl (cI, 8, .inl (mhb_ M)))]) H := hP
    replace hD : va_D A ([(r 0, .inr (5, [.ref (r 1), .ref (r 2), .ref (r 3), .ref (r 4), .ref (r 5), .ref (r 6), .int (nI (sn_ B)), .int (qt_ B), .int (il_ B), .int (pa_ B), .int (ho_ B), .int (dy_ B), .ref (r 13), .ref (r 14), .ref (r 15), .ref (r 16), .int (nI (mtn_ M)), .int (nI (mrd_ M)), .int (nI (msm_ M)), .ref (r 20), .int (mhi_ M), .int (mik_ M), .int (nI (mcu_ M)), .int (nI (mbk_ M)), .ref (r 25), .ref (r 26), .int (mlw_ M), .int (mhg_ M), .int (msl_ M), .ref (r 30), .int (nI (mrm_ M)), .ref (r 32), .int (mlo_ M)])), (r 1, .inl (cI, 7, .inl (rfx_ (mrf_ M) (-2)))), (r 2, .inl (cI, 7, .inl (kd_ B))), (r 3, .inl (cI, 7, .inl (fg_ B))), (r 4, .inl (cI, 7, .inl (pl_ B))), (r 5, .inl (cI, 7, .inl (pw_ B))), (r 6, .inl (cI, 7, .inl (jy_ B))), (r 13, .inl (cI, 96, .inl (mtp_ M))), (r 14, .inl (cI, 48, .inl (mlt_ M))), (r 15, .inl (cI, 48, .inl (mla_ M))), (r 16, .inl (cI, 144, .inl (mtd_ M))), (r 20, .inl (cI, 451, .inl (flatK (mkp_ M)))), (r 25, .inl (cI, 7, .inl (mof_ M))), (r 26, .inl (cI, 7, .inl (mfa_ M))), (r 30, .inl (cI, 12, .inl (mrw_ M))), (r 32, .inl (cI, 8, .inl (mhb_ M)))]) := hD
    refine rMi hx hb hr hlk hS (rfm_ M (-2)) hP ?_ dX5_shared_15
    first | (have hW : uk_ q 2 = -2 := uk_o c_6; rw [hW]; exact ⟨(if_neg (by decide)).symm, oQ_n _ _⟩) | (have hW : uk_ q 2 = 0 := uk_i c_6; rw [hW]; refine ⟨?_, oQ_0 rfl ?_⟩; · (rw [if_pos rfl]; unfold shX_; first | (rw [if_neg (by rw [c_18]; decide), if_neg (by rw [c_18]; decide)]; done) | exact sh_0 c_30 (uk_0.mp hW) c_18 | (rw [if_pos c_38, mx_n (Nat.pos_of_ne_zero c_30) hn7]; done) | (rw [if_neg c_38, if_pos (q1_ c_6 c_38 c_18), mx_n (Nat.pos_of_ne_zero c_30) hn7]; done)); · (first | exact (oN_mk (by assumption)).m | exact oM_.rf _ | exact (oN_pp _ _).m | exact (oN_fo _ _ _ _).m | assumption | (apply oN_.m; assumption) | exact oM_.tr (by assumption) (by assumption)))

theorem okX5_loudHour : jok yX5_loudHour wsX5_loudHour cX5_loudHour 5 (some .int) 1 := ⟨⟨_, rfl⟩, by decide +kernel, by decide +kernel⟩
set_option maxHeartbeats 2000000 in
set_option maxRecDepth 100000 in
theorem qX5_loudHour (l : Launch) (D : va_G) (cI cB : ClassId) (r : Nat → Nat) (B : BayT) (M : MT) (q : Int32) (hI : bI_ B) : jMi D cI cB l yX5_loudHour wsX5_loudHour 4 [.ref (r 0), .int q] (mW cI r B M) (S := MT) (fun r u => r = (if uk_ q 1 = 0 then lhX_ B q else uk_ q 1) ∧ oQ_ M u (uk_ q 1)) (fun u => mW cI r B u) := by
  refine jMi.of (cc := cX5_loudHour) (maxL := 5) (ret := (some .int)) okX5_loudHour (Nat.le_of_ble_eq_true rfl) ?_
  intro p e s m below meth c ls A hx hb hr hts hown hlk hml hP hK hD hA hS hl
  replace hown : s.vm.findClass RX5 = some m.cls := hown
  replace hl : lv_has ls 5 [(0, .ref (r 0)), (1, .int q)] := hl
  have hn7 := hI.1
  refine lv_iload_n hx hb dX5_loudHour_0 rfl (lv_at hl 1 rfl) ?_
  refine lv_iconst (v := 0) hx hb dX5_loudHour_1 (by decide) ?_
  refine lv_iconst (v := 1) hx hb dX5_loudHour_2 (by decide) ?_
  refine kSiS hx hb hml hown hts hK hP gX5_loudHour_X5_isIn okX5_isIn (qX5_isIn l D cI cB q 0 1 ) [] rfl (by decide) hl.1 rfl rfl (Nat.le_of_ble_eq_true rfl) dX5_loudHour_3 (by decide) (fun r_1 hr_2 => ?_)
  replace hr_2 : r_1 = b1 (0 ≤ q ∧ q ≤ 1) := hr_2
  subst r_1
  refine lv_if_ne (tgt := 16) hx hb dX5_loudHour_6 (by decide) (fun c_6 => ?_) (fun c_6 => ?_)
  · replace c_6 := b1_n c_6
    refine lv_iconst (v := 0) hx hb dX5_loudHour_16 (by decide) ?_
    refine lv_istore_n (lv' := [(2, .int 0), (0, .ref (r 0)), (1, .int q)]) hx hb dX5_loudHour_17 rfl hl (by decide) rfl (fun ls hl => ?_)
    refine lv_iconst (v := 0) hx hb dX5_loudHour_18 (by decide) ?_
    refine lv_istore_n (lv' := [(3, .int 0), (2, .int 0), (0, .ref (r 0)), (1, .int q)]) hx hb dX5_loudHour_19 rfl hl (by decide) rfl (fun ls hl => ?_)
    refine lv_iconst (v := 0) hx hb dX5_loudHour_20 (by decide) ?_
    refine lv_istore (lv' := [(4, .int 0), (3, .int 0), (2, .int 0), (0, .ref (r 0)), (1, .int q)]) hx hb dX5_loudHour_21 hl (by decide) rfl (fun ls hl => ?_)
    have lp_23 : ∀ (fu_23 : Nat) (i : Nat) (x2_23 : Int32) (x3_23 : Int32) (x4_23 : Int32) , (x2_23 = nI (lh0_ B i)) → (x3_23 = bi_ (fun j => an_ B (nI j)) 0 i) → (x4_23 = nI i) → (i ≤ 24) → 24 - i < fu_23 → ∀ (H : Heap) (locs : List Loc), va_P D vwCl (mW cI r B M) H → va_D A (mW cI r B M) → va_S A s.heap H locs → ∀ ls : Array Slot, lv_has ls 5 [(4, .int x4_23), (3, .int x3_23), (2, .int x2_23), (0, .ref (r 0)), (1, .int q)] → W p l e (jR 4) s m ([.ref (r 0), .int q] : List Value).toArray below meth c H locs 0 0 (MQ below (va_Qi (S := MT) (fun r u => r = (if uk_ q 1 = 0 then lhX_ B q else uk_ q 1) ∧ oQ_ M u (uk_ q 1)) (fun u t => va_P D vwCl ((fun u => mW cI r B u) u) t.heap) A) ([.ref (r 0), .int q] : List Value).toArray s 0 0 A) (F0 m 23 ls []) := by
      intro fu_23
      induction fu_23 with
      | zero => intro i x2_23 x3_23 x4_23 hx2_23 hx3_23 hx4_23 hi hfu; exact absurd hfu (Nat.not_lt_zero _)
      | succ fu_23 ih_23 =>
        intro i x2_23 x3_23 x4_23 hx2_23 hx3_23 hx4_23 hi hfu_23 H locs hP hD hS ls hl
        subst x2_23
        subst x3_23
        subst x4_23
        replace hl : lv_has ls 5 [(4, .int (nI i)), (3, .int (bi_ (fun j => an_ B (nI j)) 0 i)), (2, .int (nI (lh0_ B i))), (0, .ref (r 0)), (1, .int q)] := hl
        replace hP : va_P D vwCl (mW cI r B M) H := hP
        replace hD : va_D A (mW cI r B M) := hD
        refine lv_iload hx hb dX5_loudHour_23 (lv_at hl 0 rfl) ?_
        refine lv_bipush (v := 24) hx hb dX5_loudHour_25 (by decide) ?_
        refine lv_icmp_ge (tgt := 77) hx hb dX5_loudHour_27 (by decide) (fun c_27 => ?_) (fun c_27 => ?_)
        · replace c_27 : nI 24 ≤ nI i := c_27
          rw [jle (by omega) (by omega)] at c_27
          refine lv_iload_n hx hb dX5_loudHour_77 rfl (lv_at hl 4 rfl) ?_
          refine lv_if_ne (tgt := 85) hx hb dX5_loudHour_78 (by decide) (fun c_78 => ?_) (fun c_78 => ?_)
          · skip
            refine lv_iload_n hx hb dX5_loudHour_85 rfl (lv_at hl 1 rfl) ?_
            refine rMi hx hb hr hlk hS M hP ?_ dX5_loudHour_86
            first | (have hW : uk_ q 1 = -2 := uk_o c_6; rw [hW]; exact ⟨(if_neg (by decide)).symm, oQ_n _ _⟩) | (have hW : uk_ q 1 = 0 := uk_i c_6; rw [hW]; refine ⟨?_, oQ_0 rfl ?_⟩; · (rw [if_pos rfl]; have e9 : i = 24 := by omega; subst e9; unfold lhX_; first | (rw [if_pos c_78]; rfl) | (rw [if_neg c_78]; done)); · (first | exact (oN_mk (by assumption)).m | exact oM_.rf _ | exact (oN_pp _ _).m | exact (oN_fo _ _ _ _).m | assumption | (apply oN_.m; assumption) | exact oM_.tr (by assumption) (by assumption)))
          · skip
            refine lv_iload_n hx hb dX5_loudHour_81 rfl (lv_at hl 2 rfl) ?_
            refine lv_goto (tgt := 86) hx hb dX5_loudHour_82 (by decide) ?_
            refine rMi hx hb hr hlk hS M hP ?_ dX5_loudHour_86
            first | (have hW : uk_ q 1 = -2 := uk_o c_6; rw [hW]; exact ⟨(if_neg (by decide)).symm, oQ_n _ _⟩) | (have hW : uk_ q 1 = 0 := uk_i c_6; rw [hW]; refine ⟨?_, oQ_0 rfl ?_⟩; · (rw [if_pos rfl]; have e9 : i = 24 := by omega; subst e9; unfold lhX_; first | (rw [if_pos c_78]; rfl) | (rw [if_neg c_78]; done)); · (first | exact (oN_mk (by assumption)).m | exact oM_.rf _ | exact (oN_pp _ _).m | exact (oN_fo _ _ _ _).m | assumption | (apply oN_.m; assumption) | exact oM_.tr (by assumption) (by assumption)))
        · replace c_27 : ¬ nI 24 ≤ nI i := c_27
          rw [jle (by omega) (by omega)] at c_27
          refine lv_aload_n hx hb dX5_loudHour_30 rfl (lv_at hl 3 rfl) ?_
          refine lv_iload hx hb dX5_loudHour_31 (lv_at hl 0 rfl) ?_
          refine kSiV hx hb hml hown hts hK hP gX5_loudHour_X5_allNoise okX5_allNoise (qX5_allNoise l D cI cB r B M (nI i) hI) [0, 1, 2, 3, 4, 5, 6, 7, 8, 9, 10, 11, 12, 13, 14, 15] rfl rfl rfl rfl (by decide) hl.1 rfl rfl (Nat.le_of_ble_eq_true rfl) dX5_loudHour_33 (by decide) (fun r_3 hr_4 => ?_)
          replace hr_4 : r_3 = an_ B (nI i) := hr_4
          subst r_3
          refine lv_aload_n hx hb dX5_loudHour_36 rfl (lv_at hl 3 rfl) ?_
          refine lv_iload_n hx hb dX5_loudHour_37 rfl (lv_at hl 2 rfl) ?_
          refine kSiV hx hb hml hown hts hK hP gX5_loudHour_X5_allNoise okX5_allNoise (qX5_allNoise l D cI cB r B M (nI (lh0_ B i)) hI) [0, 1, 2, 3, 4, 5, 6, 7, 8, 9, 10, 11, 12, 13, 14, 15] rfl rfl rfl rfl (by decide) hl.1 rfl rfl (Nat.le_of_ble_eq_true rfl) dX5_loudHour_38 (by decide) (fun r_5 hr_6 => ?_)
          replace hr_6 : r_5 = an_ B (nI (lh0_ B i)) := hr_6
          subst r_5
          refine lv_icmp_le (tgt := 49) hx hb dX5_loudHour_41 (by decide) (fun c_41 => ?_) (fun c_41 => ?_)
          · have d_41 := Int32.not_lt.mpr c_41
            refine lv_iload_n hx hb dX5_loudHour_49 rfl (lv_at hl 2 rfl) ?_
            refine lv_istore_n (lv' := [(2, .int (nI (lh0_ B i))), (4, .int (nI i)), (3, .int (bi_ (fun j => an_ B (nI j)) 0 i)), (0, .ref (r 0)), (1, .int q)]) hx hb dX5_loudHour_50 rfl hl (by decide) rfl (fun ls hl => ?_)
            refine lv_iload_n hx hb dX5_loudHour_51 rfl (lv_at hl 2 rfl) ?_
            refine lv_aload_n hx hb dX5_loudHour_52 rfl (lv_at hl 3 rfl) ?_
            refine lv_iload hx hb dX5_loudHour_53 (lv_at hl 1 rfl) ?_
            refine kSiV hx hb hml hown hts hK hP gX5_loudHour_X5_allNoise okX5_allNoise (qX5_allNoise l D cI cB r B M (nI i) hI) [0, 1, 2, 3, 4, 5, 6, 7, 8, 9, 10, 11, 12, 13, 14, 15] rfl rfl rfl rfl (by decide) hl.1 rfl rfl (Nat.le_of_ble_eq_true rfl) dX5_loudHour_55 (by decide) (fun r_7 hr_8 => ?_)
            replace hr_8 : r_7 = an_ B (nI i) := hr_8
            subst r_7
            refine lv_if_ne (tgt := 68) hx hb dX5_loudHour_58 (by decide) (fun c_58 => ?_) (fun c_58 => ?_)
            · skip
              refine lv_iconst (v := 0) hx hb dX5_loudHour_68 (by decide) ?_
              refine lv_ior hx hb dX5_loudHour_69 ?_
              refine lv_istore_n (lv' := [(3, .int ((bi_ (fun j => an_ B (nI j)) 0 i) ||| 0)), (2, .int (nI (lh0_ B i))), (4, .int (nI i)), (0, .ref (r 0)), (1, .int q)]) hx hb dX5_loudHour_70 rfl hl (by decide) rfl (fun ls hl => ?_)
              refine lv_iinc (v := (nI i) + 1) (lv' := [(4, .int ((nI i) + 1)), (3, .int ((bi_ (fun j => an_ B (nI j)) 0 i) ||| 0)), (2, .int (nI (lh0_ B i))), (0, .ref (r 0)), (1, .int q)]) hx hb dX5_loudHour_71 hl (k := 2) rfl (by first | rfl | decide) (by decide) rfl (fun ls hl => ?_)
              refine lv_goto (tgt := 23) hx hb dX5_loudHour_74 (by decide) ?_
              exact ih_23 (i + 1) (nI (lh0_ B i)) ((bi_ (fun j => an_ B (nI j)) 0 i) ||| 0) ((nI i) + 1)  (by first | exact congrArg nI (lh0_y (Int32.not_le.mp c_41)) | exact congrArg nI (lh0_n (Int32.not_lt.mpr c_41))) (by first | exact bi_y (f := fun j => an_ B (nI j)) c_58 | exact bi_n (f := fun j => an_ B (nI j)) c_58) (by first | rfl | exact nI_1 _) (by omega) (by omega) _ _ hP hD hS ls (lv_sub hl [0, 1, 2, 3, 4] rfl)
            · skip
              refine lv_iconst (v := 1) hx hb dX5_loudHour_61 (by decide) ?_
              refine lv_iload hx hb dX5_loudHour_62 (lv_at hl 1 rfl) ?_
              refine lv_ishl hx hb dX5_loudHour_64 ?_
              refine lv_goto (tgt := 69) hx hb dX5_loudHour_65 (by decide) ?_
              refine lv_ior hx hb dX5_loudHour_69 ?_
              refine lv_istore_n (lv' := [(3, .int ((bi_ (fun j => an_ B (nI j)) 0 i) ||| (1 <<< ((nI i) &&& 31)))), (2, .int (nI (lh0_ B i))), (4, .int (nI i)), (0, .ref (r 0)), (1, .int q)]) hx hb dX5_loudHour_70 rfl hl (by decide) rfl (fun ls hl => ?_)
              refine lv_iinc (v := (nI i) + 1) (lv' := [(4, .int ((nI i) + 1)), (3, .int ((bi_ (fun j => an_ B (nI j)) 0 i) ||| (1 <<< ((nI i) &&& 31)))), (2, .int (nI (lh0_ B i))), (0, .ref (r 0)), (1, .int q)]) hx hb dX5_loudHour_71 hl (k := 2) rfl (by first | rfl | decide) (by decide) rfl (fun ls hl => ?_)
              refine lv_goto (tgt := 23) hx hb dX5_loudHour_74 (by decide) ?_
              exact ih_23 (i + 1) (nI (lh0_ B i)) ((bi_ (fun j => an_ B (nI j)) 0 i) ||| (1 <<< ((nI i) &&& 31))) ((nI i) + 1)  (by first | exact congrArg nI (lh0_y (Int32.not_le.mp c_41)) | exact congrArg nI (lh0_n (Int32.not_lt.mpr c_41))) (by first | exact bi_y (f := fun j => an_ B (nI j)) c_58 | exact bi_n (f := fun j => an_ B (nI j)) c_58) (by first | rfl | exact nI_1 _) (by omega) (by omega) _ _ hP hD hS ls (lv_sub hl [0, 1, 2, 3, 4] rfl)
          · have d_41 := Int32.not_le.mp c_41
            refine lv_iload hx hb dX5_loudHour_44 (lv_at hl 0 rfl) ?_
            refine lv_goto (tgt := 50) hx hb dX5_loudHour_46 (by decide) ?_
            refine lv_istore_n (lv' := [(2, .int (nI i)), (4, .int (nI i)), (3, .int (bi_ (fun j => an_ B (nI j)) 0 i)), (0, .ref (r 0)), (1, .int q)]) hx hb dX5_loudHour_50 rfl hl (by decide) rfl (fun ls hl => ?_)
            refine lv_iload_n hx hb dX5_loudHour_51 rfl (lv_at hl 2 rfl) ?_
            refine lv_aload_n hx hb dX5_loudHour_52 rfl (lv_at hl 3 rfl) ?_
            refine lv_iload hx hb dX5_loudHour_53 (lv_at hl 1 rfl) ?_
            refine kSiV hx hb hml hown hts hK hP gX5_loudHour_X5_allNoise okX5_allNoise (qX5_allNoise l D cI cB r B M (nI i) hI) [0, 1, 2, 3, 4, 5, 6, 7, 8, 9, 10, 11, 12, 13, 14, 15] rfl rfl rfl rfl (by decide) hl.1 rfl rfl (Nat.le_of_ble_eq_true rfl) dX5_loudHour_55 (by decide) (fun r_9 hr_10 => ?_)
            replace hr_10 : r_9 = an_ B (nI i) := hr_10
            subst r_9
            refine lv_if_ne (tgt := 68) hx hb dX5_loudHour_58 (by decide) (fun c_58 => ?_) (fun c_58 => ?_)
            · skip
              refine lv_iconst (v := 0) hx hb dX5_loudHour_68 (by decide) ?_
              refine lv_ior hx hb dX5_loudHour_69 ?_
              refine lv_istore_n (lv' := [(3, .int ((bi_ (fun j => an_ B (nI j)) 0 i) ||| 0)), (2, .int (nI i)), (4, .int (nI i)), (0, .ref (r 0)), (1, .int q)]) hx hb dX5_loudHour_70 rfl hl (by decide) rfl (fun ls hl => ?_)
              refine lv_iinc (v := (nI i) + 1) (lv' := [(4, .int ((nI i) + 1)), (3, .int ((bi_ (fun j => an_ B (nI j)) 0 i) ||| 0)), (2, .int (nI i)), (0, .ref (r 0)), (1, .int q)]) hx hb dX5_loudHour_71 hl (k := 2) rfl (by first | rfl | decide) (by decide) rfl (fun ls hl => ?_)
              refine lv_goto (tgt := 23) hx hb dX5_loudHour_74 (by decide) ?_
              exact ih_23 (i + 1) (nI i) ((bi_ (fun j => an_ B (nI j)) 0 i) ||| 0) ((nI i) + 1)  (by first | exact congrArg nI (lh0_y (Int32.not_le.mp c_41)) | exact congrArg nI (lh0_n (Int32.not_lt.mpr c_41))) (by first | exact bi_y (f := fun j => an_ B (nI j)) c_58 | exact bi_n (f := fun j => an_ B (nI j)) c_58) (by first | rfl | exact nI_1 _) (by omega) (by omega) _ _ hP hD hS ls (lv_sub hl [0, 1, 2, 3, 4] rfl)
            · skip
              refine lv_iconst (v := 1) hx hb dX5_loudHour_61 (by decide) ?_
              refine lv_iload hx hb dX5_loudHour_62 (lv_at hl 1 rfl) ?_
              refine lv_ishl hx hb dX5_loudHour_64 ?_
              refine lv_goto (tgt := 69) hx hb dX5_loudHour_65 (by decide) ?_
              refine lv_ior hx hb dX5_loudHour_69 ?_
              refine lv_istore_n (lv' := [(3, .int ((bi_ (fun j => an_ B (nI j)) 0 i) ||| (1 <<< ((nI i) &&& 31)))), (2, .int (nI i)), (4, .int (nI i)), (0, .ref (r 0)), (1, .int q)]) hx hb dX5_loudHour_70 rfl hl (by decide) rfl (fun ls hl => ?_)
              refine lv_iinc (v := (nI i) + 1) (lv' := [(4, .int ((nI i) + 1)), (3, .int ((bi_ (fun j => an_ B (nI j)) 0 i) ||| (1 <<< ((nI i) &&& 31)))), (2, .int (nI i)), (0, .ref (r 0)), (1, .int q)]) hx hb dX5_loudHour_71 hl (k := 2) rfl (by first | rfl | decide) (by decide) rfl (fun ls hl => ?_)
              refine lv_goto (tgt := 23) hx hb dX5_loudHour_74 (by decide) ?_
              exact ih_23 (i + 1) (nI i) ((bi_ (fun j => an_ B (nI j)) 0 i) ||| (1 <<< ((nI i) &&& 31))) ((nI i) + 1)  (by first | exact congrArg nI (lh0_y (Int32.not_le.mp c_41)) | exact congrArg nI (lh0_n (Int32.not_lt.mpr c_41))) (by first | exact bi_y (f := fun j => an_ B (nI j)) c_58 | exact bi_n (f := fun j => an_ B (nI j)) c_58) (by first | rfl | exact nI_1 _) (by omega) (by omega) _ _ hP hD hS ls (lv_sub hl [0, 1, 2, 3, 4] rfl)
    exact lp_23 (24 + 1) 0 0 0 0  (rfl) (rfl) (by first | rfl | exact nI_0.symm) (by omega) (by omega) _ _ hP hD hS ls (lv_sub hl [0, 1, 2, 3, 4] rfl)
  · replace c_6 := b1_z c_6
    refine lv_aload_n hx hb dX5_loudHour_9 rfl (lv_at hl 0 rfl) ?_
    refine lv_bipush (v := (-2)) hx hb dX5_loudHour_10 (by decide) ?_
    refine kMiV hx hb hml hown hts hK hP hD hA hS gX5_loudHour_X5_no okX5_no (qX5_no l D cI cB r B M (-2) (Or.inr (Or.inl rfl))) [0, 1, 2, 3, 4, 5, 6, 7, 8, 9, 10, 11, 12, 13, 14, 15] rfl (by decide) (fun _ => mW_adr _ _ _ _ _ _) rfl rfl rfl (by decide) hl.1 rfl rfl (Nat.le_of_ble_eq_true rfl) dX5_loudHour_12 (by decide) (fun r_11 u_12 H locs hw_13 hP hD hS => ?_)
    replace hw_13 : r_11 = (-2) ∧ u_12 = (rfm_ M (-2)) := hw_13
    obtain ⟨hw_13a, hw_13b⟩ := hw_13
    subst r_11
    subst u_12
    replace hP : va_P D vwCl ([(r 0, .inr (5, [.ref (r 1), .ref (r 2), .ref (r 3), .ref (r 4), .ref (r 5), .ref (r 6), .int (nI (sn_ B)), .int (qt_ B), .int (il_ B), .int (pa_ B), .int (ho_ B), .int (dy_ B), .ref (r 13), .ref (r 14), .ref (r 15), .ref (r 16), .int (nI (mtn_ M)), .int (nI (mrd_ M)), .int (nI (msm_ M)), .ref (r 20), .int (mhi_ M), .int (mik_ M), .int (nI (mcu_ M)), .int (nI (mbk_ M)), .ref (r 25), .ref (r 26), .int (mlw_ M), .int (mhg_ M), .int (msl_ M), .ref (r 30), .int (nI (mrm_ M)), .ref (r 32), .int (mlo_ M)])), (r 1, .inl (cI, 7, .inl (rfx_ (mrf_ M) (-2)))), (r 2, .inl (cI, 7, .inl (kd_ B))), (r 3, .inl (cI, 7, .inl (fg_ B))), (r 4, .inl (cI, 7, .inl (pl_ B))), (r 5, .inl (cI, 7, .inl (pw_ B))), (r 6, .inl (cI, 7, .inl (jy_ B))), (r 13, .inl (cI, 96, .inl (mtp_ M))), (r 14, .inl (cI, 48, .inl (mlt_ M))), (r 15, .inl (cI, 48, .inl (mla_ M))), (r 16, .inl (cI, 144, .inl (mtd_ M))), (r 20, .inl (cI, 451, .inl (flatK (mkp_ M)))), (r 25, .inl (cI, 7, .inl (mof_ M))), (r 26, .inl (cI, 7, .inl (mfa_ M))), (r 30, .inl (cI, 12, .inl (mrw_ M))), (r 32, .inl (cI, 8, .inl (mhb_ M)))]) H := hP
    replace hD : va_D A ([(r 0, .inr (5, [.ref (r 1), .ref (r 2), .ref (r 3), .ref (r 4), .ref (r 5), .ref (r 6), .int (nI (sn_ B)), .int (qt_ B), .int (il_ B), .int (pa_ B), .int (ho_ B), .int (dy_ B), .ref (r 13), .ref (r 14), .ref (r 15), .ref (r 16), .int (nI (mtn_ M)), .int (nI (mrd_ M)), .int (nI (msm_ M)), .ref (r 20), .int (mhi_ M), .int (mik_ M), .int (nI (mcu_ M)), .int (nI (mbk_ M)), .ref (r 25), .ref (r 26), .int (mlw_ M), .int (mhg_ M), .int (msl_ M), .ref (r 30), .int (nI (mrm_ M)), .ref (r 32), .int (mlo_ M)])), (r 1, .inl (cI, 7, .inl (rfx_ (mrf_ M) (-2)))), (r 2, .inl (cI, 7, .inl (kd_ B))), (r 3, .inl (cI, 7, .inl (fg_ B))), (r 4, .inl (cI, 7, .inl (pl_ B))), (r 5, .inl (cI, 7, .inl (pw_ B))), (r 6, .inl (cI, 7, .inl (jy_ B))), (r 13, .inl (cI, 96, .inl (mtp_ M))), (r 14, .inl (cI, 48, .inl (mlt_ M))), (r 15, .inl (cI, 48, .inl (mla_ M))), (r 16, .inl (cI, 144, .inl (mtd_ M))), (r 20, .inl (cI, 451, .inl (flatK (mkp_ M)))), (r 25, .inl (cI, 7, .inl (mof_ M))), (r 26, .inl (cI, 7, .inl (mfa_ M))), (r 30, .inl (cI, 12, .inl (mrw_ M))), (r 32, .inl (cI, 8, .inl (mhb_ M)))]) := hD
    refine rMi hx hb hr hlk hS (rfm_ M (-2)) hP ?_ dX5_loudHour_15
    first | (have hW : uk_ q 1 = -2 := uk_o c_6; rw [hW]; exact ⟨(if_neg (by decide)).symm, oQ_n _ _⟩) | (have hW : uk_ q 1 = 0 := uk_i c_6; rw [hW]; refine ⟨?_, oQ_0 rfl ?_⟩; · (rw [if_pos rfl]; have e9 : i = 24 := by omega; subst e9; unfold lhX_; first | (rw [if_pos c_78]; rfl) | (rw [if_neg c_78]; done)); · (first | exact (oN_mk (by assumption)).m | exact oM_.rf _ | exact (oN_pp _ _).m | exact (oN_fo _ _ _ _).m | assumption | (apply oN_.m; assumption) | exact oM_.tr (by assumption) (by assumption)))

theorem okX5_mean : jok yX5_mean wsX5_mean cX5_mean 5 (some .long) 1 := ⟨⟨_, rfl⟩, by decide +kernel, by decide +kernel⟩
set_option maxHeartbeats 2000000 in
set_option maxRecDepth 100000 in
theorem qX5_mean (l : Launch) (D : va_G) (cI cB : ClassId) (r : Nat → Nat) (B : BayT) (M : MT) (p_9 : Int32) (hI : bI_ B) : jMl D cI cB l yX5_mean wsX5_mean 2 [.ref (r 0), .int p_9] (mW cI r B M) (S := MT) (fun r u => r = (if uk_ p_9 1 = 0 then it_ ((su_ (pl_ B) (sn_ B) : Int32).toInt64) ((mx1_ (sn_ B) : Int32).toInt64) p_9 else lref_ (uk_ p_9 1)) ∧ oQ_ M u (uk_ p_9 1)) (fun u => mW cI r B u) := by
  refine jMl.of (cc := cX5_mean) (maxL := 5) (ret := (some .long)) okX5_mean (Nat.le_of_ble_eq_true rfl) ?_
  intro p e s m below meth c ls A hx hb hr hts hown hlk hml hP hK hD hA hS hl
  replace hown : s.vm.findClass RX5 = some m.cls := hown
  replace hl : lv_has ls 5 [(0, .ref (r 0)), (1, .int p_9)] := hl
  have hn7 := hI.1
  have hinX5 : ∀ w ∈ wsX50, w ∈ wsX5_mean := by decide +kernel
  refine lv_iload_n hx hb dX5_mean_0 rfl (lv_at hl 1 rfl) ?_
  refine lv_iconst (v := 0) hx hb dX5_mean_1 (by decide) ?_
  refine lv_iconst (v := 1) hx hb dX5_mean_2 (by decide) ?_
  refine kSiS hx hb hml hown hts hK hP gX5_mean_X5_isIn okX5_isIn (qX5_isIn l D cI cB p_9 0 1 ) [] rfl (by decide) hl.1 rfl rfl (Nat.le_of_ble_eq_true rfl) dX5_mean_3 (by decide) (fun r_1 hr_2 => ?_)
  replace hr_2 : r_1 = b1 (0 ≤ p_9 ∧ p_9 ≤ 1) := hr_2
  subst r_1
  refine lv_if_ne (tgt := 16) hx hb dX5_mean_6 (by decide) (fun c_6 => ?_) (fun c_6 => ?_)
  · replace c_6 := b1_n c_6
    refine lv_lconst (v := 0) hx hb dX5_mean_16 rfl ?_
    refine lv_lstore_n (lv' := [(2, .long 0), (0, .ref (r 0)), (1, .int p_9)]) hx hb dX5_mean_17 rfl hl (by decide) rfl (fun ls hl => ?_)
    refine lv_iconst (v := 0) hx hb dX5_mean_18 (by decide) ?_
    refine lv_istore (lv' := [(4, .int 0), (2, .long 0), (0, .ref (r 0)), (1, .int p_9)]) hx hb dX5_mean_19 hl (by decide) rfl (fun ls hl => ?_)
    have lp_21 : ∀ (fu_21 : Nat) (i : Nat) (x2_21 : Int64) (x4_21 : Int32) , (x2_21 = (su_ (pl_ B) i).toInt64) → (x4_21 = nI i) → (i ≤ sn_ B) → sn_ B - i < fu_21 → ∀ (H : Heap) (locs : List Loc), va_P D vwCl (mW cI r B M) H → va_D A (mW cI r B M) → va_S A s.heap H locs → ∀ ls : Array Slot, lv_has ls 5 [(4, .int x4_21), (2, .long x2_21), (0, .ref (r 0)), (1, .int p_9)] → W p l e (jR 2) s m ([.ref (r 0), .int p_9] : List Value).toArray below meth c H locs 0 0 (MQ below (va_Ql (S := MT) (fun r u => r = (if uk_ p_9 1 = 0 then it_ ((su_ (pl_ B) (sn_ B) : Int32).toInt64) ((mx1_ (sn_ B) : Int32).toInt64) p_9 else lref_ (uk_ p_9 1)) ∧ oQ_ M u (uk_ p_9 1)) (fun u t => va_P D vwCl ((fun u => mW cI r B u) u) t.heap) A) ([.ref (r 0), .int p_9] : List Value).toArray s 0 0 A) (F0 m 21 ls []) := by
      intro fu_21
      induction fu_21 with
      | zero => intro i x2_21 x4_21 hx2_21 hx4_21 hi hfu; exact absurd hfu (Nat.not_lt_zero _)
      | succ fu_21 ih_21 =>
        intro i x2_21 x4_21 hx2_21 hx4_21 hi hfu_21 H locs hP hD hS ls hl
        subst x2_21
        subst x4_21
        replace hl : lv_has ls 5 [(4, .int (nI i)), (2, .long ((su_ (pl_ B) i).toInt64)), (0, .ref (r 0)), (1, .int p_9)] := hl
        replace hP : va_P D vwCl (mW cI r B M) H := hP
        replace hD : va_D A (mW cI r B M) := hD
        refine lv_iload hx hb dX5_mean_21 (lv_at hl 0 rfl) ?_
        refine lv_aload_n hx hb dX5_mean_23 rfl (lv_at hl 2 rfl) ?_
        refine va_get (ci := 5) (C := RX5) (T := TX5) (N := 33) hx hb hts hinX5 hown hK.1 hP 0 rfl rfl 6 (by decide) (hts _ (List.mem_of_getElem? (i := 1) rfl)) (fun _ h9 => h9) rfl dX5_mean_24 ?_
        refine lv_icmp_ge (tgt := 47) hx hb dX5_mean_27 (by decide) (fun c_27 => ?_) (fun c_27 => ?_)
        · replace c_27 : nI (sn_ B) ≤ nI i := c_27
          rw [jle (by omega) (by omega)] at c_27
          refine lv_aload_n hx hb dX5_mean_47 rfl (lv_at hl 2 rfl) ?_
          refine va_get (ci := 5) (C := RX5) (T := TX5) (N := 33) hx hb hts hinX5 hown hK.1 hP 0 rfl rfl 6 (by decide) (hts _ (List.mem_of_getElem? (i := 1) rfl)) (fun _ h9 => h9) rfl dX5_mean_48 ?_
          refine lv_if_ne (tgt := 59) hx hb dX5_mean_51 (by decide) (fun c_51 => ?_) (fun c_51 => ?_)
          · replace c_51 : ¬ nI (sn_ B) = nI 0 := c_51
            rw [jeq (by omega) (by omega)] at c_51
            refine lv_lload_n hx hb dX5_mean_59 rfl (lv_at hl 1 rfl) ?_
            refine lv_aload_n hx hb dX5_mean_60 rfl (lv_at hl 2 rfl) ?_
            refine va_get (ci := 5) (C := RX5) (T := TX5) (N := 33) hx hb hts hinX5 hown hK.1 hP 0 rfl rfl 6 (by decide) (hts _ (List.mem_of_getElem? (i := 1) rfl)) (fun _ h9 => h9) rfl dX5_mean_61 ?_
            refine lv_i2l (v := (nI (sn_ B) : Int32).toInt64) hx hb dX5_mean_64 rfl ?_
            refine lv_iload_n hx hb dX5_mean_65 rfl (lv_at hl 3 rfl) ?_
            refine kSlS hx hb hml hown hts hK hP gX5_mean_X5_partOf okX5_partOf (qX5_partOf l D cI cB ((su_ (pl_ B) i).toInt64) ((nI (sn_ B) : Int32).toInt64) p_9 (by rw [show i = sn_ B by omega]; exact su_N hI) ⟨sn_ B, Nat.pos_of_ne_zero c_51, by omega, nI_l (by omega)⟩) [] rfl (by decide) hl.1 rfl rfl (Nat.le_of_ble_eq_true rfl) dX5_mean_66 (by decide) (fun r_3 hr_4 => ?_)
            replace hr_4 : r_3 = it_ ((su_ (pl_ B) i).toInt64) ((nI (sn_ B) : Int32).toInt64) p_9 := hr_4
            subst r_3
            refine rMl hx hb hr hlk hS M hP ?_ dX5_mean_69
            first | (have hW : uk_ p_9 1 = -2 := uk_o c_6; rw [hW]; exact ⟨(if_neg (by decide)).symm, oQ_n _ _⟩) | (have hW : uk_ p_9 1 = 0 := uk_i c_6; rw [hW]; refine ⟨?_, oQ_0 rfl ?_⟩; · (rw [if_pos rfl]; have e9 : i = sn_ B := by omega; subst e9; first | (rw [mx_n (Nat.pos_of_ne_zero c_51) hn7]; done) | exact mean_0 c_51 (uk_0.mp hW)); · (first | exact (oN_mk (by assumption)).m | exact oM_.rf _ | exact (oN_pp _ _).m | exact (oN_fo _ _ _ _).m | assumption | (apply oN_.m; assumption) | exact oM_.tr (by assumption) (by assumption)))
          · replace c_51 : nI (sn_ B) = nI 0 := c_51
            rw [jeq (by omega) (by omega)] at c_51
            refine lv_iload_n hx hb dX5_mean_54 rfl (lv_at hl 3 rfl) ?_
            refine lv_i2l (v := (p_9 : Int32).toInt64) hx hb dX5_mean_55 rfl ?_
            refine lv_goto (tgt := 69) hx hb dX5_mean_56 (by decide) ?_
            refine rMl hx hb hr hlk hS M hP ?_ dX5_mean_69
            first | (have hW : uk_ p_9 1 = -2 := uk_o c_6; rw [hW]; exact ⟨(if_neg (by decide)).symm, oQ_n _ _⟩) | (have hW : uk_ p_9 1 = 0 := uk_i c_6; rw [hW]; refine ⟨?_, oQ_0 rfl ?_⟩; · (rw [if_pos rfl]; have e9 : i = sn_ B := by omega; subst e9; first | (rw [mx_n (Nat.pos_of_ne_zero c_51) hn7]; done) | exact mean_0 c_51 (uk_0.mp hW)); · (first | exact (oN_mk (by assumption)).m | exact oM_.rf _ | exact (oN_pp _ _).m | exact (oN_fo _ _ _ _).m | assumption | (apply oN_.m; assumption) | exact oM_.tr (by assumption) (by assumption)))
        · replace c_27 : ¬ nI (sn_ B) ≤ nI i := c_27
          rw [jle (by omega) (by omega)] at c_27
          refine lv_lload_n hx hb dX5_mean_30 rfl (lv_at hl 1 rfl) ?_
          refine lv_aload_n hx hb dX5_mean_31 rfl (lv_at hl 2 rfl) ?_
          refine va_get (ci := 5) (C := RX5) (T := TX5) (N := 33) hx hb hts hinX5 hown hK.1 hP 0 rfl rfl 3 (by decide) (hts _ (List.mem_of_getElem? (i := 2) rfl)) (fun _ h9 => h9) rfl dX5_mean_32 ?_
          refine lv_iload hx hb dX5_mean_35 (lv_at hl 0 rfl) ?_
          refine jald hx hb hK.1 hP 4 0 i rfl rfl rfl (by omega) (Nat.le_of_ble_eq_true rfl) dX5_mean_37 ?_
          refine lv_i2l (v := ((pl_ B) i : Int32).toInt64) hx hb dX5_mean_38 rfl ?_
          refine lv_ladd hx hb dX5_mean_39 ?_
          refine lv_lstore_n (lv' := [(2, .long (((su_ (pl_ B) i).toInt64) + (((pl_ B) i : Int32).toInt64))), (4, .int (nI i)), (0, .ref (r 0)), (1, .int p_9)]) hx hb dX5_mean_40 rfl hl (by decide) rfl (fun ls hl => ?_)
          refine lv_iinc (v := (nI i) + 1) (lv' := [(4, .int ((nI i) + 1)), (2, .long (((su_ (pl_ B) i).toInt64) + (((pl_ B) i : Int32).toInt64))), (0, .ref (r 0)), (1, .int p_9)]) hx hb dX5_mean_41 hl (k := 1) rfl (by first | rfl | decide) (by decide) rfl (fun ls hl => ?_)
          refine lv_goto (tgt := 21) hx hb dX5_mean_44 (by decide) ?_
          exact ih_21 (i + 1) (((su_ (pl_ B) i).toInt64) + (((pl_ B) i : Int32).toInt64)) ((nI i) + 1)  (su_l hI (by omega)) (by first | rfl | exact nI_1 _) (by omega) (by omega) _ _ hP hD hS ls (lv_sub hl [0, 1, 2, 3] rfl)
    exact lp_21 ((sn_ B) + 1) 0 0 0  (rfl) (by first | rfl | exact nI_0.symm) (by omega) (by omega) _ _ hP hD hS ls (lv_sub hl [0, 1, 2, 3] rfl)
  · replace c_6 := b1_z c_6
    refine lv_aload_n hx hb dX5_mean_9 rfl (lv_at hl 0 rfl) ?_
    refine lv_bipush (v := (-2)) hx hb dX5_mean_10 (by decide) ?_
    refine kMlV hx hb hml hown hts hK hP hD hA hS gX5_mean_X5_lowestOf okX5_lowestOf (qX5_lowestOf l D cI cB r B M (-2) (Or.inr (Or.inl rfl))) [0, 1, 2, 3, 4, 5, 6, 7, 8, 9, 10, 11, 12, 13, 14, 15] rfl (by decide) (fun _ => mW_adr _ _ _ _ _ _) rfl rfl rfl (by decide) hl.1 rfl rfl (Nat.le_of_ble_eq_true rfl) dX5_mean_12 (by decide) (fun r_5 u_6 H locs hw_7 hP hD hS => ?_)
    replace hw_7 : r_5 = lref_ (-2) ∧ u_6 = (rfm_ M (-2)) := hw_7
    obtain ⟨hw_7a, hw_7b⟩ := hw_7
    subst r_5
    subst u_6
    replace hP : va_P D vwCl ([(r 0, .inr (5, [.ref (r 1), .ref (r 2), .ref (r 3), .ref (r 4), .ref (r 5), .ref (r 6), .int (nI (sn_ B)), .int (qt_ B), .int (il_ B), .int (pa_ B), .int (ho_ B), .int (dy_ B), .ref (r 13), .ref (r 14), .ref (r 15), .ref (r 16), .int (nI (mtn_ M)), .int (nI (mrd_ M)), .int (nI (msm_ M)), .ref (r 20), .int (mhi_ M), .int (mik_ M), .int (nI (mcu_ M)), .int (nI (mbk_ M)), .ref (r 25), .ref (r 26), .int (mlw_ M), .int (mhg_ M), .int (msl_ M), .ref (r 30), .int (nI (mrm_ M)), .ref (r 32), .int (mlo_ M)])), (r 1, .inl (cI, 7, .inl (rfx_ (mrf_ M) (-2)))), (r 2, .inl (cI, 7, .inl (kd_ B))), (r 3, .inl (cI, 7, .inl (fg_ B))), (r 4, .inl (cI, 7, .inl (pl_ B))), (r 5, .inl (cI, 7, .inl (pw_ B))), (r 6, .inl (cI, 7, .inl (jy_ B))), (r 13, .inl (cI, 96, .inl (mtp_ M))), (r 14, .inl (cI, 48, .inl (mlt_ M))), (r 15, .inl (cI, 48, .inl (mla_ M))), (r 16, .inl (cI, 144, .inl (mtd_ M))), (r 20, .inl (cI, 451, .inl (flatK (mkp_ M)))), (r 25, .inl (cI, 7, .inl (mof_ M))), (r 26, .inl (cI, 7, .inl (mfa_ M))), (r 30, .inl (cI, 12, .inl (mrw_ M))), (r 32, .inl (cI, 8, .inl (mhb_ M)))]) H := hP
    replace hD : va_D A ([(r 0, .inr (5, [.ref (r 1), .ref (r 2), .ref (r 3), .ref (r 4), .ref (r 5), .ref (r 6), .int (nI (sn_ B)), .int (qt_ B), .int (il_ B), .int (pa_ B), .int (ho_ B), .int (dy_ B), .ref (r 13), .ref (r 14), .ref (r 15), .ref (r 16), .int (nI (mtn_ M)), .int (nI (mrd_ M)), .int (nI (msm_ M)), .ref (r 20), .int (mhi_ M), .int (mik_ M), .int (nI (mcu_ M)), .int (nI (mbk_ M)), .ref (r 25), .ref (r 26), .int (mlw_ M), .int (mhg_ M), .int (msl_ M), .ref (r 30), .int (nI (mrm_ M)), .ref (r 32), .int (mlo_ M)])), (r 1, .inl (cI, 7, .inl (rfx_ (mrf_ M) (-2)))), (r 2, .inl (cI, 7, .inl (kd_ B))), (r 3, .inl (cI, 7, .inl (fg_ B))), (r 4, .inl (cI, 7, .inl (pl_ B))), (r 5, .inl (cI, 7, .inl (pw_ B))), (r 6, .inl (cI, 7, .inl (jy_ B))), (r 13, .inl (cI, 96, .inl (mtp_ M))), (r 14, .inl (cI, 48, .inl (mlt_ M))), (r 15, .inl (cI, 48, .inl (mla_ M))), (r 16, .inl (cI, 144, .inl (mtd_ M))), (r 20, .inl (cI, 451, .inl (flatK (mkp_ M)))), (r 25, .inl (cI, 7, .inl (mof_ M))), (r 26, .inl (cI, 7, .inl (mfa_ M))), (r 30, .inl (cI, 12, .inl (mrw_ M))), (r 32, .inl (cI, 8, .inl (mhb_ M)))]) := hD
    refine rMl hx hb hr hlk hS (rfm_ M (-2)) hP ?_ dX5_mean_15
    first | (have hW : uk_ p_9 1 = -2 := uk_o c_6; rw [hW]; exact ⟨(if_neg (by decide)).symm, oQ_n _ _⟩) | (have hW : uk_ p_9 1 = 0 := uk_i c_6; rw [hW]; refine ⟨?_, oQ_0 rfl ?_⟩; · (rw [if_pos rfl]; have e9 : i = sn_ B := by omega; subst e9; first | (rw [mx_n (Nat.pos_of_ne_zero c_51) hn7]; done) | exact mean_0 c_51 (uk_0.mp hW)); · (first | exact (oN_mk (by assumption)).m | exact oM_.rf _ | exact (oN_pp _ _).m | exact (oN_fo _ _ _ _).m | assumption | (apply oN_.m; assumption) | exact oM_.tr (by assumption) (by assumption)))

theorem okX5_gap : jok yX5_gap wsX5_gap cX5_gap 6 (some .int) 1 := ⟨⟨_, rfl⟩, by decide +kernel, by decide +kernel⟩
set_option maxHeartbeats 2000000 in
set_option maxRecDepth 100000 in
theorem qX5_gap (l : Launch) (D : va_G) (cI cB : ClassId) (r : Nat → Nat) (B : BayT) (M : MT) (q : Int32) (hI : bI_ B) : jMi D cI cB l yX5_gap wsX5_gap 1 [.ref (r 0), .int q] (mW cI r B M) (S := MT) (fun r u => r = (if uk_ q 1 = 0 then (if q = 1 then oI_ (wg_ B 31).1 else gWg_ B) else uk_ q 1) ∧ oQ_ M u (uk_ q 1)) (fun u => mW cI r B u) := by
  refine jMi.of (cc := cX5_gap) (maxL := 6) (ret := (some .int)) okX5_gap (Nat.le_of_ble_eq_true rfl) ?_
  intro p e s m below meth c ls A hx hb hr hts hown hlk hml hP hK hD hA hS hl
  replace hown : s.vm.findClass RX5 = some m.cls := hown
  replace hl : lv_has ls 6 [(0, .ref (r 0)), (1, .int q)] := hl
  have hn7 := hI.1
  refine lv_iload_n hx hb dX5_gap_0 rfl (lv_at hl 1 rfl) ?_
  refine lv_iconst (v := 0) hx hb dX5_gap_1 (by decide) ?_
  refine lv_iconst (v := 1) hx hb dX5_gap_2 (by decide) ?_
  refine kSiS hx hb hml hown hts hK hP gX5_gap_X5_isIn okX5_isIn (qX5_isIn l D cI cB q 0 1 ) [] rfl (by decide) hl.1 rfl rfl (Nat.le_of_ble_eq_true rfl) dX5_gap_3 (by decide) (fun r_1 hr_2 => ?_)
  replace hr_2 : r_1 = b1 (0 ≤ q ∧ q ≤ 1) := hr_2
  subst r_1
  refine lv_if_ne (tgt := 16) hx hb dX5_gap_6 (by decide) (fun c_6 => ?_) (fun c_6 => ?_)
  · replace c_6 := b1_n c_6
    refine lv_bipush (v := (-9)) hx hb dX5_gap_16 (by decide) ?_
    refine lv_istore_n (lv' := [(2, .int (-9)), (0, .ref (r 0)), (1, .int q)]) hx hb dX5_gap_18 rfl hl (by decide) rfl (fun ls hl => ?_)
    refine lv_bipush (v := (-9)) hx hb dX5_gap_19 (by decide) ?_
    refine lv_istore_n (lv' := [(3, .int (-9)), (2, .int (-9)), (0, .ref (r 0)), (1, .int q)]) hx hb dX5_gap_21 rfl hl (by decide) rfl (fun ls hl => ?_)
    refine lv_bipush (v := (-9)) hx hb dX5_gap_22 (by decide) ?_
    refine lv_istore (lv' := [(4, .int (-9)), (3, .int (-9)), (2, .int (-9)), (0, .ref (r 0)), (1, .int q)]) hx hb dX5_gap_24 hl (by decide) rfl (fun ls hl => ?_)
    refine lv_iconst (v := 0) hx hb dX5_gap_26 (by decide) ?_
    refine lv_istore (lv' := [(5, .int 0), (4, .int (-9)), (3, .int (-9)), (2, .int (-9)), (0, .ref (r 0)), (1, .int q)]) hx hb dX5_gap_27 hl (by decide) rfl (fun ls hl => ?_)
    have lp_29 : ∀ (fu_29 : Nat) (i : Nat) (x2_29 : Int32) (x3_29 : Int32) (x4_29 : Int32) (x5_29 : Int32) , (x2_29 = oI_ (g3_ B i).1) → (x3_29 = (g3_ B i).2.2) → (x4_29 = oI_ (g3_ B i).2.1) → (x5_29 = nI i) → (i ≤ 31) → 31 - i < fu_29 → ∀ (H : Heap) (locs : List Loc), va_P D vwCl (mW cI r B M) H → va_D A (mW cI r B M) → va_S A s.heap H locs → ∀ ls : Array Slot, lv_has ls 6 [(5, .int x5_29), (4, .int x4_29), (3, .int x3_29), (2, .int x2_29), (0, .ref (r 0)), (1, .int q)] → W p l e (jR 1) s m ([.ref (r 0), .int q] : List Value).toArray below meth c H locs 0 0 (MQ below (va_Qi (S := MT) (fun r u => r = (if uk_ q 1 = 0 then (if q = 1 then oI_ (wg_ B 31).1 else gWg_ B) else uk_ q 1) ∧ oQ_ M u (uk_ q 1)) (fun u t => va_P D vwCl ((fun u => mW cI r B u) u) t.heap) A) ([.ref (r 0), .int q] : List Value).toArray s 0 0 A) (F0 m 29 ls []) := by
      intro fu_29
      induction fu_29 with
      | zero => intro i x2_29 x3_29 x4_29 x5_29 hx2_29 hx3_29 hx4_29 hx5_29 hi hfu; exact absurd hfu (Nat.not_lt_zero _)
      | succ fu_29 ih_29 =>
        intro i x2_29 x3_29 x4_29 x5_29 hx2_29 hx3_29 hx4_29 hx5_29 hi hfu_29 H locs hP hD hS ls hl
        subst x2_29
        subst x3_29
        subst x4_29
        subst x5_29
        replace hl : lv_has ls 6 [(5, .int (nI i)), (4, .int (oI_ (g3_ B i).2.1)), (3, .int ((g3_ B i).2.2)), (2, .int (oI_ (g3_ B i).1)), (0, .ref (r 0)), (1, .int q)] := hl
        replace hP : va_P D vwCl (mW cI r B M) H := hP
        replace hD : va_D A (mW cI r B M) := hD
        rcases hL : (g3_ B i).1 with _ | t
        · rw [hL] at hl
          replace hl : lv_has ls 6 [(5, .int (nI i)), (4, .int (oI_ (g3_ B i).2.1)), (3, .int ((g3_ B i).2.2)), (2, .int (-9)), (0, .ref (r 0)), (1, .int q)] := hl
          refine lv_iload hx hb dX5_gap_29 (lv_at hl 0 rfl) ?_
          refine lv_bipush (v := 30) hx hb dX5_gap_31 (by decide) ?_
          refine lv_icmp_gt (tgt := 77) hx hb dX5_gap_33 (by decide) (fun c_33 => ?_) (fun c_33 => ?_)
          · replace c_33 : nI 30 < nI i := c_33
            rw [jlt (by omega) (by omega)] at c_33
            refine lv_iload_n hx hb dX5_gap_77 rfl (lv_at hl 5 rfl) ?_
            refine lv_if_ne (tgt := 85) hx hb dX5_gap_78 (by decide) (fun c_78 => ?_) (fun c_78 => ?_)
            · skip
              refine lv_iload hx hb dX5_gap_85 (lv_at hl 1 rfl) ?_
              refine rMi hx hb hr hlk hS M hP ?_ dX5_gap_87
              first | (have hW : uk_ q 1 = -2 := uk_o c_6; rw [hW]; exact ⟨(if_neg (by decide)).symm, oQ_n _ _⟩) | (have hW : uk_ q 1 = 0 := uk_i c_6; rw [hW]; refine ⟨?_, oQ_0 rfl ?_⟩; · (rw [if_pos rfl]; have e9 : i = 31 := by omega; subst e9; first | (rw [if_neg (by rw [c_78]; decide)]; exact (g3_wg B).2) | (rw [if_pos (q1n_ c_6 c_78)]; exact (g3_wg B).1)); · (first | exact (oN_mk (by assumption)).m | exact oM_.rf _ | exact (oN_pp _ _).m | exact (oN_fo _ _ _ _).m | assumption | (apply oN_.m; assumption) | exact oM_.tr (by assumption) (by assumption)))
            · skip
              refine lv_iload_n hx hb dX5_gap_81 rfl (lv_at hl 2 rfl) ?_
              refine lv_goto (tgt := 87) hx hb dX5_gap_82 (by decide) ?_
              refine rMi hx hb hr hlk hS M hP ?_ dX5_gap_87
              first | (have hW : uk_ q 1 = -2 := uk_o c_6; rw [hW]; exact ⟨(if_neg (by decide)).symm, oQ_n _ _⟩) | (have hW : uk_ q 1 = 0 := uk_i c_6; rw [hW]; refine ⟨?_, oQ_0 rfl ?_⟩; · (rw [if_pos rfl]; have e9 : i = 31 := by omega; subst e9; first | (rw [if_neg (by rw [c_78]; decide)]; exact (g3_wg B).2) | (rw [if_pos (q1n_ c_6 c_78)]; exact (g3_wg B).1)); · (first | exact (oN_mk (by assumption)).m | exact oM_.rf _ | exact (oN_pp _ _).m | exact (oN_fo _ _ _ _).m | assumption | (apply oN_.m; assumption) | exact oM_.tr (by assumption) (by assumption)))
          · replace c_33 : ¬ nI 30 < nI i := c_33
            rw [jlt (by omega) (by omega)] at c_33
            refine lv_aload_n hx hb dX5_gap_36 rfl (lv_at hl 4 rfl) ?_
            refine lv_iload hx hb dX5_gap_37 (lv_at hl 0 rfl) ?_
            refine kSiV hx hb hml hown hts hK hP gX5_gap_X5_shoreAt okX5_shoreAt (qX5_shoreAt l D cI cB r B M (nI i) (by show sn_ B ≤ 7; omega)) [0, 1, 2, 3, 4, 5, 6, 7, 8, 9, 10, 11, 12, 13, 14, 15] rfl rfl rfl rfl (by decide) hl.1 rfl rfl (Nat.le_of_ble_eq_true rfl) dX5_gap_39 (by decide) (fun r_3 hr_4 => ?_)
            replace hr_4 : r_3 = oI_ (sa_ B (nI i)) := hr_4
            subst r_3
            refine lv_if_ge (tgt := 48) hx hb dX5_gap_42 (by decide) (fun c_42 => ?_) (fun c_42 => ?_)
            · replace c_42 : ¬ sa_ B (nI i) = none := fun z => absurd c_42 (Int32.not_le.mpr ((oI_lt0 (sa_b hn7)).mpr z))
              refine lv_iload_n hx hb dX5_gap_48 rfl (lv_at hl 3 rfl) ?_
              refine lv_if_lt (tgt := 68) hx hb dX5_gap_49 (by decide) (fun _ => ?_) (fun q => absurd q (by decide))
              refine lv_iload hx hb dX5_gap_68 (lv_at hl 0 rfl) ?_
              refine lv_istore_n (lv' := [(2, .int (nI i)), (5, .int (nI i)), (4, .int (oI_ (g3_ B i).2.1)), (3, .int ((g3_ B i).2.2)), (0, .ref (r 0)), (1, .int q)]) hx hb dX5_gap_70 rfl hl (by decide) rfl (fun ls hl => ?_)
              refine lv_iinc (v := (nI i) + 1) (lv' := [(5, .int ((nI i) + 1)), (2, .int (nI i)), (4, .int (oI_ (g3_ B i).2.1)), (3, .int ((g3_ B i).2.2)), (0, .ref (r 0)), (1, .int q)]) hx hb dX5_gap_71 hl (k := 1) rfl (by first | rfl | decide) (by decide) rfl (fun ls hl => ?_)
              refine lv_goto (tgt := 29) hx hb dX5_gap_74 (by decide) ?_
              exact ih_29 (i + 1) (nI i) ((g3_ B i).2.2) (oI_ (g3_ B i).2.1) ((nI i) + 1)  (by first | exact (g3_a2 c_42 hL).symm | exact (g3_b2 c_42).symm) (by first | exact (congrArg (fun x => x.2.2) (g3_a c_42)).symm | exact (congrArg (fun x => x.2) (g3_b c_42 hL)).symm | exact (congrArg (fun x => x.2) (g3_c c_42 hL (Int32.not_le.mp c_57))).symm | exact (congrArg (fun x => x.2) (g3_d c_42 hL (Int32.not_lt.mpr c_57))).symm) (by first | exact (congrArg (fun x => oI_ x.2.1) (g3_a c_42)).symm | exact (congrArg (fun x => oI_ x.1) (g3_b c_42 hL)).symm | exact (congrArg (fun x => oI_ x.1) (g3_c c_42 hL (Int32.not_le.mp c_57))).symm | exact (congrArg (fun x => oI_ x.1) (g3_d c_42 hL (Int32.not_lt.mpr c_57))).symm) (by first | rfl | exact nI_1 _) (by omega) (by omega) _ _ hP hD hS ls (lv_sub hl [0, 2, 3, 1, 4, 5] rfl)
            · replace c_42 : sa_ B (nI i) = none := (oI_lt0 (sa_b hn7)).mp (Int32.not_le.mp c_42)
              refine lv_goto (tgt := 71) hx hb dX5_gap_45 (by decide) ?_
              refine lv_iinc (v := (nI i) + 1) (lv' := [(5, .int ((nI i) + 1)), (4, .int (oI_ (g3_ B i).2.1)), (3, .int ((g3_ B i).2.2)), (2, .int (-9)), (0, .ref (r 0)), (1, .int q)]) hx hb dX5_gap_71 hl (k := 0) rfl (by first | rfl | decide) (by decide) rfl (fun ls hl => ?_)
              refine lv_goto (tgt := 29) hx hb dX5_gap_74 (by decide) ?_
              exact ih_29 (i + 1) (-9) ((g3_ B i).2.2) (oI_ (g3_ B i).2.1) ((nI i) + 1)  (by first | exact (g3_a2 c_42 hL).symm | exact (g3_b2 c_42).symm) (by first | exact (congrArg (fun x => x.2.2) (g3_a c_42)).symm | exact (congrArg (fun x => x.2) (g3_b c_42 hL)).symm | exact (congrArg (fun x => x.2) (g3_c c_42 hL (Int32.not_le.mp c_57))).symm | exact (congrArg (fun x => x.2) (g3_d c_42 hL (Int32.not_lt.mpr c_57))).symm) (by first | exact (congrArg (fun x => oI_ x.2.1) (g3_a c_42)).symm | exact (congrArg (fun x => oI_ x.1) (g3_b c_42 hL)).symm | exact (congrArg (fun x => oI_ x.1) (g3_c c_42 hL (Int32.not_le.mp c_57))).symm | exact (congrArg (fun x => oI_ x.1) (g3_d c_42 hL (Int32.not_lt.mpr c_57))).symm) (by first | rfl | exact nI_1 _) (by omega) (by omega) _ _ hP hD hS ls (lv_sub hl [0, 1, 2, 3, 4, 5] rfl)
        · rw [hL] at hl
          replace hl : lv_has ls 6 [(5, .int (nI i)), (4, .int (oI_ (g3_ B i).2.1)), (3, .int ((g3_ B i).2.2)), (2, .int (nI t)), (0, .ref (r 0)), (1, .int q)] := hl
          have ht := g3_lt _ _ hL
          refine lv_iload hx hb dX5_gap_29 (lv_at hl 0 rfl) ?_
          refine lv_bipush (v := 30) hx hb dX5_gap_31 (by decide) ?_
          refine lv_icmp_gt (tgt := 77) hx hb dX5_gap_33 (by decide) (fun c_33 => ?_) (fun c_33 => ?_)
          · replace c_33 : nI 30 < nI i := c_33
            rw [jlt (by omega) (by omega)] at c_33
            refine lv_iload_n hx hb dX5_gap_77 rfl (lv_at hl 5 rfl) ?_
            refine lv_if_ne (tgt := 85) hx hb dX5_gap_78 (by decide) (fun c_78 => ?_) (fun c_78 => ?_)
            · skip
              refine lv_iload hx hb dX5_gap_85 (lv_at hl 1 rfl) ?_
              refine rMi hx hb hr hlk hS M hP ?_ dX5_gap_87
              first | (have hW : uk_ q 1 = -2 := uk_o c_6; rw [hW]; exact ⟨(if_neg (by decide)).symm, oQ_n _ _⟩) | (have hW : uk_ q 1 = 0 := uk_i c_6; rw [hW]; refine ⟨?_, oQ_0 rfl ?_⟩; · (rw [if_pos rfl]; have e9 : i = 31 := by omega; subst e9; first | (rw [if_neg (by rw [c_78]; decide)]; exact (g3_wg B).2) | (rw [if_pos (q1n_ c_6 c_78)]; exact (g3_wg B).1)); · (first | exact (oN_mk (by assumption)).m | exact oM_.rf _ | exact (oN_pp _ _).m | exact (oN_fo _ _ _ _).m | assumption | (apply oN_.m; assumption) | exact oM_.tr (by assumption) (by assumption)))
            · skip
              refine lv_iload_n hx hb dX5_gap_81 rfl (lv_at hl 2 rfl) ?_
              refine lv_goto (tgt := 87) hx hb dX5_gap_82 (by decide) ?_
              refine rMi hx hb hr hlk hS M hP ?_ dX5_gap_87
              first | (have hW : uk_ q 1 = -2 := uk_o c_6; rw [hW]; exact ⟨(if_neg (by decide)).symm, oQ_n _ _⟩) | (have hW : uk_ q 1 = 0 := uk_i c_6; rw [hW]; refine ⟨?_, oQ_0 rfl ?_⟩; · (rw [if_pos rfl]; have e9 : i = 31 := by omega; subst e9; first | (rw [if_neg (by rw [c_78]; decide)]; exact (g3_wg B).2) | (rw [if_pos (q1n_ c_6 c_78)]; exact (g3_wg B).1)); · (first | exact (oN_mk (by assumption)).m | exact oM_.rf _ | exact (oN_pp _ _).m | exact (oN_fo _ _ _ _).m | assumption | (apply oN_.m; assumption) | exact oM_.tr (by assumption) (by assumption)))
          · replace c_33 : ¬ nI 30 < nI i := c_33
            rw [jlt (by omega) (by omega)] at c_33
            refine lv_aload_n hx hb dX5_gap_36 rfl (lv_at hl 4 rfl) ?_
            refine lv_iload hx hb dX5_gap_37 (lv_at hl 0 rfl) ?_
            refine kSiV hx hb hml hown hts hK hP gX5_gap_X5_shoreAt okX5_shoreAt (qX5_shoreAt l D cI cB r B M (nI i) (by show sn_ B ≤ 7; omega)) [0, 1, 2, 3, 4, 5, 6, 7, 8, 9, 10, 11, 12, 13, 14, 15] rfl rfl rfl rfl (by decide) hl.1 rfl rfl (Nat.le_of_ble_eq_true rfl) dX5_gap_39 (by decide) (fun r_5 hr_6 => ?_)
            replace hr_6 : r_5 = oI_ (sa_ B (nI i)) := hr_6
            subst r_5
            refine lv_if_ge (tgt := 48) hx hb dX5_gap_42 (by decide) (fun c_42 => ?_) (fun c_42 => ?_)
            · replace c_42 : ¬ sa_ B (nI i) = none := fun z => absurd c_42 (Int32.not_le.mpr ((oI_lt0 (sa_b hn7)).mpr z))
              refine lv_iload_n hx hb dX5_gap_48 rfl (lv_at hl 3 rfl) ?_
              refine lv_if_lt (tgt := 68) hx hb dX5_gap_49 (by decide) (fun q => absurd q (nI_pos (by omega))) (fun _ => ?_)
              refine lv_iload hx hb dX5_gap_52 (lv_at hl 0 rfl) ?_
              refine lv_iload_n hx hb dX5_gap_54 rfl (lv_at hl 3 rfl) ?_
              refine lv_isub hx hb dX5_gap_55 ?_
              refine lv_iload_n hx hb dX5_gap_56 rfl (lv_at hl 2 rfl) ?_
              refine lv_icmp_le (tgt := 68) hx hb dX5_gap_57 (by decide) (fun c_57 => ?_) (fun c_57 => ?_)
              · have d_57 := Int32.not_lt.mpr c_57
                refine lv_iload hx hb dX5_gap_68 (lv_at hl 0 rfl) ?_
                refine lv_istore_n (lv' := [(2, .int (nI i)), (5, .int (nI i)), (4, .int (oI_ (g3_ B i).2.1)), (3, .int ((g3_ B i).2.2)), (0, .ref (r 0)), (1, .int q)]) hx hb dX5_gap_70 rfl hl (by decide) rfl (fun ls hl => ?_)
                refine lv_iinc (v := (nI i) + 1) (lv' := [(5, .int ((nI i) + 1)), (2, .int (nI i)), (4, .int (oI_ (g3_ B i).2.1)), (3, .int ((g3_ B i).2.2)), (0, .ref (r 0)), (1, .int q)]) hx hb dX5_gap_71 hl (k := 1) rfl (by first | rfl | decide) (by decide) rfl (fun ls hl => ?_)
                refine lv_goto (tgt := 29) hx hb dX5_gap_74 (by decide) ?_
                exact ih_29 (i + 1) (nI i) ((g3_ B i).2.2) (oI_ (g3_ B i).2.1) ((nI i) + 1)  (by first | exact (g3_a2 c_42 hL).symm | exact (g3_b2 c_42).symm) (by first | exact (congrArg (fun x => x.2.2) (g3_a c_42)).symm | exact (congrArg (fun x => x.2) (g3_b c_42 hL)).symm | exact (congrArg (fun x => x.2) (g3_c c_42 hL (Int32.not_le.mp c_57))).symm | exact (congrArg (fun x => x.2) (g3_d c_42 hL (Int32.not_lt.mpr c_57))).symm) (by first | exact (congrArg (fun x => oI_ x.2.1) (g3_a c_42)).symm | exact (congrArg (fun x => oI_ x.1) (g3_b c_42 hL)).symm | exact (congrArg (fun x => oI_ x.1) (g3_c c_42 hL (Int32.not_le.mp c_57))).symm | exact (congrArg (fun x => oI_ x.1) (g3_d c_42 hL (Int32.not_lt.mpr c_57))).symm) (by first | rfl | exact nI_1 _) (by omega) (by omega) _ _ hP hD hS ls (lv_sub hl [0, 2, 3, 1, 4, 5] rfl)
              · have d_57 := Int32.not_le.mp c_57
                refine lv_iload hx hb dX5_gap_60 (lv_at hl 0 rfl) ?_
                refine lv_iload_n hx hb dX5_gap_62 rfl (lv_at hl 3 rfl) ?_
                refine lv_isub hx hb dX5_gap_63 ?_
                refine lv_istore_n (lv' := [(3, .int ((nI i) - (nI t))), (5, .int (nI i)), (4, .int (oI_ (g3_ B i).2.1)), (2, .int (nI t)), (0, .ref (r 0)), (1, .int q)]) hx hb dX5_gap_64 rfl hl (by decide) rfl (fun ls hl => ?_)
                refine lv_iload_n hx hb dX5_gap_65 rfl (lv_at hl 3 rfl) ?_
                refine lv_istore (lv' := [(4, .int (nI t)), (3, .int ((nI i) - (nI t))), (5, .int (nI i)), (2, .int (nI t)), (0, .ref (r 0)), (1, .int q)]) hx hb dX5_gap_66 hl (by decide) rfl (fun ls hl => ?_)
                refine lv_iload hx hb dX5_gap_68 (lv_at hl 2 rfl) ?_
                refine lv_istore_n (lv' := [(2, .int (nI i)), (4, .int (nI t)), (3, .int ((nI i) - (nI t))), (5, .int (nI i)), (0, .ref (r 0)), (1, .int q)]) hx hb dX5_gap_70 rfl hl (by decide) rfl (fun ls hl => ?_)
                refine lv_iinc (v := (nI i) + 1) (lv' := [(5, .int ((nI i) + 1)), (2, .int (nI i)), (4, .int (nI t)), (3, .int ((nI i) - (nI t))), (0, .ref (r 0)), (1, .int q)]) hx hb dX5_gap_71 hl (k := 3) rfl (by first | rfl | decide) (by decide) rfl (fun ls hl => ?_)
                refine lv_goto (tgt := 29) hx hb dX5_gap_74 (by decide) ?_
                exact ih_29 (i + 1) (nI i) ((nI i) - (nI t)) (nI t) ((nI i) + 1)  (by first | exact (g3_a2 c_42 hL).symm | exact (g3_b2 c_42).symm) (by first | exact (congrArg (fun x => x.2.2) (g3_a c_42)).symm | exact (congrArg (fun x => x.2) (g3_b c_42 hL)).symm | exact (congrArg (fun x => x.2) (g3_c c_42 hL (Int32.not_le.mp c_57))).symm | exact (congrArg (fun x => x.2) (g3_d c_42 hL (Int32.not_lt.mpr c_57))).symm) (by first | exact (congrArg (fun x => oI_ x.2.1) (g3_a c_42)).symm | exact (congrArg (fun x => oI_ x.1) (g3_b c_42 hL)).symm | exact (congrArg (fun x => oI_ x.1) (g3_c c_42 hL (Int32.not_le.mp c_57))).symm | exact (congrArg (fun x => oI_ x.1) (g3_d c_42 hL (Int32.not_lt.mpr c_57))).symm) (by first | rfl | exact nI_1 _) (by omega) (by omega) _ _ hP hD hS ls (lv_sub hl [0, 2, 3, 1, 4, 5] rfl)
            · replace c_42 : sa_ B (nI i) = none := (oI_lt0 (sa_b hn7)).mp (Int32.not_le.mp c_42)
              refine lv_goto (tgt := 71) hx hb dX5_gap_45 (by decide) ?_
              refine lv_iinc (v := (nI i) + 1) (lv' := [(5, .int ((nI i) + 1)), (4, .int (oI_ (g3_ B i).2.1)), (3, .int ((g3_ B i).2.2)), (2, .int (nI t)), (0, .ref (r 0)), (1, .int q)]) hx hb dX5_gap_71 hl (k := 0) rfl (by first | rfl | decide) (by decide) rfl (fun ls hl => ?_)
              refine lv_goto (tgt := 29) hx hb dX5_gap_74 (by decide) ?_
              exact ih_29 (i + 1) (nI t) ((g3_ B i).2.2) (oI_ (g3_ B i).2.1) ((nI i) + 1)  (by first | exact (g3_a2 c_42 hL).symm | exact (g3_b2 c_42).symm) (by first | exact (congrArg (fun x => x.2.2) (g3_a c_42)).symm | exact (congrArg (fun x => x.2) (g3_b c_42 hL)).symm | exact (congrArg (fun x => x.2) (g3_c c_42 hL (Int32.not_le.mp c_57))).symm | exact (congrArg (fun x => x.2) (g3_d c_42 hL (Int32.not_lt.mpr c_57))).symm) (by first | exact (congrArg (fun x => oI_ x.2.1) (g3_a c_42)).symm | exact (congrArg (fun x => oI_ x.1) (g3_b c_42 hL)).symm | exact (congrArg (fun x => oI_ x.1) (g3_c c_42 hL (Int32.not_le.mp c_57))).symm | exact (congrArg (fun x => oI_ x.1) (g3_d c_42 hL (Int32.not_lt.mpr c_57))).symm) (by first | rfl | exact nI_1 _) (by omega) (by omega) _ _ hP hD hS ls (lv_sub hl [0, 1, 2, 3, 4, 5] rfl)
    exact lp_29 (31 + 1) 0 (-9) (-9) (-9) 0  (rfl) (rfl) (rfl) (by first | rfl | exact nI_0.symm) (by omega) (by omega) _ _ hP hD hS ls (lv_sub hl [0, 1, 2, 3, 4, 5] rfl)
  · replace c_6 := b1_z c_6
    refine lv_aload_n hx hb dX5_gap_9 rfl (lv_at hl 0 rfl) ?_
    refine lv_bipush (v := (-2)) hx hb dX5_gap_10 (by decide) ?_
    refine kMiV hx hb hml hown hts hK hP hD hA hS gX5_gap_X5_no okX5_no (qX5_no l D cI cB r B M (-2) (Or.inr (Or.inl rfl))) [0, 1, 2, 3, 4, 5, 6, 7, 8, 9, 10, 11, 12, 13, 14, 15] rfl (by decide) (fun _ => mW_adr _ _ _ _ _ _) rfl rfl rfl (by decide) hl.1 rfl rfl (Nat.le_of_ble_eq_true rfl) dX5_gap_12 (by decide) (fun r_7 u_8 H locs hw_9 hP hD hS => ?_)
    replace hw_9 : r_7 = (-2) ∧ u_8 = (rfm_ M (-2)) := hw_9
    obtain ⟨hw_9a, hw_9b⟩ := hw_9
    subst r_7
    subst u_8
    replace hP : va_P D vwCl ([(r 0, .inr (5, [.ref (r 1), .ref (r 2), .ref (r 3), .ref (r 4), .ref (r 5), .ref (r 6), .int (nI (sn_ B)), .int (qt_ B), .int (il_ B), .int (pa_ B), .int (ho_ B), .int (dy_ B), .ref (r 13), .ref (r 14), .ref (r 15), .ref (r 16), .int (nI (mtn_ M)), .int (nI (mrd_ M)), .int (nI (msm_ M)), .ref (r 20), .int (mhi_ M), .int (mik_ M), .int (nI (mcu_ M)), .int (nI (mbk_ M)), .ref (r 25), .ref (r 26), .int (mlw_ M), .int (mhg_ M), .int (msl_ M), .ref (r 30), .int (nI (mrm_ M)), .ref (r 32), .int (mlo_ M)])), (r 1, .inl (cI, 7, .inl (rfx_ (mrf_ M) (-2)))), (r 2, .inl (cI, 7, .inl (kd_ B))), (r 3, .inl (cI, 7, .inl (fg_ B))), (r 4, .inl (cI, 7, .inl (pl_ B))), (r 5, .inl (cI, 7, .inl (pw_ B))), (r 6, .inl (cI, 7, .inl (jy_ B))), (r 13, .inl (cI, 96, .inl (mtp_ M))), (r 14, .inl (cI, 48, .inl (mlt_ M))), (r 15, .inl (cI, 48, .inl (mla_ M))), (r 16, .inl (cI, 144, .inl (mtd_ M))), (r 20, .inl (cI, 451, .inl (flatK (mkp_ M)))), (r 25, .inl (cI, 7, .inl (mof_ M))), (r 26, .inl (cI, 7, .inl (mfa_ M))), (r 30, .inl (cI, 12, .inl (mrw_ M))), (r 32, .inl (cI, 8, .inl (mhb_ M)))]) H := hP
    replace hD : va_D A ([(r 0, .inr (5, [.ref (r 1), .ref (r 2), .ref (r 3), .ref (r 4), .ref (r 5), .ref (r 6), .int (nI (sn_ B)), .int (qt_ B), .int (il_ B), .int (pa_ B), .int (ho_ B), .int (dy_ B), .ref (r 13), .ref (r 14), .ref (r 15), .ref (r 16), .int (nI (mtn_ M)), .int (nI (mrd_ M)), .int (nI (msm_ M)), .ref (r 20), .int (mhi_ M), .int (mik_ M), .int (nI (mcu_ M)), .int (nI (mbk_ M)), .ref (r 25), .ref (r 26), .int (mlw_ M), .int (mhg_ M), .int (msl_ M), .ref (r 30), .int (nI (mrm_ M)), .ref (r 32), .int (mlo_ M)])), (r 1, .inl (cI, 7, .inl (rfx_ (mrf_ M) (-2)))), (r 2, .inl (cI, 7, .inl (kd_ B))), (r 3, .inl (cI, 7, .inl (fg_ B))), (r 4, .inl (cI, 7, .inl (pl_ B))), (r 5, .inl (cI, 7, .inl (pw_ B))), (r 6, .inl (cI, 7, .inl (jy_ B))), (r 13, .inl (cI, 96, .inl (mtp_ M))), (r 14, .inl (cI, 48, .inl (mlt_ M))), (r 15, .inl (cI, 48, .inl (mla_ M))), (r 16, .inl (cI, 144, .inl (mtd_ M))), (r 20, .inl (cI, 451, .inl (flatK (mkp_ M)))), (r 25, .inl (cI, 7, .inl (mof_ M))), (r 26, .inl (cI, 7, .inl (mfa_ M))), (r 30, .inl (cI, 12, .inl (mrw_ M))), (r 32, .inl (cI, 8, .inl (mhb_ M)))]) := hD
    refine rMi hx hb hr hlk hS (rfm_ M (-2)) hP ?_ dX5_gap_15
    first | (have hW : uk_ q 1 = -2 := uk_o c_6; rw [hW]; exact ⟨(if_neg (by decide)).symm, oQ_n _ _⟩) | (have hW : uk_ q 1 = 0 := uk_i c_6; rw [hW]; refine ⟨?_, oQ_0 rfl ?_⟩; · (rw [if_pos rfl]; have e9 : i = 31 := by omega; subst e9; first | (rw [if_neg (by rw [c_78]; decide)]; exact (g3_wg B).2) | (rw [if_pos (q1n_ c_6 c_78)]; exact (g3_wg B).1)); · (first | exact (oN_mk (by assumption)).m | exact oM_.rf _ | exact (oN_pp _ _).m | exact (oN_fo _ _ _ _).m | assumption | (apply oN_.m; assumption) | exact oM_.tr (by assumption) (by assumption)))

theorem okX5_spent : jok yX5_spent wsX5_spent cX5_spent 5 (some .int) 1 := ⟨⟨_, rfl⟩, by decide +kernel, by decide +kernel⟩
set_option maxHeartbeats 2000000 in
set_option maxRecDepth 100000 in
theorem qX5_spent (l : Launch) (D : va_G) (cI cB : ClassId) (r : Nat → Nat) (B : BayT) (M : MT) (v : Int32) (hI : bI_ B) : jMi D cI cB l yX5_spent wsX5_spent 7 [.ref (r 0), .int v] (mW cI r B M) (S := MT) (fun r u => r = (if ob_ v 0 99 = 0 then su_ (pw_ B) (sn_ B) - su_ (pw_ (hs_ (tn_ v) B)) (sn_ B) else ob_ v 0 99) ∧ oQ_ M u (ob_ v 0 99)) (fun u => mW cI r B u) := by
  refine jMi.of (cc := cX5_spent) (maxL := 5) (ret := (some .int)) okX5_spent (Nat.le_of_ble_eq_true rfl) ?_
  intro p e s m below meth c ls A hx hb hr hts hown hlk hml hP hK hD hA hS hl
  replace hown : s.vm.findClass RX5 = some m.cls := hown
  replace hl : lv_has ls 5 [(0, .ref (r 0)), (1, .int v)] := hl
  have hn7 := hI.1
  refine lv_iload_n hx hb dX5_spent_0 rfl (lv_at hl 1 rfl) ?_
  refine kSiS hx hb hml hown hts hK hP gX5_spent_X5_notHours okX5_notHours (qX5_notHours l D cI cB v ) [] rfl (by decide) hl.1 rfl rfl (Nat.le_of_ble_eq_true rfl) dX5_spent_1 (by decide) (fun r_1 hr_2 => ?_)
  replace hr_2 : r_1 = ob_ v 0 99 := hr_2
  subst r_1
  refine lv_istore_n (lv' := [(2, .int (ob_ v 0 99)), (0, .ref (r 0)), (1, .int v)]) hx hb dX5_spent_4 rfl hl (by decide) rfl (fun ls hl => ?_)
  refine lv_iload_n hx hb dX5_spent_5 rfl (lv_at hl 0 rfl) ?_
  refine lv_if_eq (tgt := 15) hx hb dX5_spent_6 (by decide) (fun c_6 => ?_) (fun c_6 => ?_)
  · skip
    have w0 := c_6
    simp only [wS_, wSN_, wSNW_, wNW_, wTh_, wTr_, f2_0, nb_0, ob_0, uk_0, lo_0, hi_0] at w0
    obtain ⟨v_, hv_, rfl⟩ := pl_le (n := 99) (by decide) w0
    replace hl : lv_has ls 5 [(2, .int (ob_ (nI v_) 0 99)), (0, .ref (r 0)), (1, .int (nI v_))] := hl
    refine lv_aload_n hx hb dX5_spent_15 rfl (lv_at hl 1 rfl) ?_
    refine kSiV hx hb hml hown hts hK hP gX5_spent_X5_allPowder okX5_allPowder (qX5_allPowder l D cI cB r B M (by show sn_ B ≤ 7; omega)) [0, 1, 2, 3, 4, 5, 6, 7, 8, 9, 10, 11, 12, 13, 14, 15] rfl rfl rfl rfl (by decide) hl.1 rfl rfl (Nat.le_of_ble_eq_true rfl) dX5_spent_16 (by decide) (fun r_3 hr_4 => ?_)
    replace hr_4 : r_3 = su_ (pw_ B) (sn_ B) := hr_4
    subst r_3
    refine lv_istore_n (lv' := [(3, .int (su_ (pw_ B) (sn_ B))), (2, .int (ob_ (nI v_) 0 99)), (0, .ref (r 0)), (1, .int (nI v_))]) hx hb dX5_spent_19 rfl hl (by decide) rfl (fun ls hl => ?_)
    refine lv_aload_n hx hb dX5_spent_20 rfl (lv_at hl 2 rfl) ?_
    refine kMvV hx hb hml hown hts hK hP hD hA hS gX5_spent_X5_thinks okX5_thinks (qX5_thinksE l D cI cB r B M ) [0, 1, 2, 3, 4, 5, 6, 7, 8, 9, 10, 11, 12, 13, 14, 15] rfl (by decide) (fun _ => mW_adE rfl) rfl rfl rfl (by decide) hl.1 rfl rfl (Nat.le_of_ble_eq_true rfl) dX5_spent_21 (by decide) (fun u_6 H locs hw_7 hP hD hS => ?_)
    replace hP : va_P D vwCl ([(r 0, .inr (5, [.ref (r 1), .ref (r 2), .ref (r 3), .ref (r 4), .ref (r 5), .ref (r 6), .int (nI (sn_ B)), .int (qt_ B), .int (il_ B), .int (pa_ B), .int (ho_ B), .int (dy_ B), .ref (r 13), .ref (r 14), .ref (r 15), .ref (r 16), .int (nI (mtn_ M)), .int (nI (mrd_ M)), .int (nI (msm_ M)), .ref (r 20), .int (mhi_ M), .int (1), .int (nI (41 * 2 + 41)), .int (nI (mbk_ M)), .ref (r 25), .ref (r 26), .int (mlw_ M), .int (mhg_ M), .int (msl_ M), .ref (r 30), .int (nI (mrm_ M)), .ref (r 32), .int (mlo_ M)])), (r 1, .inl (cI, 7, .inl (mrf_ M))), (r 2, .inl (cI, 7, .inl (kd_ B))), (r 3, .inl (cI, 7, .inl (fg_ B))), (r 4, .inl (cI, 7, .inl (pl_ B))), (r 5, .inl (cI, 7, .inl (pw_ B))), (r 6, .inl (cI, 7, .inl (jy_ B))), (r 13, .inl (cI, 96, .inl (mtp_ M))), (r 14, .inl (cI, 48, .inl (mlt_ M))), (r 15, .inl (cI, 48, .inl (mla_ M))), (r 16, .inl (cI, 144, .inl (mtd_ M))), (r 20, .inl (cI, 451, .inl (flatK (va_up (mkp_ M) 2 B)))), (r 25, .inl (cI, 7, .inl (mof_ M))), (r 26, .inl (cI, 7, .inl (mfa_ M))), (r 30, .inl (cI, 12, .inl (mrw_ M))), (r 32, .inl (cI, 8, .inl (mhb_ M)))]) H := hP
    replace hD : va_D A ([(r 0, .inr (5, [.ref (r 1), .ref (r 2), .ref (r 3), .ref (r 4), .ref (r 5), .ref (r 6), .int (nI (sn_ B)), .int (qt_ B), .int (il_ B), .int (pa_ B), .int (ho_ B), .int (dy_ B), .ref (r 13), .ref (r 14), .ref (r 15), .ref (r 16), .int (nI (mtn_ M)), .int (nI (mrd_ M)), .int (nI (msm_ M)), .ref (r 20), .int (mhi_ M), .int (1), .int (nI (41 * 2 + 41)), .int (nI (mbk_ M)), .ref (r 25), .ref (r 26), .int (mlw_ M), .int (mhg_ M), .int (msl_ M), .ref (r 30), .int (nI (mrm_ M)), .ref (r 32), .int (mlo_ M)])), (r 1, .inl (cI, 7, .inl (mrf_ M))), (r 2, .inl (cI, 7, .inl (kd_ B))), (r 3, .inl (cI, 7, .inl (fg_ B))), (r 4, .inl (cI, 7, .inl (pl_ B))), (r 5, .inl (cI, 7, .inl (pw_ B))), (r 6, .inl (cI, 7, .inl (jy_ B))), (r 13, .inl (cI, 96, .inl (mtp_ M))), (r 14, .inl (cI, 48, .inl (mlt_ M))), (r 15, .inl (cI, 48, .inl (mla_ M))), (r 16, .inl (cI, 144, .inl (mtd_ M))), (r 20, .inl (cI, 451, .inl (flatK (va_up (mkp_ M) 2 B)))), (r 25, .inl (cI, 7, .inl (mof_ M))), (r 26, .inl (cI, 7, .inl (mfa_ M))), (r 30, .inl (cI, 12, .inl (mrw_ M))), (r 32, .inl (cI, 8, .inl (mhb_ M)))]) := hD
    refine lv_aload_n hx hb dX5_spent_24 rfl (lv_at hl 2 rfl) ?_
    refine lv_iload_n hx hb dX5_spent_25 rfl (lv_at hl 3 rfl) ?_
    refine kMvV hx hb hml hown hts hK hP hD hA hS gX5_spent_X5_goes okX5_goes (qX5_goes l D cI cB r B (mkM (mrf_ M) (mtp_ M) (mlt_ M) (mla_ M) (mtd_ M) (va_up (mkp_ M) 2 B) (mof_ M) (mfa_ M) (mrw_ M) (mhb_ M) (mtn_ M) (mrd_ M) (msm_ M) (41 * 2 + 41) (mbk_ M) (mrm_ M) (mhi_ M) 1 (mlw_ M) (mhg_ M) (msl_ M) (mlo_ M)) v_ hI (by omega)) [0, 1, 2, 3, 4, 5, 6, 7, 8, 9, 10, 11, 12, 13, 14, 15] rfl (by decide) (fun _ => mW_adr _ _ _ _ _ _) rfl rfl rfl (by decide) hl.1 rfl rfl (Nat.le_of_ble_eq_true rfl) dX5_spent_26 (by decide) (fun u_9 H locs hw_10 hP hD hS => ?_)
    replace hw_10 : u_9 = hs_ v_ B := hw_10
    subst u_9
    replace hP : va_P D vwCl ([(r 0, .inr (5, [.ref (r 1), .ref (r 2), .ref (r 3), .ref (r 4), .ref (r 5), .ref (r 6), .int (nI (sn_ (hs_ v_ B))), .int (qt_ (hs_ v_ B)), .int (il_ (hs_ v_ B)), .int (pa_ (hs_ v_ B)), .int (ho_ (hs_ v_ B)), .int (dy_ (hs_ v_ B)), .ref (r 13), .ref (r 14), .ref (r 15), .ref (r 16), .int (nI (mtn_ M)), .int (nI (mrd_ M)), .int (nI (msm_ M)), .ref (r 20), .int (mhi_ M), .int (1), .int (nI (41 * 2 + 41)), .int (nI (mbk_ M)), .ref (r 25), .ref (r 26), .int (mlw_ M), .int (mhg_ M), .int (msl_ M), .ref (r 30), .int (nI (mrm_ M)), .ref (r 32), .int (mlo_ M)])), (r 1, .inl (cI, 7, .inl (mrf_ M))), (r 2, .inl (cI, 7, .inl (kd_ (hs_ v_ B)))), (r 3, .inl (cI, 7, .inl (fg_ (hs_ v_ B)))), (r 4, .inl (cI, 7, .inl (pl_ (hs_ v_ B)))), (r 5, .inl (cI, 7, .inl (pw_ (hs_ v_ B)))), (r 6, .inl (cI, 7, .inl (jy_ (hs_ v_ B)))), (r 13, .inl (cI, 96, .inl (mtp_ M))), (r 14, .inl (cI, 48, .inl (mlt_ M))), (r 15, .inl (cI, 48, .inl (mla_ M))), (r 16, .inl (cI, 144, .inl (mtd_ M))), (r 20, .inl (cI, 451, .inl (flatK (va_up (mkp_ M) 2 B)))), (r 25, .inl (cI, 7, .inl (mof_ M))), (r 26, .inl (cI, 7, .inl (mfa_ M))), (r 30, .inl (cI, 12, .inl (mrw_ M))), (r 32, .inl (cI, 8, .inl (mhb_ M)))]) H := hP
    replace hD : va_D A ([(r 0, .inr (5, [.ref (r 1), .ref (r 2), .ref (r 3), .ref (r 4), .ref (r 5), .ref (r 6), .int (nI (sn_ (hs_ v_ B))), .int (qt_ (hs_ v_ B)), .int (il_ (hs_ v_ B)), .int (pa_ (hs_ v_ B)), .int (ho_ (hs_ v_ B)), .int (dy_ (hs_ v_ B)), .ref (r 13), .ref (r 14), .ref (r 15), .ref (r 16), .int (nI (mtn_ M)), .int (nI (mrd_ M)), .int (nI (msm_ M)), .ref (r 20), .int (mhi_ M), .int (1), .int (nI (41 * 2 + 41)), .int (nI (mbk_ M)), .ref (r 25), .ref (r 26), .int (mlw_ M), .int (mhg_ M), .int (msl_ M), .ref (r 30), .int (nI (mrm_ M)), .ref (r 32), .int (mlo_ M)])), (r 1, .inl (cI, 7, .inl (mrf_ M))), (r 2, .inl (cI, 7, .inl (kd_ (hs_ v_ B)))), (r 3, .inl (cI, 7, .inl (fg_ (hs_ v_ B)))), (r 4, .inl (cI, 7, .inl (pl_ (hs_ v_ B)))), (r 5, .inl (cI, 7, .inl (pw_ (hs_ v_ B)))), (r 6, .inl (cI, 7, .inl (jy_ (hs_ v_ B)))), (r 13, .inl (cI, 96, .inl (mtp_ M))), (r 14, .inl (cI, 48, .inl (mlt_ M))), (r 15, .inl (cI, 48, .inl (mla_ M))), (r 16, .inl (cI, 144, .inl (mtd_ M))), (r 20, .inl (cI, 451, .inl (flatK (va_up (mkp_ M) 2 B)))), (r 25, .inl (cI, 7, .inl (mof_ M))), (r 26, .inl (cI, 7, .inl (mfa_ M))), (r 30, .inl (cI, 12, .inl (mrw_ M))), (r 32, .inl (cI, 8, .inl (mhb_ M)))]) := hD
    refine lv_iload_n hx hb dX5_spent_29 rfl (lv_at hl 0 rfl) ?_
    refine lv_aload_n hx hb dX5_spent_30 rfl (lv_at hl 2 rfl) ?_
    refine kSiV hx hb hml hown hts hK hP gX5_spent_X5_allPowder okX5_allPowder (qX5_allPowder l D cI cB r (hs_ v_ B) (mkM (mrf_ M) (mtp_ M) (mlt_ M) (mla_ M) (mtd_ M) (va_up (mkp_ M) 2 B) (mof_ M) (mfa_ M) (mrw_ M) (mhb_ M) (mtn_ M) (mrd_ M) (msm_ M) (41 * 2 + 41) (mbk_ M) (mrm_ M) (mhi_ M) 1 (mlw_ M) (mhg_ M) (msl_ M) (mlo_ M)) (by rw [sn_hs]; exact hn7)) [0, 1, 2, 3, 4, 5, 6, 7, 8, 9, 10, 11, 12, 13, 14, 15] rfl rfl rfl rfl (by decide) hl.1 rfl rfl (Nat.le_of_ble_eq_true rfl) dX5_spent_31 (by decide) (fun r_11 hr_12 => ?_)
    replace hr_12 : r_11 = su_ (pw_ (hs_ v_ B)) (sn_ (hs_ v_ B)) := hr_12
    subst r_11
    refine lv_isub hx hb dX5_spent_34 ?_
    refine lv_istore (lv' := [(4, .int ((su_ (pw_ B) (sn_ B)) - (su_ (pw_ (hs_ v_ B)) (sn_ (hs_ v_ B))))), (3, .int (su_ (pw_ B) (sn_ B))), (2, .int (ob_ (nI v_) 0 99)), (0, .ref (r 0)), (1, .int (nI v_))]) hx hb dX5_spent_35 hl (by decide) rfl (fun ls hl => ?_)
    refine lv_aload_n hx hb dX5_spent_37 rfl (lv_at hl 3 rfl) ?_
    refine kMvV hx hb hml hown hts hK hP hD hA hS gX5_spent_X5_forgets okX5_forgets (qX5_forgetsE l D cI cB r (hs_ v_ B) (mkM (mrf_ M) (mtp_ M) (mlt_ M) (mla_ M) (mtd_ M) (va_up (mkp_ M) 2 B) (mof_ M) (mfa_ M) (mrw_ M) (mhb_ M) (mtn_ M) (mrd_ M) (msm_ M) (41 * 2 + 41) (mbk_ M) (mrm_ M) (mhi_ M) 1 (mlw_ M) (mhg_ M) (msl_ M) (mlo_ M)) ) [0, 1, 2, 3, 4, 5, 6, 7, 8, 9, 10, 11, 12, 13, 14, 15] rfl (by decide) (fun _ => mW_adE rfl) rfl rfl rfl (by decide) hl.1 rfl rfl (Nat.le_of_ble_eq_true rfl) dX5_spent_38 (by decide) (fun u_14 H locs hw_15 hP hD hS => ?_)
    replace hP : va_P D vwCl ([(r 0, .inr (5, [.ref (r 1), .ref (r 2), .ref (r 3), .ref (r 4), .ref (r 5), .ref (r 6), .int (nI (sn_ B)), .int (qt_ B), .int (il_ B), .int (pa_ B), .int (ho_ B), .int (dy_ B), .ref (r 13), .ref (r 14), .ref (r 15), .ref (r 16), .int (nI (mtn_ M)), .int (nI (mrd_ M)), .int (nI (msm_ M)), .ref (r 20), .int (mhi_ M), .int (0), .int (nI (41 * 2 + 41)), .int (nI (mbk_ M)), .ref (r 25), .ref (r 26), .int (mlw_ M), .int (mhg_ M), .int (msl_ M), .ref (r 30), .int (nI (mrm_ M)), .ref (r 32), .int (mlo_ M)])), (r 1, .inl (cI, 7, .inl (mrf_ M))), (r 2, .inl (cI, 7, .inl (kd_ B))), (r 3, .inl (cI, 7, .inl (fg_ B))), (r 4, .inl (cI, 7, .inl (pl_ B))), (r 5, .inl (cI, 7, .inl (pw_ B))), (r 6, .inl (cI, 7, .inl (jy_ B))), (r 13, .inl (cI, 96, .inl (mtp_ M))), (r 14, .inl (cI, 48, .inl (mlt_ M))), (r 15, .inl (cI, 48, .inl (mla_ M))), (r 16, .inl (cI, 144, .inl (mtd_ M))), (r 20, .inl (cI, 451, .inl (flatK (va_up (mkp_ M) 2 B)))), (r 25, .inl (cI, 7, .inl (mof_ M))), (r 26, .inl (cI, 7, .inl (mfa_ M))), (r 30, .inl (cI, 12, .inl (mrw_ M))), (r 32, .inl (cI, 8, .inl (mhb_ M)))]) H := hP
    replace hD : va_D A ([(r 0, .inr (5, [.ref (r 1), .ref (r 2), .ref (r 3), .ref (r 4), .ref (r 5), .ref (r 6), .int (nI (sn_ B)), .int (qt_ B), .int (il_ B), .int (pa_ B), .int (ho_ B), .int (dy_ B), .ref (r 13), .ref (r 14), .ref (r 15), .ref (r 16), .int (nI (mtn_ M)), .int (nI (mrd_ M)), .int (nI (msm_ M)), .ref (r 20), .int (mhi_ M), .int (0), .int (nI (41 * 2 + 41)), .int (nI (mbk_ M)), .ref (r 25), .ref (r 26), .int (mlw_ M), .int (mhg_ M), .int (msl_ M), .ref (r 30), .int (nI (mrm_ M)), .ref (r 32), .int (mlo_ M)])), (r 1, .inl (cI, 7, .inl (mrf_ M))), (r 2, .inl (cI, 7, .inl (kd_ B))), (r 3, .inl (cI, 7, .inl (fg_ B))), (r 4, .inl (cI, 7, .inl (pl_ B))), (r 5, .inl (cI, 7, .inl (pw_ B))), (r 6, .inl (cI, 7, .inl (jy_ B))), (r 13, .inl (cI, 96, .inl (mtp_ M))), (r 14, .inl (cI, 48, .inl (mlt_ M))), (r 15, .inl (cI, 48, .inl (mla_ M))), (r 16, .inl (cI, 144, .inl (mtd_ M))), (r 20, .inl (cI, 451, .inl (flatK (va_up (mkp_ M) 2 B)))), (r 25, .inl (cI, 7, .inl (mof_ M))), (r 26, .inl (cI, 7, .inl (mfa_ M))), (r 30, .inl (cI, 12, .inl (mrw_ M))), (r 32, .inl (cI, 8, .inl (mhb_ M)))]) := hD
    refine lv_iload hx hb dX5_spent_41 (lv_at hl 0 rfl) ?_
    refine rMi hx hb hr hlk hS (mkM (mrf_ M) (mtp_ M) (mlt_ M) (mla_ M) (mtd_ M) (va_up (mkp_ M) 2 B) (mof_ M) (mfa_ M) (mrw_ M) (mhb_ M) (mtn_ M) (mrd_ M) (msm_ M) (41 * 2 + 41) (mbk_ M) (mrm_ M) (mhi_ M) 0 (mlw_ M) (mhg_ M) (msl_ M) (mlo_ M)) hP ?_ dX5_spent_43
    first | exact ⟨(if_neg c_6).symm, oQ_n _ _⟩ | (refine ⟨?_, oQ_0 c_6 ?_⟩; · (rw [if_pos c_6]; simp only [tn_n (show v_ < 2147483648 by omega)]; rw [sn_hs]); · (first | exact (oN_mk (by assumption)).m | exact oM_.rf _ | exact (oN_pp _ _).m | exact (oN_fo _ _ _ _).m | assumption | (apply oN_.m; assumption) | exact oM_.tr (by assumption) (by assumption)))
  · skip
    refine lv_aload_n hx hb dX5_spent_9 rfl (lv_at hl 1 rfl) ?_
    refine lv_iload_n hx hb dX5_spent_10 rfl (lv_at hl 0 rfl) ?_
    refine kMiV hx hb hml hown hts hK hP hD hA hS gX5_spent_X5_no okX5_no (qX5_no l D cI cB r B M (ob_ v 0 99) (rc0_n (by first | exact rc0_wS _ _ | exact rc0_wSN _ _ _ | exact rc0_wSNW _ _ _ _ | exact rc0_wNW _ _ | exact rc0_wTh _ _ _ _ _ | exact rc0_wTr _ _ _ _ | exact rc0_nb _ _ | exact rc0_uk _ _ | exact rc0_ob _ _ _ | exact rc0_f2 (rc0_nb _ _) (rc0_nb _ _) | exact rc0_f2 (rc0_nb _ _) (rc0_uk _ _) | exact rc0_f2 (rc0_ob _ _ _) (rc0_uk _ _) | exact rc0_f2 (rc0_uk _ _) (rc0_f2 (rc0_uk _ _) (rc0_ob _ _ _))) c_6)) [0, 1, 2, 3, 4, 5, 6, 7, 8, 9, 10, 11, 12, 13, 14, 15] rfl (by decide) (fun _ => mW_adr _ _ _ _ _ _) rfl rfl rfl (by decide) hl.1 rfl rfl (Nat.le_of_ble_eq_true rfl) dX5_spent_11 (by decide) (fun r_16 u_17 H locs hw_18 hP hD hS => ?_)
    replace hw_18 : r_16 = ob_ v 0 99 ∧ u_17 = (rfm_ M (ob_ v 0 99)) := hw_18
    obtain ⟨hw_18a, hw_18b⟩ := hw_18
    subst r_16
    subst u_17
    replace hP : va_P D vwCl ([(r 0, .inr (5, [.ref (r 1), .ref (r 2), .ref (r 3), .ref (r 4), .ref (r 5), .ref (r 6), .int (nI (sn_ B)), .int (qt_ B), .int (il_ B), .int (pa_ B), .int (ho_ B), .int (dy_ B), .ref (r 13), .ref (r 14), .ref (r 15), .ref (r 16), .int (nI (mtn_ M)), .int (nI (mrd_ M)), .int (nI (msm_ M)), .ref (r 20), .int (mhi_ M), .int (mik_ M), .int (nI (mcu_ M)), .int (nI (mbk_ M)), .ref (r 25), .ref (r 26), .int (mlw_ M), .int (mhg_ M), .int (msl_ M), .ref (r 30), .int (nI (mrm_ M)), .ref (r 32), .int (mlo_ M)])), (r 1, .inl (cI, 7, .inl (rfx_ (mrf_ M) (ob_ v 0 99)))), (r 2, .inl (cI, 7, .inl (kd_ B))), (r 3, .inl (cI, 7, .inl (fg_ B))), (r 4, .inl (cI, 7, .inl (pl_ B))), (r 5, .inl (cI, 7, .inl (pw_ B))), (r 6, .inl (cI, 7, .inl (jy_ B))), (r 13, .inl (cI, 96, .inl (mtp_ M))), (r 14, .inl (cI, 48, .inl (mlt_ M))), (r 15, .inl (cI, 48, .inl (mla_ M))), (r 16, .inl (cI, 144, .inl (mtd_ M))), (r 20, .inl (cI, 451, .inl (flatK (mkp_ M)))), (r 25, .inl (cI, 7, .inl (mof_ M))), (r 26, .inl (cI, 7, .inl (mfa_ M))), (r 30, .inl (cI, 12, .inl (mrw_ M))), (r 32, .inl (cI, 8, .inl (mhb_ M)))]) H := hP
    replace hD : va_D A ([(r 0, .inr (5, [.ref (r 1), .ref (r 2), .ref (r 3), .ref (r 4), .ref (r 5), .ref (r 6), .int (nI (sn_ B)), .int (qt_ B), .int (il_ B), .int (pa_ B), .int (ho_ B), .int (dy_ B), .ref (r 13), .ref (r 14), .ref (r 15), .ref (r 16), .int (nI (mtn_ M)), .int (nI (mrd_ M)), .int (nI (msm_ M)), .ref (r 20), .int (mhi_ M), .int (mik_ M), .int (nI (mcu_ M)), .int (nI (mbk_ M)), .ref (r 25), .ref (r 26), .int (mlw_ M), .int (mhg_ M), .int (msl_ M), .ref (r 30), .int (nI (mrm_ M)), .ref (r 32), .int (mlo_ M)])), (r 1, .inl (cI, 7, .inl (rfx_ (mrf_ M) (ob_ v 0 99)))), (r 2, .inl (cI, 7, .inl (kd_ B))), (r 3, .inl (cI, 7, .inl (fg_ B))), (r 4, .inl (cI, 7, .inl (pl_ B))), (r 5, .inl (cI, 7, .inl (pw_ B))), (r 6, .inl (cI, 7, .inl (jy_ B))), (r 13, .inl (cI, 96, .inl (mtp_ M))), (r 14, .inl (cI, 48, .inl (mlt_ M))), (r 15, .inl (cI, 48, .inl (mla_ M))), (r 16, .inl (cI, 144, .inl (mtd_ M))), (r 20, .inl (cI, 451, .inl (flatK (mkp_ M)))), (r 25, .inl (cI, 7, .inl (mof_ M))), (r 26, .inl (cI, 7, .inl (mfa_ M))), (r 30, .inl (cI, 12, .inl (mrw_ M))), (r 32, .inl (cI, 8, .inl (mhb_ M)))]) := hD
    refine rMi hx hb hr hlk hS (rfm_ M (ob_ v 0 99)) hP ?_ dX5_spent_14
    first | exact ⟨(if_neg c_6).symm, oQ_n _ _⟩ | (refine ⟨?_, oQ_0 c_6 ?_⟩; · (rw [if_pos c_6]; simp only [tn_n (show v_ < 2147483648 by omega)]; rw [sn_hs]); · (first | exact (oN_mk (by assumption)).m | exact oM_.rf _ | exact (oN_pp _ _).m | exact (oN_fo _ _ _ _).m | assumption | (apply oN_.m; assumption) | exact oM_.tr (by assumption) (by assumption)))

theorem okX5_swap : jok yX5_swap wsX5_swap cX5_swap 9 (some .int) 2 := ⟨⟨_, rfl⟩, by decide +kernel, by decide +kernel⟩
set_option maxHeartbeats 2000000 in
set_option maxRecDepth 100000 in
theorem qX5_swap (l : Launch) (D : va_G) (cI cB : ClassId) (r : Nat → Nat) (B : BayT) (M : MT) (a : Int32) (v : Int32) (hI : bI_ B) : jMi D cI cB l yX5_swap wsX5_swap 9 [.ref (r 0), .int a, .int v] (mW cI r B M) (S := MT) (fun r u => r = (if wSN_ (sn_ B) a v = 0 then (s2_ B (tn_ a) (tn_ v) (sn_ B)).1 else wSN_ (sn_ B) a v) ∧ oQ_ M u (wSN_ (sn_ B) a v)) (fun u => mW cI r B u) := by
  refine jMi.of (cc := cX5_swap) (maxL := 9) (ret := (some .int)) okX5_swap (Nat.le_of_ble_eq_true rfl) ?_
  intro p e s m below meth c ls A hx hb hr hts hown hlk hml hP hK hD hA hS hl
  replace hown : s.vm.findClass RX5 = some m.cls := hown
  replace hl : lv_has ls 9 [(0, .ref (r 0)), (1, .int a), (2, .int v)] := hl
  have hn7 := hI.1
  have hinX5 : ∀ w ∈ wsX50, w ∈ wsX5_swap := by decide +kernel
  have jn_17 : ∀  (x3_17 : Int32) , (x3_17 = wSN_ (sn_ B) a v) → ∀ (H : Heap) (locs : List Loc), va_P D vwCl (mW cI r B M) H → va_D A (mW cI r B M) → va_S A s.heap H locs → ∀ ls : Array Slot, lv_has ls 9 [(3, .int x3_17), (0, .ref (r 0)), (1, .int a), (2, .int v)] → W p l e (jR 9) s m ([.ref (r 0), .int a, .int v] : List Value).toArray below meth c H locs 0 0 (MQ below (va_Qi (S := MT) (fun r u => r = (if wSN_ (sn_ B) a v = 0 then (s2_ B (tn_ a) (tn_ v) (sn_ B)).1 else wSN_ (sn_ B) a v) ∧ oQ_ M u (wSN_ (sn_ B) a v)) (fun u t => va_P D vwCl ((fun u => mW cI r B u) u) t.heap) A) ([.ref (r 0), .int a, .int v] : List Value).toArray s 0 0 A) (F0 m 17 ls []) := by
      intro x3_17 hx3_17 H locs hP hD hS ls hl
      subst x3_17
      replace hl : lv_has ls 9 [(3, .int (wSN_ (sn_ B) a v)), (0, .ref (r 0)), (1, .int a), (2, .int v)] := hl
      replace hP : va_P D vwCl (mW cI r B M) H := hP
      replace hD : va_D A (mW cI r B M) := hD
      refine lv_iload_n hx hb dX5_swap_17 rfl (lv_at hl 0 rfl) ?_
      refine lv_if_eq (tgt := 27) hx hb dX5_swap_18 (by decide) (fun c_18 => ?_) (fun c_18 => ?_)
      · skip
        have w0 := c_18
        simp only [wS_, wSN_, wSNW_, wNW_, wTh_, wTr_, f2_0, nb_0, ob_0, uk_0, lo_0, hi_0] at w0
        obtain ⟨a_, ha_, rfl⟩ := pl_lt (n := sn_ B) (by omega) w0.1
        obtain ⟨v_, hv_, rfl⟩ := pl_le (n := 99) (by decide) w0.2
        replace hl : lv_has ls 9 [(3, .int (wSN_ (sn_ B) (nI a_) (nI v_))), (0, .ref (r 0)), (1, .int (nI a_)), (2, .int (nI v_))] := hl
        refine lv_bipush (v := (-9)) hx hb dX5_swap_27 (by decide) ?_
        refine lv_istore (lv' := [(4, .int (-9)), (3, .int (wSN_ (sn_ B) (nI a_) (nI v_))), (0, .ref (r 0)), (1, .int (nI a_)), (2, .int (nI v_))]) hx hb dX5_swap_29 hl (by decide) rfl (fun ls hl => ?_)
        refine lv_aload_n hx hb dX5_swap_31 rfl (lv_at hl 2 rfl) ?_
        refine lv_iload_n hx hb dX5_swap_32 rfl (lv_at hl 3 rfl) ?_
        refine lv_iload_n hx hb dX5_swap_33 rfl (lv_at hl 4 rfl) ?_
        refine kMiV hx hb hml hown hts hK hP hD hA hS gX5_swap_X5_oftenOf okX5_oftenOf (qX5_oftenOf l D cI cB r B M a_ v_ hI ha_ (by omega)) [0, 1, 2, 3, 4, 5, 6, 7, 8, 9, 10, 11, 12, 13, 14, 15] rfl (by decide) (fun _ => mW_adr _ _ _ _ _ _) rfl rfl rfl (by decide) hl.1 rfl rfl (Nat.le_of_ble_eq_true rfl) dX5_swap_34 (by decide) (fun r_1 u_2 H locs hw_3 hP hD hS => ?_)
        replace hw_3 : r_1 = tc_ B a_ v_ ∧ oN_ M u_2 := hw_3
        obtain ⟨hw_3a, hw_3b⟩ := hw_3
        subst r_1
        replace hP : va_P D vwCl (mW cI r B u_2) H := hP
        replace hD : va_D A (mW cI r B u_2) := hD
        refine lv_istore (lv' := [(5, .int (tc_ B a_ v_)), (4, .int (-9)), (3, .int (wSN_ (sn_ B) (nI a_) (nI v_))), (0, .ref (r 0)), (1, .int (nI a_)), (2, .int (nI v_))]) hx hb dX5_swap_37 hl (by decide) rfl (fun ls hl => ?_)
        refine lv_iconst (v := 0) hx hb dX5_swap_39 (by decide) ?_
        refine lv_istore (lv' := [(6, .int 0), (5, .int (tc_ B a_ v_)), (4, .int (-9)), (3, .int (wSN_ (sn_ B) (nI a_) (nI v_))), (0, .ref (r 0)), (1, .int (nI a_)), (2, .int (nI v_))]) hx hb dX5_swap_40 hl (by decide) rfl (fun ls hl => ?_)
        have lp_42 : ∀ (fu_42 : Nat) (i : Nat) (x4_42 : Int32) (x5_42 : Int32) (x6_42 : Int32) (M2 : MT), (x4_42 = (s2_ B a_ v_ i).1) → (x5_42 = (s2_ B a_ v_ i).2) → (x6_42 = nI i) → (i ≤ sn_ B) → (oN_ M M2) → sn_ B - i < fu_42 → ∀ (H : Heap) (locs : List Loc), va_P D vwCl (mW cI r B M2) H → va_D A (mW cI r B M2) → va_S A s.heap H locs → ∀ ls : Array Slot, lv_has ls 9 [(6, .int x6_42), (5, .int x5_42), (4, .int x4_42), (3, .int (wSN_ (sn_ B) (nI a_) (nI v_))), (0, .ref (r 0)), (1, .int (nI a_)), (2, .int (nI v_))] → W p l e (jR 9) s m ([.ref (r 0), .int (nI a_), .int (nI v_)] : List Value).toArray below meth c H locs 0 0 (MQ below (va_Qi (S := MT) (fun r u => r = (if wSN_ (sn_ B) (nI a_) (nI v_) = 0 then (s2_ B (tn_ (nI a_)) (tn_ (nI v_)) (sn_ B)).1 else wSN_ (sn_ B) (nI a_) (nI v_)) ∧ oQ_ M u (wSN_ (sn_ B) (nI a_) (nI v_))) (fun u t => va_P D vwCl ((fun u => mW cI r B u) u) t.heap) A) ([.ref (r 0), .int (nI a_), .int (nI v_)] : List Value).toArray s 0 0 A) (F0 m 42 ls []) := by
          intro fu_42
          induction fu_42 with
          | zero => intro i x4_42 x5_42 x6_42 M2 hx4_42 hx5_42 hx6_42 hi hM hfu; exact absurd hfu (Nat.not_lt_zero _)
          | succ fu_42 ih_42 =>
            intro i x4_42 x5_42 x6_42 M2 hx4_42 hx5_42 hx6_42 hi hM hfu_42 H locs hP hD hS ls hl
            subst x4_42
            subst x5_42
            subst x6_42
            replace hl : lv_has ls 9 [(6, .int (nI i)), (5, .int ((s2_ B a_ v_ i).2)), (4, .int ((s2_ B a_ v_ i).1)), (3, .int (wSN_ (sn_ B) (nI a_) (nI v_))), (0, .ref (r 0)), (1, .int (nI a_)), (2, .int (nI v_))] := hl
            replace hP : va_P D vwCl (mW cI r B M2) H := hP
            replace hD : va_D A (mW cI r B M2) := hD
            refine lv_iload hx hb dX5_swap_42 (lv_at hl 0 rfl) ?_
            refine lv_aload_n hx hb dX5_swap_44 rfl (lv_at hl 4 rfl) ?_
            refine va_get (ci := 5) (C := RX5) (T := TX5) (N := 33) hx hb hts hinX5 hown hK.1 hP 0 rfl rfl 6 (by decide) (hts _ (List.mem_of_getElem? (i := 1) rfl)) (fun _ h9 => h9) rfl dX5_swap_45 ?_
            refine lv_icmp_ge (tgt := 114) hx hb dX5_swap_48 (by decide) (fun c_48 => ?_) (fun c_48 => ?_)
            · replace c_48 : nI (sn_ B) ≤ nI i := c_48
              rw [jle (by omega) (by omega)] at c_48
              refine lv_iload hx hb dX5_swap_114 (lv_at hl 2 rfl) ?_
              refine rMi hx hb hr hlk hS M2 hP ?_ dX5_swap_116
              first | exact ⟨(if_neg c_18).symm, oQ_n _ _⟩ | (refine ⟨?_, oQ_0 c_18 ?_⟩; · (rw [if_pos c_18]; simp only [tn_n (show a_ < 2147483648 by omega), tn_n (show v_ < 2147483648 by omega)]; rw [show i = sn_ B by omega]); · (first | exact (oN_mk (by assumption)).m | exact oM_.rf _ | exact (oN_pp _ _).m | exact (oN_fo _ _ _ _).m | assumption | (apply oN_.m; assumption) | exact oM_.tr (by assumption) (by assumption)))
            · replace c_48 : ¬ nI (sn_ B) ≤ nI i := c_48
              rw [jle (by omega) (by omega)] at c_48
              refine lv_iload hx hb dX5_swap_51 (lv_at hl 0 rfl) ?_
              refine lv_iconst (v := 1) hx hb dX5_swap_53 (by decide) ?_
              refine lv_iadd hx hb dX5_swap_54 ?_
              refine lv_istore (lv' := [(7, .int ((nI i) + 1)), (6, .int (nI i)), (5, .int ((s2_ B a_ v_ i).2)), (4, .int ((s2_ B a_ v_ i).1)), (3, .int (wSN_ (sn_ B) (nI a_) (nI v_))), (0, .ref (r 0)), (1, .int (nI a_)), (2, .int (nI v_))]) hx hb dX5_swap_55 hl (by decide) rfl (fun ls hl => ?_)
              have lp_57 : ∀ (fu_57 : Nat) (j : Nat) (x4_57 : Int32) (x5_57 : Int32) (x7_57 : Int32) (M3 : MT), (x4_57 = (s1_ B a_ v_ i j (s2_ B a_ v_ i)).1) → (x5_57 = (s1_ B a_ v_ i j (s2_ B a_ v_ i)).2) → (x7_57 = nI (i + 1 + j)) → (i + 1 + j ≤ sn_ B) → (oN_ M M3) → sn_ B - (i + 1 + j) < fu_57 → ∀ (H : Heap) (locs : List Loc), va_P D vwCl (mW cI r B M3) H → va_D A (mW cI r B M3) → va_S A s.heap H locs → ∀ ls : Array Slot, lv_has ls 9 [(7, .int x7_57), (6, .int (nI i)), (5, .int x5_57), (4, .int x4_57), (3, .int (wSN_ (sn_ B) (nI a_) (nI v_))), (0, .ref (r 0)), (1, .int (nI a_)), (2, .int (nI v_))] → W p l e (jR 9) s m ([.ref (r 0), .int (nI a_), .int (nI v_)] : List Value).toArray below meth c H locs 0 0 (MQ below (va_Qi (S := MT) (fun r u => r = (if wSN_ (sn_ B) (nI a_) (nI v_) = 0 then (s2_ B (tn_ (nI a_)) (tn_ (nI v_)) (sn_ B)).1 else wSN_ (sn_ B) (nI a_) (nI v_)) ∧ oQ_ M u (wSN_ (sn_ B) (nI a_) (nI v_))) (fun u t => va_P D vwCl ((fun u => mW cI r B u) u) t.heap) A) ([.ref (r 0), .int (nI a_), .int (nI v_)] : List Value).toArray s 0 0 A) (F0 m 57 ls []) := by
                intro fu_57
                induction fu_57 with
                | zero => intro j x4_57 x5_57 x7_57 M3 hx4_57 hx5_57 hx7_57 hj hM3 hfu; exact absurd hfu (Nat.not_lt_zero _)
                | succ fu_57 ih_57 =>
                  intro j x4_57 x5_57 x7_57 M3 hx4_57 hx5_57 hx7_57 hj hM3 hfu_57 H locs hP hD hS ls hl
                  subst x4_57
                  subst x5_57
                  subst x7_57
                  replace hl : lv_has ls 9 [(7, .int (nI (i + 1 + j))), (6, .int (nI i)), (5, .int ((s1_ B a_ v_ i j (s2_ B a_ v_ i)).2)), (4, .int ((s1_ B a_ v_ i j (s2_ B a_ v_ i)).1)), (3, .int (wSN_ (sn_ B) (nI a_) (nI v_))), (0, .ref (r 0)), (1, .int (nI a_)), (2, .int (nI v_))] := hl
                  replace hP : va_P D vwCl (mW cI r B M3) H := hP
                  replace hD : va_D A (mW cI r B M3) := hD
                  refine lv_iload hx hb dX5_swap_57 (lv_at hl 0 rfl) ?_
                  refine lv_aload_n hx hb dX5_swap_59 rfl (lv_at hl 5 rfl) ?_
                  refine va_get (ci := 5) (C := RX5) (T := TX5) (N := 33) hx hb hts hinX5 hown hK.1 hP 0 rfl rfl 6 (by decide) (hts _ (List.mem_of_getElem? (i := 1) rfl)) (fun _ h9 => h9) rfl dX5_swap_60 ?_
                  refine lv_icmp_ge (tgt := 108) hx hb dX5_swap_63 (by decide) (fun c_63 => ?_) (fun c_63 => ?_)
                  · replace c_63 : nI (sn_ B) ≤ nI (i + 1 + j) := c_63
                    rw [jle (by omega) (by omega)] at c_63
                    refine lv_iinc (v := (nI i) + 1) (lv' := [(6, .int ((nI i) + 1)), (7, .int (nI (i + 1 + j))), (5, .int ((s1_ B a_ v_ i j (s2_ B a_ v_ i)).2)), (4, .int ((s1_ B a_ v_ i j (s2_ B a_ v_ i)).1)), (3, .int (wSN_ (sn_ B) (nI a_) (nI v_))), (0, .ref (r 0)), (1, .int (nI a_)), (2, .int (nI v_))]) hx hb dX5_swap_108 hl (k := 1) rfl (by first | rfl | decide) (by decide) rfl (fun ls hl => ?_)
                    refine lv_goto (tgt := 42) hx hb dX5_swap_111 (by decide) ?_
                    exact ih_42 (i + 1) ((s1_ B a_ v_ i j (s2_ B a_ v_ i)).1) ((s1_ B a_ v_ i j (s2_ B a_ v_ i)).2) ((nI i) + 1) M3 (by rw [show j = sn_ B - (i + 1) by omega]; rfl) (by rw [show j = sn_ B - (i + 1) by omega]; rfl) (by first | rfl | exact nI_1 _) (by omega) (hM3) (by omega) _ _ hP hD hS ls (lv_sub hl [0, 2, 3, 4, 5, 6, 7] rfl)
                  · replace c_63 : ¬ nI (sn_ B) ≤ nI (i + 1 + j) := c_63
                    rw [jle (by omega) (by omega)] at c_63
                    refine lv_aload_n hx hb dX5_swap_66 rfl (lv_at hl 5 rfl) ?_
                    refine lv_iload hx hb dX5_swap_67 (lv_at hl 1 rfl) ?_
                    refine lv_iload hx hb dX5_swap_69 (lv_at hl 0 rfl) ?_
                    refine lv_iload_n hx hb dX5_swap_71 rfl (lv_at hl 6 rfl) ?_
                    refine lv_iload_n hx hb dX5_swap_72 rfl (lv_at hl 7 rfl) ?_
                    refine kMiV hx hb hml hown hts hK hP hD hA hS gX5_swap_X5_oftenSwapped okX5_oftenSwapped (qX5_oftenSwapped l D cI cB r B M3 i (i + 1 + j) a_ v_ hI (by omega) (by omega) (by omega) ha_ (by omega)) [0, 1, 2, 3, 4, 5, 6, 7, 8, 9, 10, 11, 12, 13, 14, 15] rfl (by decide) (fun _ => mW_adr _ _ _ _ _ _) rfl rfl rfl (by decide) hl.1 rfl rfl (Nat.le_of_ble_eq_true rfl) dX5_swap_73 (by decide) (fun r_4 u_5 H locs hw_6 hP hD hS => ?_)
                    replace hw_6 : r_4 = tc_ (sw_ B i (i + 1 + j)) a_ v_ ∧ oN_ M3 u_5 := hw_6
                    obtain ⟨hw_6a, hw_6b⟩ := hw_6
                    subst r_4
                    replace hP : va_P D vwCl (mW cI r B u_5) H := hP
                    replace hD : va_D A (mW cI r B u_5) := hD
                    refine lv_istore (lv' := [(8, .int (tc_ (sw_ B i (i + 1 + j)) a_ v_)), (7, .int (nI (i + 1 + j))), (6, .int (nI i)), (5, .int ((s1_ B a_ v_ i j (s2_ B a_ v_ i)).2)), (4, .int ((s1_ B a_ v_ i j (s2_ B a_ v_ i)).1)), (3, .int (wSN_ (sn_ B) (nI a_) (nI v_))), (0, .ref (r 0)), (1, .int (nI a_)), (2, .int (nI v_))]) hx hb dX5_swap_76 hl (by decide) rfl (fun ls hl => ?_)
                    refine lv_iload hx hb dX5_swap_78 (lv_at hl 0 rfl) ?_
                    refine lv_iload hx hb dX5_swap_80 (lv_at hl 3 rfl) ?_
                    refine lv_icmp_gt (tgt := 88) hx hb dX5_swap_82 (by decide) (fun c_82 => ?_) (fun c_82 => ?_)
                    · have d_82 := Int32.not_le.mpr c_82
                      refine lv_bipush (v := 10) hx hb dX5_swap_88 (by decide) ?_
                      refine lv_iload hx hb dX5_swap_90 (lv_at hl 2 rfl) ?_
                      refine lv_imul hx hb dX5_swap_92 ?_
                      refine lv_iload hx hb dX5_swap_93 (lv_at hl 1 rfl) ?_
                      refine lv_iadd hx hb dX5_swap_95 ?_
                      refine lv_istore (lv' := [(4, .int ((10 * (nI i)) + (nI (i + 1 + j)))), (8, .int (tc_ (sw_ B i (i + 1 + j)) a_ v_)), (7, .int (nI (i + 1 + j))), (6, .int (nI i)), (5, .int ((s1_ B a_ v_ i j (s2_ B a_ v_ i)).2)), (3, .int (wSN_ (sn_ B) (nI a_) (nI v_))), (0, .ref (r 0)), (1, .int (nI a_)), (2, .int (nI v_))]) hx hb dX5_swap_96 hl (by decide) rfl (fun ls hl => ?_)
                      refine lv_iload hx hb dX5_swap_98 (lv_at hl 1 rfl) ?_
                      refine lv_istore (lv' := [(5, .int (tc_ (sw_ B i (i + 1 + j)) a_ v_)), (4, .int ((10 * (nI i)) + (nI (i + 1 + j)))), (8, .int (tc_ (sw_ B i (i + 1 + j)) a_ v_)), (7, .int (nI (i + 1 + j))), (6, .int (nI i)), (3, .int (wSN_ (sn_ B) (nI a_) (nI v_))), (0, .ref (r 0)), (1, .int (nI a_)), (2, .int (nI v_))]) hx hb dX5_swap_100 hl (by decide) rfl (fun ls hl => ?_)
                      refine lv_iinc (v := (nI (i + 1 + j)) + 1) (lv' := [(7, .int ((nI (i + 1 + j)) + 1)), (5, .int (tc_ (sw_ B i (i + 1 + j)) a_ v_)), (4, .int ((10 * (nI i)) + (nI (i + 1 + j)))), (8, .int (tc_ (sw_ B i (i + 1 + j)) a_ v_)), (6, .int (nI i)), (3, .int (wSN_ (sn_ B) (nI a_) (nI v_))), (0, .ref (r 0)), (1, .int (nI a_)), (2, .int (nI v_))]) hx hb dX5_swap_102 hl (k := 3) rfl (by first | rfl | decide) (by decide) rfl (fun ls hl => ?_)
                      refine lv_goto (tgt := 57) hx hb dX5_swap_105 (by decide) ?_
                      exact ih_57 (j + 1) ((10 * (nI i)) + (nI (i + 1 + j))) (tc_ (sw_ B i (i + 1 + j)) a_ v_) ((nI (i + 1 + j)) + 1) u_5 (by first | exact s1_a1 d_82 | exact s1_b1 d_82) (by first | exact s1_a2 d_82 | exact s1_b2 d_82) (nI_1 _) (by omega) (oN_.tr hM3 (by assumption)) (by omega) _ _ hP hD hS ls (lv_sub hl [0, 4, 1, 2, 5, 6, 7, 8] rfl)
                    · have d_82 := Int32.not_lt.mp c_82
                      refine lv_goto (tgt := 102) hx hb dX5_swap_85 (by decide) ?_
                      refine lv_iinc (v := (nI (i + 1 + j)) + 1) (lv' := [(7, .int ((nI (i + 1 + j)) + 1)), (8, .int (tc_ (sw_ B i (i + 1 + j)) a_ v_)), (6, .int (nI i)), (5, .int ((s1_ B a_ v_ i j (s2_ B a_ v_ i)).2)), (4, .int ((s1_ B a_ v_ i j (s2_ B a_ v_ i)).1)), (3, .int (wSN_ (sn_ B) (nI a_) (nI v_))), (0, .ref (r 0)), (1, .int (nI a_)), (2, .int (nI v_))]) hx hb dX5_swap_102 hl (k := 1) rfl (by first | rfl | decide) (by decide) rfl (fun ls hl => ?_)
                      refine lv_goto (tgt := 57) hx hb dX5_swap_105 (by decide) ?_
                      exact ih_57 (j + 1) ((s1_ B a_ v_ i j (s2_ B a_ v_ i)).1) ((s1_ B a_ v_ i j (s2_ B a_ v_ i)).2) ((nI (i + 1 + j)) + 1) u_5 (by first | exact s1_a1 d_82 | exact s1_b1 d_82) (by first | exact s1_a2 d_82 | exact s1_b2 d_82) (nI_1 _) (by omega) (oN_.tr hM3 (by assumption)) (by omega) _ _ hP hD hS ls (lv_sub hl [0, 2, 3, 4, 5, 6, 7, 8] rfl)
              exact lp_57 ((sn_ B - (i + 1)) + 1) 0 ((s2_ B a_ v_ i).1) ((s2_ B a_ v_ i).2) ((nI i) + 1) M2 (rfl) (rfl) (by rw [Nat.add_zero]; exact nI_1 _) (by omega) (hM) (by omega) _ _ hP hD hS ls (lv_sub hl [0, 1, 2, 3, 4, 5, 6, 7] rfl)
        exact lp_42 ((sn_ B) + 1) 0 (-9) (tc_ B a_ v_) 0 u_2 (rfl) (rfl) (by first | rfl | exact nI_0.symm) (by omega) (by first | assumption | exact oN_.rf _) (by omega) _ _ hP hD hS ls (lv_sub hl [0, 1, 2, 3, 4, 5, 6] rfl)
      · skip
        refine lv_aload_n hx hb dX5_swap_21 rfl (lv_at hl 1 rfl) ?_
        refine lv_iload_n hx hb dX5_swap_22 rfl (lv_at hl 0 rfl) ?_
        refine kMiV hx hb hml hown hts hK hP hD hA hS gX5_swap_X5_no okX5_no (qX5_no l D cI cB r B M (wSN_ (sn_ B) a v) (rc0_n (by first | exact rc0_wS _ _ | exact rc0_wSN _ _ _ | exact rc0_wSNW _ _ _ _ | exact rc0_wNW _ _ | exact rc0_wTh _ _ _ _ _ | exact rc0_wTr _ _ _ _ | exact rc0_nb _ _ | exact rc0_uk _ _ | exact rc0_ob _ _ _ | exact rc0_f2 (rc0_nb _ _) (rc0_nb _ _) | exact rc0_f2 (rc0_nb _ _) (rc0_uk _ _) | exact rc0_f2 (rc0_ob _ _ _) (rc0_uk _ _) | exact rc0_f2 (rc0_uk _ _) (rc0_f2 (rc0_uk _ _) (rc0_ob _ _ _))) c_18)) [0, 1, 2, 3, 4, 5, 6, 7, 8, 9, 10, 11, 12, 13, 14, 15] rfl (by decide) (fun _ => mW_adr _ _ _ _ _ _) rfl rfl rfl (by decide) hl.1 rfl rfl (Nat.le_of_ble_eq_true rfl) dX5_swap_23 (by decide) (fun r_7 u_8 H locs hw_9 hP hD hS => ?_)
        replace hw_9 : r_7 = wSN_ (sn_ B) a v ∧ u_8 = (rfm_ M (wSN_ (sn_ B) a v)) := hw_9
        obtain ⟨hw_9a, hw_9b⟩ := hw_9
        subst r_7
        subst u_8
        replace hP : va_P D vwCl ([(r 0, .inr (5, [.ref (r 1), .ref (r 2), .ref (r 3), .ref (r 4), .ref (r 5), .ref (r 6), .int (nI (sn_ B)), .int (qt_ B), .int (il_ B), .int (pa_ B), .int (ho_ B), .int (dy_ B), .ref (r 13), .ref (r 14), .ref (r 15), .ref (r 16), .int (nI (mtn_ M)), .int (nI (mrd_ M)), .int (nI (msm_ M)), .ref (r 20), .int (mhi_ M), .int (mik_ M), .int (nI (mcu_ M)), .int (nI (mbk_ M)), .ref (r 25), .ref (r 26), .int (mlw_ M), .int (mhg_ M), .int (msl_ M), .ref (r 30), .int (nI (mrm_ M)), .ref (r 32), .int (mlo_ M)])), (r 1, .inl (cI, 7, .inl (rfx_ (mrf_ M) (wSN_ (sn_ B) a v)))), (r 2, .inl (cI, 7, .inl (kd_ B))), (r 3, .inl (cI, 7, .inl (fg_ B))), (r 4, .inl (cI, 7, .inl (pl_ B))), (r 5, .inl (cI, 7, .inl (pw_ B))), (r 6, .inl (cI, 7, .inl (jy_ B))), (r 13, .inl (cI, 96, .inl (mtp_ M))), (r 14, .inl (cI, 48, .inl (mlt_ M))), (r 15, .inl (cI, 48, .inl (mla_ M))), (r 16, .inl (cI, 144, .inl (mtd_ M))), (r 20, .inl (cI, 451, .inl (flatK (mkp_ M)))), (r 25, .inl (cI, 7, .inl (mof_ M))), (r 26, .inl (cI, 7, .inl (mfa_ M))), (r 30, .inl (cI, 12, .inl (mrw_ M))), (r 32, .inl (cI, 8, .inl (mhb_ M)))]) H := hP
        replace hD : va_D A ([(r 0, .inr (5, [.ref (r 1), .ref (r 2), .ref (r 3), .ref (r 4), .ref (r 5), .ref (r 6), .int (nI (sn_ B)), .int (qt_ B), .int (il_ B), .int (pa_ B), .int (ho_ B), .int (dy_ B), .ref (r 13), .ref (r 14), .ref (r 15), .ref (r 16), .int (nI (mtn_ M)), .int (nI (mrd_ M)), .int (nI (msm_ M)), .ref (r 20), .int (mhi_ M), .int (mik_ M), .int (nI (mcu_ M)), .int (nI (mbk_ M)), .ref (r 25), .ref (r 26), .int (mlw_ M), .int (mhg_ M), .int (msl_ M), .ref (r 30), .int (nI (mrm_ M)), .ref (r 32), .int (mlo_ M)])), (r 1, .inl (cI, 7, .inl (rfx_ (mrf_ M) (wSN_ (sn_ B) a v)))), (r 2, .inl (cI, 7, .inl (kd_ B))), (r 3, .inl (cI, 7, .inl (fg_ B))), (r 4, .inl (cI, 7, .inl (pl_ B))), (r 5, .inl (cI, 7, .inl (pw_ B))), (r 6, .inl (cI, 7, .inl (jy_ B))), (r 13, .inl (cI, 96, .inl (mtp_ M))), (r 14, .inl (cI, 48, .inl (mlt_ M))), (r 15, .inl (cI, 48, .inl (mla_ M))), (r 16, .inl (cI, 144, .inl (mtd_ M))), (r 20, .inl (cI, 451, .inl (flatK (mkp_ M)))), (r 25, .inl (cI, 7, .inl (mof_ M))), (r 26, .inl (cI, 7, .inl (mfa_ M))), (r 30, .inl (cI, 12, .inl (mrw_ M))), (r 32, .inl (cI, 8, .inl (mhb_ M)))]) := hD
        refine rMi hx hb hr hlk hS (rfm_ M (wSN_ (sn_ B) a v)) hP ?_ dX5_swap_26
        first | exact ⟨(if_neg c_18).symm, oQ_n _ _⟩ | (refine ⟨?_, oQ_0 c_18 ?_⟩; · (rw [if_pos c_18]; simp only [tn_n (show a_ < 2147483648 by omega), tn_n (show v_ < 2147483648 by omega)]; rw [show i = sn_ B by omega]); · (first | exact (oN_mk (by assumption)).m | exact oM_.rf _ | exact (oN_pp _ _).m | exact (oN_fo _ _ _ _).m | assumption | (apply oN_.m; assumption) | exact oM_.tr (by assumption) (by assumption)))
  refine lv_aload_n hx hb dX5_swap_0 rfl (lv_at hl 0 rfl) ?_
  refine lv_iload_n hx hb dX5_swap_1 rfl (lv_at hl 1 rfl) ?_
  refine kSiV hx hb hml hown hts hK hP gX5_swap_X5_isShore okX5_isShore (qX5_isShore l D cI cB r B M a (by show sn_ B ≤ 7; omega)) [0, 1, 2, 3, 4, 5, 6, 7, 8, 9, 10, 11, 12, 13, 14, 15] rfl rfl rfl rfl (by decide) hl.1 rfl rfl (Nat.le_of_ble_eq_true rfl) dX5_swap_2 (by decide) (fun r_10 hr_11 => ?_)
  replace hr_11 : r_10 = b1 (0 ≤ a ∧ a < nI (sn_ B)) := hr_11
  subst r_10
  refine lv_if_ne (tgt := 12) hx hb dX5_swap_5 (by decide) (fun c_5 => ?_) (fun c_5 => ?_)
  · replace c_5 := b1_n c_5
    refine lv_iload_n hx hb dX5_swap_12 rfl (lv_at hl 2 rfl) ?_
    refine kSiS hx hb hml hown hts hK hP gX5_swap_X5_notHours okX5_notHours (qX5_notHours l D cI cB v ) [] rfl (by decide) hl.1 rfl rfl (Nat.le_of_ble_eq_true rfl) dX5_swap_13 (by decide) (fun r_12 hr_13 => ?_)
    replace hr_13 : r_12 = ob_ v 0 99 := hr_13
    subst r_12
    refine lv_istore_n (lv' := [(3, .int (ob_ v 0 99)), (0, .ref (r 0)), (1, .int a), (2, .int v)]) hx hb dX5_swap_16 rfl hl (by decide) rfl (fun ls hl => ?_)
    exact jn_17  (ob_ v 0 99)  (by first | exact (f2_b (nb_i c_5)).symm | exact ((f2_a (by rw [nb_o c_5]; decide)).trans (nb_o c_5)).symm)   _ _ hP hD hS ls (lv_sub hl [0, 1, 2, 3] rfl)
  · replace c_5 := b1_z c_5
    refine lv_iconst (v := (-1)) hx hb dX5_swap_8 (by decide) ?_
    refine lv_goto (tgt := 16) hx hb dX5_swap_9 (by decide) ?_
    refine lv_istore_n (lv' := [(3, .int (-1)), (0, .ref (r 0)), (1, .int a), (2, .int v)]) hx hb dX5_swap_16 rfl hl (by decide) rfl (fun ls hl => ?_)
    exact jn_17  (-1)  (by first | exact (f2_b (nb_i c_5)).symm | exact ((f2_a (by rw [nb_o c_5]; decide)).trans (nb_o c_5)).symm)   _ _ hP hD hS ls (lv_sub hl [0, 1, 2, 3] rfl)

theorem okX5_ring : jok yX5_ring wsX5_ring cX5_ring 5 (some .int) 1 := ⟨⟨_, rfl⟩, by decide +kernel, by decide +kernel⟩
set_option maxHeartbeats 2000000 in
set_option maxRecDepth 100000 in
theorem qX5_ring (l : Launch) (D : va_G) (cI cB : ClassId) (r : Nat → Nat) (B : BayT) (M : MT) (v : Int32) (hI : bI_ B) : jMi D cI cB l yX5_ring wsX5_ring 7 [.ref (r 0), .int v] (mW cI r B M) (S := MT) (fun r u => r = (if ob_ v 0 99 = 0 then oI_ (rg_ (hs_ (tn_ v) B) 48 0) else ob_ v 0 99) ∧ oQ_ M u (ob_ v 0 99)) (fun u => mW cI r B u) := by
  refine jMi.of (cc := cX5_ring) (maxL := 5) (ret := (some .int)) okX5_ring (Nat.le_of_ble_eq_true rfl) ?_
  intro p e s m below meth c ls A hx hb hr hts hown hlk hml hP hK hD hA hS hl
  replace hown : s.vm.findClass RX5 = some m.cls := hown
  replace hl : lv_has ls 5 [(0, .ref (r 0)), (1, .int v)] := hl
  have hn7 := hI.1
  have hinX5 : ∀ w ∈ wsX50, w ∈ wsX5_ring := by decide +kernel
  refine lv_iload_n hx hb dX5_ring_0 rfl (lv_at hl 1 rfl) ?_
  refine kSiS hx hb hml hown hts hK hP gX5_ring_X5_notHours okX5_notHours (qX5_notHours l D cI cB v ) [] rfl (by decide) hl.1 rfl rfl (Nat.le_of_ble_eq_true rfl) dX5_ring_1 (by decide) (fun r_1 hr_2 => ?_)
  replace hr_2 : r_1 = ob_ v 0 99 := hr_2
  subst r_1
  refine lv_istore_n (lv' := [(2, .int (ob_ v 0 99)), (0, .ref (r 0)), (1, .int v)]) hx hb dX5_ring_4 rfl hl (by decide) rfl (fun ls hl => ?_)
  refine lv_iload_n hx hb dX5_ring_5 rfl (lv_at hl 0 rfl) ?_
  refine lv_if_eq (tgt := 15) hx hb dX5_ring_6 (by decide) (fun c_6 => ?_) (fun c_6 => ?_)
  · skip
    have w0 := c_6
    simp only [wS_, wSN_, wSNW_, wNW_, wTh_, wTr_, f2_0, nb_0, ob_0, uk_0, lo_0, hi_0] at w0
    obtain ⟨v_, hv_, rfl⟩ := pl_le (n := 99) (by decide) w0
    replace hl : lv_has ls 5 [(2, .int (ob_ (nI v_) 0 99)), (0, .ref (r 0)), (1, .int (nI v_))] := hl
    refine lv_aload_n hx hb dX5_ring_15 rfl (lv_at hl 1 rfl) ?_
    refine kMvV hx hb hml hown hts hK hP hD hA hS gX5_ring_X5_thinks okX5_thinks (qX5_thinksE l D cI cB r B M ) [0, 1, 2, 3, 4, 5, 6, 7, 8, 9, 10, 11, 12, 13, 14, 15] rfl (by decide) (fun _ => mW_adE rfl) rfl rfl rfl (by decide) hl.1 rfl rfl (Nat.le_of_ble_eq_true rfl) dX5_ring_16 (by decide) (fun u_4 H locs hw_5 hP hD hS => ?_)
    replace hP : va_P D vwCl ([(r 0, .inr (5, [.ref (r 1), .ref (r 2), .ref (r 3), .ref (r 4), .ref (r 5), .ref (r 6), .int (nI (sn_ B)), .int (qt_ B), .int (il_ B), .int (pa_ B), .int (ho_ B), .int (dy_ B), .ref (r 13), .ref (r 14), .ref (r 15), .ref (r 16), .int (nI (mtn_ M)), .int (nI (mrd_ M)), .int (nI (msm_ M)), .ref (r 20), .int (mhi_ M), .int (1), .int (nI (41 * 2 + 41)), .int (nI (mbk_ M)), .ref (r 25), .ref (r 26), .int (mlw_ M), .int (mhg_ M), .int (msl_ M), .ref (r 30), .int (nI (mrm_ M)), .ref (r 32), .int (mlo_ M)])), (r 1, .inl (cI, 7, .inl (mrf_ M))), (r 2, .inl (cI, 7, .inl (kd_ B))), (r 3, .inl (cI, 7, .inl (fg_ B))), (r 4, .inl (cI, 7, .inl (pl_ B))), (r 5, .inl (cI, 7, .inl (pw_ B))), (r 6, .inl (cI, 7, .inl (jy_ B))), (r 13, .inl (cI, 96, .inl (mtp_ M))), (r 14, .inl (cI, 48, .inl (mlt_ M))), (r 15, .inl (cI, 48, .inl (mla_ M))), (r 16, .inl (cI, 144, .inl (mtd_ M))), (r 20, .inl (cI, 451, .inl (flatK (va_up (mkp_ M) 2 B)))), (r 25, .inl (cI, 7, .inl (mof_ M))), (r 26, .inl (cI, 7, .inl (mfa_ M))), (r 30, .inl (cI, 12, .inl (mrw_ M))), (r 32, .inl (cI, 8, .inl (mhb_ M)))]) H := hP
    replace hD : va_D A ([(r 0, .inr (5, [.ref (r 1), .ref (r 2), .ref (r 3), .ref (r 4), .ref (r 5), .ref (r 6), .int (nI (sn_ B)), .int (qt_ B), .int (il_ B), .int (pa_ B), .int (ho_ B), .int (dy_ B), .ref (r 13), .ref (r 14), .ref (r 15), .ref (r 16), .int (nI (mtn_ M)), .int (nI (mrd_ M)), .int (nI (msm_ M)), .ref (r 20), .int (mhi_ M), .int (1), .int (nI (41 * 2 + 41)), .int (nI (mbk_ M)), .ref (r 25), .ref (r 26), .int (mlw_ M), .int (mhg_ M), .int (msl_ M), .ref (r 30), .int (nI (mrm_ M)), .ref (r 32), .int (mlo_ M)])), (r 1, .inl (cI, 7, .inl (mrf_ M))), (r 2, .inl (cI, 7, .inl (kd_ B))), (r 3, .inl (cI, 7, .inl (fg_ B))), (r 4, .inl (cI, 7, .inl (pl_ B))), (r 5, .inl (cI, 7, .inl (pw_ B))), (r 6, .inl (cI, 7, .inl (jy_ B))), (r 13, .inl (cI, 96, .inl (mtp_ M))), (r 14, .inl (cI, 48, .inl (mlt_ M))), (r 15, .inl (cI, 48, .inl (mla_ M))), (r 16, .inl (cI, 144, .inl (mtd_ M))), (r 20, .inl (cI, 451, .inl (flatK (va_up (mkp_ M) 2 B)))), (r 25, .inl (cI, 7, .inl (mof_ M))), (r 26, .inl (cI, 7, .inl (mfa_ M))), (r 30, .inl (cI, 12, .inl (mrw_ M))), (r 32, .inl (cI, 8, .inl (mhb_ M)))]) := hD
    refine lv_aload_n hx hb dX5_ring_19 rfl (lv_at hl 1 rfl) ?_
    refine lv_iload_n hx hb dX5_ring_20 rfl (lv_at hl 2 rfl) ?_
    refine kMvV hx hb hml hown hts hK hP hD hA hS gX5_ring_X5_goes okX5_goes (qX5_goes l D cI cB r B (mkM (mrf_ M) (mtp_ M) (mlt_ M) (mla_ M) (mtd_ M) (va_up (mkp_ M) 2 B) (mof_ M) (mfa_ M) (mrw_ M) (mhb_ M) (mtn_ M) (mrd_ M) (msm_ M) (41 * 2 + 41) (mbk_ M) (mrm_ M) (mhi_ M) 1 (mlw_ M) (mhg_ M) (msl_ M) (mlo_ M)) v_ hI (by omega)) [0, 1, 2, 3, 4, 5, 6, 7, 8, 9, 10, 11, 12, 13, 14, 15] rfl (by decide) (fun _ => mW_adr _ _ _ _ _ _) rfl rfl rfl (by decide) hl.1 rfl rfl (Nat.le_of_ble_eq_true rfl) dX5_ring_21 (by decide) (fun u_7 H locs hw_8 hP hD hS => ?_)
    replace hw_8 : u_7 = hs_ v_ B := hw_8
    subst u_7
    replace hP : va_P D vwCl ([(r 0, .inr (5, [.ref (r 1), .ref (r 2), .ref (r 3), .ref (r 4), .ref (r 5), .ref (r 6), .int (nI (sn_ (hs_ v_ B))), .int (qt_ (hs_ v_ B)), .int (il_ (hs_ v_ B)), .int (pa_ (hs_ v_ B)), .int (ho_ (hs_ v_ B)), .int (dy_ (hs_ v_ B)), .ref (r 13), .ref (r 14), .ref (r 15), .ref (r 16), .int (nI (mtn_ M)), .int (nI (mrd_ M)), .int (nI (msm_ M)), .ref (r 20), .int (mhi_ M), .int (1), .int (nI (41 * 2 + 41)), .int (nI (mbk_ M)), .ref (r 25), .ref (r 26), .int (mlw_ M), .int (mhg_ M), .int (msl_ M), .ref (r 30), .int (nI (mrm_ M)), .ref (r 32), .int (mlo_ M)])), (r 1, .inl (cI, 7, .inl (mrf_ M))), (r 2, .inl (cI, 7, .inl (kd_ (hs_ v_ B)))), (r 3, .inl (cI, 7, .inl (fg_ (hs_ v_ B)))), (r 4, .inl (cI, 7, .inl (pl_ (hs_ v_ B)))), (r 5, .inl (cI, 7, .inl (pw_ (hs_ v_ B)))), (r 6, .inl (cI, 7, .inl (jy_ (hs_ v_ B)))), (r 13, .inl (cI, 96, .inl (mtp_ M))), (r 14, .inl (cI, 48, .inl (mlt_ M))), (r 15, .inl (cI, 48, .inl (mla_ M))), (r 16, .inl (cI, 144, .inl (mtd_ M))), (r 20, .inl (cI, 451, .inl (flatK (va_up (mkp_ M) 2 B)))), (r 25, .inl (cI, 7, .inl (mof_ M))), (r 26, .inl (cI, 7, .inl (mfa_ M))), (r 30, .inl (cI, 12, .inl (mrw_ M))), (r 32, .inl (cI, 8, .inl (mhb_ M)))]) H := hP
    replace hD : va_D A ([(r 0, .inr (5, [.ref (r 1), .ref (r 2), .ref (r 3), .ref (r 4), .ref (r 5), .ref (r 6), .int (nI (sn_ (hs_ v_ B))), .int (qt_ (hs_ v_ B)), .int (il_ (hs_ v_ B)), .int (pa_ (hs_ v_ B)), .int (ho_ (hs_ v_ B)), .int (dy_ (hs_ v_ B)), .ref (r 13), .ref (r 14), .ref (r 15), .ref (r 16), .int (nI (mtn_ M)), .int (nI (mrd_ M)), .int (nI (msm_ M)), .ref (r 20), .int (mhi_ M), .int (1), .int (nI (41 * 2 + 41)), .int (nI (mbk_ M)), .ref (r 25), .ref (r 26), .int (mlw_ M), .int (mhg_ M), .int (msl_ M), .ref (r 30), .int (nI (mrm_ M)), .ref (r 32), .int (mlo_ M)])), (r 1, .inl (cI, 7, .inl (mrf_ M))), (r 2, .inl (cI, 7, .inl (kd_ (hs_ v_ B)))), (r 3, .inl (cI, 7, .inl (fg_ (hs_ v_ B)))), (r 4, .inl (cI, 7, .inl (pl_ (hs_ v_ B)))), (r 5, .inl (cI, 7, .inl (pw_ (hs_ v_ B)))), (r 6, .inl (cI, 7, .inl (jy_ (hs_ v_ B)))), (r 13, .inl (cI, 96, .inl (mtp_ M))), (r 14, .inl (cI, 48, .inl (mlt_ M))), (r 15, .inl (cI, 48, .inl (mla_ M))), (r 16, .inl (cI, 144, .inl (mtd_ M))), (r 20, .inl (cI, 451, .inl (flatK (va_up (mkp_ M) 2 B)))), (r 25, .inl (cI, 7, .inl (mof_ M))), (r 26, .inl (cI, 7, .inl (mfa_ M))), (r 30, .inl (cI, 12, .inl (mrw_ M))), (r 32, .inl (cI, 8, .inl (mhb_ M)))]) := hD
    refine lv_aload_n hx hb dX5_ring_24 rfl (lv_at hl 1 rfl) ?_
    refine va_get (ci := 5) (C := RX5) (T := TX5) (N := 33) hx hb hts hinX5 hown hK.1 hP 0 rfl rfl 8 (by decide) (hts _ (List.mem_of_getElem? (i := 1) rfl)) (fun _ h9 => h9) rfl dX5_ring_25 ?_
    refine lv_istore_n (lv' := [(3, .int (il_ (hs_ v_ B))), (2, .int (ob_ (nI v_) 0 99)), (0, .ref (r 0)), (1, .int (nI v_))]) hx hb dX5_ring_28 rfl hl (by decide) rfl (fun ls hl => ?_)
    refine lv_aload_n hx hb dX5_ring_29 rfl (lv_at hl 2 rfl) ?_
    refine lv_bipush (v := 24) hx hb dX5_ring_30 (by decide) ?_
    refine kMvV hx hb hml hown hts hK hP hD hA hS gX5_ring_X5_goes okX5_goes (qX5_goes l D cI cB r (hs_ v_ B) (mkM (mrf_ M) (mtp_ M) (mlt_ M) (mla_ M) (mtd_ M) (va_up (mkp_ M) 2 B) (mof_ M) (mfa_ M) (mrw_ M) (mhb_ M) (mtn_ M) (mrd_ M) (msm_ M) (41 * 2 + 41) (mbk_ M) (mrm_ M) (mhi_ M) 1 (mlw_ M) (mhg_ M) (msl_ M) (mlo_ M)) 24 (bI_hs hI _) (by decide)) [0, 1, 2, 3, 4, 5, 6, 7, 8, 9, 10, 11, 12, 13, 14, 15] rfl (by decide) (fun _ => mW_adr _ _ _ _ _ _) rfl rfl rfl (by decide) hl.1 rfl rfl (Nat.le_of_ble_eq_true rfl) dX5_ring_32 (by decide) (fun u_10 H locs hw_11 hP hD hS => ?_)
    replace hw_11 : u_10 = hs_ 24 (hs_ v_ B) := hw_11
    subst u_10
    replace hP : va_P D vwCl ([(r 0, .inr (5, [.ref (r 1), .ref (r 2), .ref (r 3), .ref (r 4), .ref (r 5), .ref (r 6), .int (nI (sn_ (hs_ 24 (hs_ v_ B)))), .int (qt_ (hs_ 24 (hs_ v_ B))), .int (il_ (hs_ 24 (hs_ v_ B))), .int (pa_ (hs_ 24 (hs_ v_ B))), .int (ho_ (hs_ 24 (hs_ v_ B))), .int (dy_ (hs_ 24 (hs_ v_ B))), .ref (r 13), .ref (r 14), .ref (r 15), .ref (r 16), .int (nI (mtn_ M)), .int (nI (mrd_ M)), .int (nI (msm_ M)), .ref (r 20), .int (mhi_ M), .int (1), .int (nI (41 * 2 + 41)), .int (nI (mbk_ M)), .ref (r 25), .ref (r 26), .int (mlw_ M), .int (mhg_ M), .int (msl_ M), .ref (r 30), .int (nI (mrm_ M)), .ref (r 32), .int (mlo_ M)])), (r 1, .inl (cI, 7, .inl (mrf_ M))), (r 2, .inl (cI, 7, .inl (kd_ (hs_ 24 (hs_ v_ B))))), (r 3, .inl (cI, 7, .inl (fg_ (hs_ 24 (hs_ v_ B))))), (r 4, .inl (cI, 7, .inl (pl_ (hs_ 24 (hs_ v_ B))))), (r 5, .inl (cI, 7, .inl (pw_ (hs_ 24 (hs_ v_ B))))), (r 6, .inl (cI, 7, .inl (jy_ (hs_ 24 (hs_ v_ B))))), (r 13, .inl (cI, 96, .inl (mtp_ M))), (r 14, .inl (cI, 48, .inl (mlt_ M))), (r 15, .inl (cI, 48, .inl (mla_ M))), (r 16, .inl (cI, 144, .inl (mtd_ M))), (r 20, .inl (cI, 451, .inl (flatK (va_up (mkp_ M) 2 B)))), (r 25, .inl (cI, 7, .inl (mof_ M))), (r 26, .inl (cI, 7, .inl (mfa_ M))), (r 30, .inl (cI, 12, .inl (mrw_ M))), (r 32, .inl (cI, 8, .inl (mhb_ M)))]) H := hP
    replace hD : va_D A ([(r 0, .inr (5, [.ref (r 1), .ref (r 2), .ref (r 3), .ref (r 4), .ref (r 5), .ref (r 6), .int (nI (sn_ (hs_ 24 (hs_ v_ B)))), .int (qt_ (hs_ 24 (hs_ v_ B))), .int (il_ (hs_ 24 (hs_ v_ B))), .int (pa_ (hs_ 24 (hs_ v_ B))), .int (ho_ (hs_ 24 (hs_ v_ B))), .int (dy_ (hs_ 24 (hs_ v_ B))), .ref (r 13), .ref (r 14), .ref (r 15), .ref (r 16), .int (nI (mtn_ M)), .int (nI (mrd_ M)), .int (nI (msm_ M)), .ref (r 20), .int (mhi_ M), .int (1), .int (nI (41 * 2 + 41)), .int (nI (mbk_ M)), .ref (r 25), .ref (r 26), .int (mlw_ M), .int (mhg_ M), .int (msl_ M), .ref (r 30), .int (nI (mrm_ M)), .ref (r 32), .int (mlo_ M)])), (r 1, .inl (cI, 7, .inl (mrf_ M))), (r 2, .inl (cI, 7, .inl (kd_ (hs_ 24 (hs_ v_ B))))), (r 3, .inl (cI, 7, .inl (fg_ (hs_ 24 (hs_ v_ B))))), (r 4, .inl (cI, 7, .inl (pl_ (hs_ 24 (hs_ v_ B))))), (r 5, .inl (cI, 7, .inl (pw_ (hs_ 24 (hs_ v_ B))))), (r 6, .inl (cI, 7, .inl (jy_ (hs_ 24 (hs_ v_ B))))), (r 13, .inl (cI, 96, .inl (mtp_ M))), (r 14, .inl (cI, 48, .inl (mlt_ M))), (r 15, .inl (cI, 48, .inl (mla_ M))), (r 16, .inl (cI, 144, .inl (mtd_ M))), (r 20, .inl (cI, 451, .inl (flatK (va_up (mkp_ M) 2 B)))), (r 25, .inl (cI, 7, .inl (mof_ M))), (r 26, .inl (cI, 7, .inl (mfa_ M))), (r 30, .inl (cI, 12, .inl (mrw_ M))), (r 32, .inl (cI, 8, .inl (mhb_ M)))]) := hD
    refine lv_aload_n hx hb dX5_ring_35 rfl (lv_at hl 2 rfl) ?_
    refine va_get (ci := 5) (C := RX5) (T := TX5) (N := 33) hx hb hts hinX5 hown hK.1 hP 0 rfl rfl 8 (by decide) (hts _ (List.mem_of_getElem? (i := 1) rfl)) (fun _ h9 => h9) rfl dX5_ring_36 ?_
    refine lv_iload_n hx hb dX5_ring_39 rfl (lv_at hl 0 rfl) ?_
    refine lv_icmp_ne (tgt := 48) hx hb dX5_ring_40 (by decide) (fun c_40 => ?_) (fun c_40 => ?_)
    · skip
      refine lv_bipush (v := (-9)) hx hb dX5_ring_48 (by decide) ?_
      refine lv_istore (lv' := [(4, .int (-9)), (3, .int (il_ (hs_ v_ B))), (2, .int (ob_ (nI v_) 0 99)), (0, .ref (r 0)), (1, .int (nI v_))]) hx hb dX5_ring_50 hl (by decide) rfl (fun ls hl => ?_)
      refine lv_aload_n hx hb dX5_ring_52 rfl (lv_at hl 3 rfl) ?_
      refine lv_bipush (v := 24) hx hb dX5_ring_53 (by decide) ?_
      refine kMvV hx hb hml hown hts hK hP hD hA hS gX5_ring_X5_goes okX5_goes (qX5_goes l D cI cB r (hs_ 24 (hs_ v_ B)) (mkM (mrf_ M) (mtp_ M) (mlt_ M) (mla_ M) (mtd_ M) (va_up (mkp_ M) 2 B) (mof_ M) (mfa_ M) (mrw_ M) (mhb_ M) (mtn_ M) (mrd_ M) (msm_ M) (41 * 2 + 41) (mbk_ M) (mrm_ M) (mhi_ M) 1 (mlw_ M) (mhg_ M) (msl_ M) (mlo_ M)) 24 (bI_hs (bI_hs hI _) _) (by decide)) [0, 1, 2, 3, 4, 5, 6, 7, 8, 9, 10, 11, 12, 13, 14, 15] rfl (by decide) (fun _ => mW_adr _ _ _ _ _ _) rfl rfl rfl (by decide) hl.1 rfl rfl (Nat.le_of_ble_eq_true rfl) dX5_ring_55 (by decide) (fun u_13 H locs hw_14 hP hD hS => ?_)
      replace hw_14 : u_13 = hs_ 24 (hs_ 24 (hs_ v_ B)) := hw_14
      subst u_13
      replace hP : va_P D vwCl ([(r 0, .inr (5, [.ref (r 1), .ref (r 2), .ref (r 3), .ref (r 4), .ref (r 5), .ref (r 6), .int (nI (sn_ (hs_ 24 (hs_ 24 (hs_ v_ B))))), .int (qt_ (hs_ 24 (hs_ 24 (hs_ v_ B)))), .int (il_ (hs_ 24 (hs_ 24 (hs_ v_ B)))), .int (pa_ (hs_ 24 (hs_ 24 (hs_ v_ B)))), .int (ho_ (hs_ 24 (hs_ 24 (hs_ v_ B)))), .int (dy_ (hs_ 24 (hs_ 24 (hs_ v_ B)))), .ref (r 13), .ref (r 14), .ref (r 15), .ref (r 16), .int (nI (mtn_ M)), .int (nI (mrd_ M)), .int (nI (msm_ M)), .ref (r 20), .int (mhi_ M), .int (1), .int (nI (41 * 2 + 41)), .int (nI (mbk_ M)), .ref (r 25), .ref (r 26), .int (mlw_ M), .int (mhg_ M), .int (msl_ M), .ref (r 30), .int (nI (mrm_ M)), .ref (r 32), .int (mlo_ M)])), (r 1, .inl (cI, 7, .inl (mrf_ M))), (r 2, .inl (cI, 7, .inl (kd_ (hs_ 24 (hs_ 24 (hs_ v_ B)))))), (r 3, .inl (cI, 7, .inl (fg_ (hs_ 24 (hs_ 24 (hs_ v_ B)))))), (r 4, .inl (cI, 7, .inl (pl_ (hs_ 24 (hs_ 24 (hs_ v_ B)))))), (r 5, .inl (cI, 7, .inl (pw_ (hs_ 24 (hs_ 24 (hs_ v_ B)))))), (r 6, .inl (cI, 7, .inl (jy_ (hs_ 24 (hs_ 24 (hs_ v_ B)))))), (r 13, .inl (cI, 96, .inl (mtp_ M))), (r 14, .inl (cI, 48, .inl (mlt_ M))), (r 15, .inl (cI, 48, .inl (mla_ M))), (r 16, .inl (cI, 144, .inl (mtd_ M))), (r 20, .inl (cI, 451, .inl (flatK (va_up (mkp_ M) 2 B)))), (r 25, .inl (cI, 7, .inl (mof_ M))), (r 26, .inl (cI, 7, .inl (mfa_ M))), (r 30, .inl (cI, 12, .inl (mrw_ M))), (r 32, .inl (cI, 8, .inl (mhb_ M)))]) H := hP
      replace hD : va_D A ([(r 0, .inr (5, [.ref (r 1), .ref (r 2), .ref (r 3), .ref (r 4), .ref (r 5), .ref (r 6), .int (nI (sn_ (hs_ 24 (hs_ 24 (hs_ v_ B))))), .int (qt_ (hs_ 24 (hs_ 24 (hs_ v_ B)))), .int (il_ (hs_ 24 (hs_ 24 (hs_ v_ B)))), .int (pa_ (hs_ 24 (hs_ 24 (hs_ v_ B)))), .int (ho_ (hs_ 24 (hs_ 24 (hs_ v_ B)))), .int (dy_ (hs_ 24 (hs_ 24 (hs_ v_ B)))), .ref (r 13), .ref (r 14), .ref (r 15), .ref (r 16), .int (nI (mtn_ M)), .int (nI (mrd_ M)), .int (nI (msm_ M)), .ref (r 20), .int (mhi_ M), .int (1), .int (nI (41 * 2 + 41)), .int (nI (mbk_ M)), .ref (r 25), .ref (r 26), .int (mlw_ M), .int (mhg_ M), .int (msl_ M), .ref (r 30), .int (nI (mrm_ M)), .ref (r 32), .int (mlo_ M)])), (r 1, .inl (cI, 7, .inl (mrf_ M))), (r 2, .inl (cI, 7, .inl (kd_ (hs_ 24 (hs_ 24 (hs_ v_ B)))))), (r 3, .inl (cI, 7, .inl (fg_ (hs_ 24 (hs_ 24 (hs_ v_ B)))))), (r 4, .inl (cI, 7, .inl (pl_ (hs_ 24 (hs_ 24 (hs_ v_ B)))))), (r 5, .inl (cI, 7, .inl (pw_ (hs_ 24 (hs_ 24 (hs_ v_ B)))))), (r 6, .inl (cI, 7, .inl (jy_ (hs_ 24 (hs_ 24 (hs_ v_ B)))))), (r 13, .inl (cI, 96, .inl (mtp_ M))), (r 14, .inl (cI, 48, .inl (mlt_ M))), (r 15, .inl (cI, 48, .inl (mla_ M))), (r 16, .inl (cI, 144, .inl (mtd_ M))), (r 20, .inl (cI, 451, .inl (flatK (va_up (mkp_ M) 2 B)))), (r 25, .inl (cI, 7, .inl (mof_ M))), (r 26, .inl (cI, 7, .inl (mfa_ M))), (r 30, .inl (cI, 12, .inl (mrw_ M))), (r 32, .inl (cI, 8, .inl (mhb_ M)))]) := hD
      refine lv_iload hx hb dX5_ring_58 (lv_at hl 0 rfl) ?_
      refine lv_if_ge (tgt := 76) hx hb dX5_ring_60 (by decide) (fun q => absurd q (by decide)) (fun _ => ?_)
      refine lv_aload_n hx hb dX5_ring_63 rfl (lv_at hl 3 rfl) ?_
      refine va_get (ci := 5) (C := RX5) (T := TX5) (N := 33) hx hb hts hinX5 hown hK.1 hP 0 rfl rfl 8 (by decide) (hts _ (List.mem_of_getElem? (i := 1) rfl)) (fun _ h9 => h9) rfl dX5_ring_64 ?_
      refine lv_iload_n hx hb dX5_ring_67 rfl (lv_at hl 1 rfl) ?_
      refine lv_icmp_ne (tgt := 76) hx hb dX5_ring_68 (by decide) (fun c_68 => ?_) (fun c_68 => ?_)
      · skip
        refine lv_iload hx hb dX5_ring_76 (lv_at hl 0 rfl) ?_
        refine lv_istore (lv' := [(4, .int (-9)), (3, .int (il_ (hs_ v_ B))), (2, .int (ob_ (nI v_) 0 99)), (0, .ref (r 0)), (1, .int (nI v_))]) hx hb dX5_ring_78 hl (by decide) rfl (fun ls hl => ?_)
        refine lv_aload_n hx hb dX5_ring_80 rfl (lv_at hl 3 rfl) ?_
        refine kMvV hx hb hml hown hts hK hP hD hA hS gX5_ring_X5_forgets okX5_forgets (qX5_forgetsE l D cI cB r (hs_ 24 (hs_ 24 (hs_ v_ B))) (mkM (mrf_ M) (mtp_ M) (mlt_ M) (mla_ M) (mtd_ M) (va_up (mkp_ M) 2 B) (mof_ M) (mfa_ M) (mrw_ M) (mhb_ M) (mtn_ M) (mrd_ M) (msm_ M) (41 * 2 + 41) (mbk_ M) (mrm_ M) (mhi_ M) 1 (mlw_ M) (mhg_ M) (msl_ M) (mlo_ M)) ) [0, 1, 2, 3, 4, 5, 6, 7, 8, 9, 10, 11, 12, 13, 14, 15] rfl (by decide) (fun _ => mW_adE rfl) rfl rfl rfl (by decide) hl.1 rfl rfl (Nat.le_of_ble_eq_true rfl) dX5_ring_81 (by decide) (fun u_16 H locs hw_17 hP hD hS => ?_)
        replace hP : va_P D vwCl ([(r 0, .inr (5, [.ref (r 1), .ref (r 2), .ref (r 3), .ref (r 4), .ref (r 5), .ref (r 6), .int (nI (sn_ B)), .int (qt_ B), .int (il_ B), .int (pa_ B), .int (ho_ B), .int (dy_ B), .ref (r 13), .ref (r 14), .ref (r 15), .ref (r 16), .int (nI (mtn_ M)), .int (nI (mrd_ M)), .int (nI (msm_ M)), .ref (r 20), .int (mhi_ M), .int (0), .int (nI (41 * 2 + 41)), .int (nI (mbk_ M)), .ref (r 25), .ref (r 26), .int (mlw_ M), .int (mhg_ M), .int (msl_ M), .ref (r 30), .int (nI (mrm_ M)), .ref (r 32), .int (mlo_ M)])), (r 1, .inl (cI, 7, .inl (mrf_ M))), (r 2, .inl (cI, 7, .inl (kd_ B))), (r 3, .inl (cI, 7, .inl (fg_ B))), (r 4, .inl (cI, 7, .inl (pl_ B))), (r 5, .inl (cI, 7, .inl (pw_ B))), (r 6, .inl (cI, 7, .inl (jy_ B))), (r 13, .inl (cI, 96, .inl (mtp_ M))), (r 14, .inl (cI, 48, .inl (mlt_ M))), (r 15, .inl (cI, 48, .inl (mla_ M))), (r 16, .inl (cI, 144, .inl (mtd_ M))), (r 20, .inl (cI, 451, .inl (flatK (va_up (mkp_ M) 2 B)))), (r 25, .inl (cI, 7, .inl (mof_ M))), (r 26, .inl (cI, 7, .inl (mfa_ M))), (r 30, .inl (cI, 12, .inl (mrw_ M))), (r 32, .inl (cI, 8, .inl (mhb_ M)))]) H := hP
        replace hD : va_D A ([(r 0, .inr (5, [.ref (r 1), .ref (r 2), .ref (r 3), .ref (r 4), .ref (r 5), .ref (r 6), .int (nI (sn_ B)), .int (qt_ B), .int (il_ B), .int (pa_ B), .int (ho_ B), .int (dy_ B), .ref (r 13), .ref (r 14), .ref (r 15), .ref (r 16), .int (nI (mtn_ M)), .int (nI (mrd_ M)), .int (nI (msm_ M)), .ref (r 20), .int (mhi_ M), .int (0), .int (nI (41 * 2 + 41)), .int (nI (mbk_ M)), .ref (r 25), .ref (r 26), .int (mlw_ M), .int (mhg_ M), .int (msl_ M), .ref (r 30), .int (nI (mrm_ M)), .ref (r 32), .int (mlo_ M)])), (r 1, .inl (cI, 7, .inl (mrf_ M))), (r 2, .inl (cI, 7, .inl (kd_ B))), (r 3, .inl (cI, 7, .inl (fg_ B))), (r 4, .inl (cI, 7, .inl (pl_ B))), (r 5, .inl (cI, 7, .inl (pw_ B))), (r 6, .inl (cI, 7, .inl (jy_ B))), (r 13, .inl (cI, 96, .inl (mtp_ M))), (r 14, .inl (cI, 48, .inl (mlt_ M))), (r 15, .inl (cI, 48, .inl (mla_ M))), (r 16, .inl (cI, 144, .inl (mtd_ M))), (r 20, .inl (cI, 451, .inl (flatK (va_up (mkp_ M) 2 B)))), (r 25, .inl (cI, 7, .inl (mof_ M))), (r 26, .inl (cI, 7, .inl (mfa_ M))), (r 30, .inl (cI, 12, .inl (mrw_ M))), (r 32, .inl (cI, 8, .inl (mhb_ M)))]) := hD
        refine lv_iload hx hb dX5_ring_84 (lv_at hl 0 rfl) ?_
        refine rMi hx hb hr hlk hS (mkM (mrf_ M) (mtp_ M) (mlt_ M) (mla_ M) (mtd_ M) (va_up (mkp_ M) 2 B) (mof_ M) (mfa_ M) (mrw_ M) (mhb_ M) (mtn_ M) (mrd_ M) (msm_ M) (41 * 2 + 41) (mbk_ M) (mrm_ M) (mhi_ M) 0 (mlw_ M) (mhg_ M) (msl_ M) (mlo_ M)) hP ?_ dX5_ring_86
        first | exact ⟨(if_neg c_6).symm, oQ_n _ _⟩ | (refine ⟨?_, oQ_0 c_6 ?_⟩; · (rw [if_pos c_6]; simp only [tn_n (show v_ < 2147483648 by omega)]; rw [← rg_eq (bI_hs hI _)]; unfold rgX_; rw [show hs_ 48 (hs_ v_ B) = hs_ 24 (hs_ 24 (hs_ v_ B)) from (hs_hs 24 (hs_ v_ B) 24).symm]; first | (rw [if_pos c_40]; done) | (rw [if_neg c_40, if_pos c_68]; done) | (rw [if_neg c_40, if_neg c_68]; done)); · (first | exact (oN_mk (by assumption)).m | exact oM_.rf _ | exact (oN_pp _ _).m | exact (oN_fo _ _ _ _).m | assumption | (apply oN_.m; assumption) | exact oM_.tr (by assumption) (by assumption)))
      · skip
        refine lv_bipush (v := 48) hx hb dX5_ring_71 (by decide) ?_
        refine lv_goto (tgt := 78) hx hb dX5_ring_73 (by decide) ?_
        refine lv_istore (lv' := [(4, .int 48), (3, .int (il_ (hs_ v_ B))), (2, .int (ob_ (nI v_) 0 99)), (0, .ref (r 0)), (1, .int (nI v_))]) hx hb dX5_ring_78 hl (by decide) rfl (fun ls hl => ?_)
        refine lv_aload_n hx hb dX5_ring_80 rfl (lv_at hl 3 rfl) ?_
        refine kMvV hx hb hml hown hts hK hP hD hA hS gX5_ring_X5_forgets okX5_forgets (qX5_forgetsE l D cI cB r (hs_ 24 (hs_ 24 (hs_ v_ B))) (mkM (mrf_ M) (mtp_ M) (mlt_ M) (mla_ M) (mtd_ M) (va_up (mkp_ M) 2 B) (mof_ M) (mfa_ M) (mrw_ M) (mhb_ M) (mtn_ M) (mrd_ M) (msm_ M) (41 * 2 + 41) (mbk_ M) (mrm_ M) (mhi_ M) 1 (mlw_ M) (mhg_ M) (msl_ M) (mlo_ M)) ) [0, 1, 2, 3, 4, 5, 6, 7, 8, 9, 10, 11, 12, 13, 14, 15] rfl (by decide) (fun _ => mW_adE rfl) rfl rfl rfl (by decide) hl.1 rfl rfl (Nat.le_of_ble_eq_true rfl) dX5_ring_81 (by decide) (fun u_19 H locs hw_20 hP hD hS => ?_)
        replace hP : va_P D vwCl ([(r 0, .inr (5, [.ref (r 1), .ref (r 2), .ref (r 3), .ref (r 4), .ref (r 5), .ref (r 6), .int (nI (sn_ B)), .int (qt_ B), .int (il_ B), .int (pa_ B), .int (ho_ B), .int (dy_ B), .ref (r 13), .ref (r 14), .ref (r 15), .ref (r 16), .int (nI (mtn_ M)), .int (nI (mrd_ M)), .int (nI (msm_ M)), .ref (r 20), .int (mhi_ M), .int (0), .int (nI (41 * 2 + 41)), .int (nI (mbk_ M)), .ref (r 25), .ref (r 26), .int (mlw_ M), .int (mhg_ M), .int (msl_ M), .ref (r 30), .int (nI (mrm_ M)), .ref (r 32), .int (mlo_ M)])), (r 1, .inl (cI, 7, .inl (mrf_ M))), (r 2, .inl (cI, 7, .inl (kd_ B))), (r 3, .inl (cI, 7, .inl (fg_ B))), (r 4, .inl (cI, 7, .inl (pl_ B))), (r 5, .inl (cI, 7, .inl (pw_ B))), (r 6, .inl (cI, 7, .inl (jy_ B))), (r 13, .inl (cI, 96, .inl (mtp_ M))), (r 14, .inl (cI, 48, .inl (mlt_ M))), (r 15, .inl (cI, 48, .inl (mla_ M))), (r 16, .inl (cI, 144, .inl (mtd_ M))), (r 20, .inl (cI, 451, .inl (flatK (va_up (mkp_ M) 2 B)))), (r 25, .inl (cI, 7, .inl (mof_ M))), (r 26, .inl (cI, 7, .inl (mfa_ M))), (r 30, .inl (cI, 12, .inl (mrw_ M))), (r 32, .inl (cI, 8, .inl (mhb_ M)))]) H := hP
        replace hD : va_D A ([(r 0, .inr (5, [.ref (r 1), .ref (r 2), .ref (r 3), .ref (r 4), .ref (r 5), .ref (r 6), .int (nI (sn_ B)), .int (qt_ B), .int (il_ B), .int (pa_ B), .int (ho_ B), .int (dy_ B), .ref (r 13), .ref (r 14), .ref (r 15), .ref (r 16), .int (nI (mtn_ M)), .int (nI (mrd_ M)), .int (nI (msm_ M)), .ref (r 20), .int (mhi_ M), .int (0), .int (nI (41 * 2 + 41)), .int (nI (mbk_ M)), .ref (r 25), .ref (r 26), .int (mlw_ M), .int (mhg_ M), .int (msl_ M), .ref (r 30), .int (nI (mrm_ M)), .ref (r 32), .int (mlo_ M)])), (r 1, .inl (cI, 7, .inl (mrf_ M))), (r 2, .inl (cI, 7, .inl (kd_ B))), (r 3, .inl (cI, 7, .inl (fg_ B))), (r 4, .inl (cI, 7, .inl (pl_ B))), (r 5, .inl (cI, 7, .inl (pw_ B))), (r 6, .inl (cI, 7, .inl (jy_ B))), (r 13, .inl (cI, 96, .inl (mtp_ M))), (r 14, .inl (cI, 48, .inl (mlt_ M))), (r 15, .inl (cI, 48, .inl (mla_ M))), (r 16, .inl (cI, 144, .inl (mtd_ M))), (r 20, .inl (cI, 451, .inl (flatK (va_up (mkp_ M) 2 B)))), (r 25, .inl (cI, 7, .inl (mof_ M))), (r 26, .inl (cI, 7, .inl (mfa_ M))), (r 30, .inl (cI, 12, .inl (mrw_ M))), (r 32, .inl (cI, 8, .inl (mhb_ M)))]) := hD
        refine lv_iload hx hb dX5_ring_84 (lv_at hl 0 rfl) ?_
        refine rMi hx hb hr hlk hS (mkM (mrf_ M) (mtp_ M) (mlt_ M) (mla_ M) (mtd_ M) (va_up (mkp_ M) 2 B) (mof_ M) (mfa_ M) (mrw_ M) (mhb_ M) (mtn_ M) (mrd_ M) (msm_ M) (41 * 2 + 41) (mbk_ M) (mrm_ M) (mhi_ M) 0 (mlw_ M) (mhg_ M) (msl_ M) (mlo_ M)) hP ?_ dX5_ring_86
        first | exact ⟨(if_neg c_6).symm, oQ_n _ _⟩ | (refine ⟨?_, oQ_0 c_6 ?_⟩; · (rw [if_pos c_6]; simp only [tn_n (show v_ < 2147483648 by omega)]; rw [← rg_eq (bI_hs hI _)]; unfold rgX_; rw [show hs_ 48 (hs_ v_ B) = hs_ 24 (hs_ 24 (hs_ v_ B)) from (hs_hs 24 (hs_ v_ B) 24).symm]; first | (rw [if_pos c_40]; done) | (rw [if_neg c_40, if_pos c_68]; done) | (rw [if_neg c_40, if_neg c_68]; done)); · (first | exact (oN_mk (by assumption)).m | exact oM_.rf _ | exact (oN_pp _ _).m | exact (oN_fo _ _ _ _).m | assumption | (apply oN_.m; assumption) | exact oM_.tr (by assumption) (by assumption)))
    · skip
      refine lv_bipush (v := 24) hx hb dX5_ring_43 (by decide) ?_
      refine lv_goto (tgt := 50) hx hb dX5_ring_45 (by decide) ?_
      refine lv_istore (lv' := [(4, .int 24), (3, .int (il_ (hs_ v_ B))), (2, .int (ob_ (nI v_) 0 99)), (0, .ref (r 0)), (1, .int (nI v_))]) hx hb dX5_ring_50 hl (by decide) rfl (fun ls hl => ?_)
      refine lv_aload_n hx hb dX5_ring_52 rfl (lv_at hl 3 rfl) ?_
      refine lv_bipush (v := 24) hx hb dX5_ring_53 (by decide) ?_
      refine kMvV hx hb hml hown hts hK hP hD hA hS gX5_ring_X5_goes okX5_goes (qX5_goes l D cI cB r (hs_ 24 (hs_ v_ B)) (mkM (mrf_ M) (mtp_ M) (mlt_ M) (mla_ M) (mtd_ M) (va_up (mkp_ M) 2 B) (mof_ M) (mfa_ M) (mrw_ M) (mhb_ M) (mtn_ M) (mrd_ M) (msm_ M) (41 * 2 + 41) (mbk_ M) (mrm_ M) (mhi_ M) 1 (mlw_ M) (mhg_ M) (msl_ M) (mlo_ M)) 24 (bI_hs (bI_hs hI _) _) (by decide)) [0, 1, 2, 3, 4, 5, 6, 7, 8, 9, 10, 11, 12, 13, 14, 15] rfl (by decide) (fun _ => mW_adr _ _ _ _ _ _) rfl rfl rfl (by decide) hl.1 rfl rfl (Nat.le_of_ble_eq_true rfl) dX5_ring_55 (by decide) (fun u_22 H locs hw_23 hP hD hS => ?_)
      replace hw_23 : u_22 = hs_ 24 (hs_ 24 (hs_ v_ B)) := hw_23
      subst u_22
      replace hP : va_P D vwCl ([(r 0, .inr (5, [.ref (r 1), .ref (r 2), .ref (r 3), .ref (r 4), .ref (r 5), .ref (r 6), .int (nI (sn_ (hs_ 24 (hs_ 24 (hs_ v_ B))))), .int (qt_ (hs_ 24 (hs_ 24 (hs_ v_ B)))), .int (il_ (hs_ 24 (hs_ 24 (hs_ v_ B)))), .int (pa_ (hs_ 24 (hs_ 24 (hs_ v_ B)))), .int (ho_ (hs_ 24 (hs_ 24 (hs_ v_ B)))), .int (dy_ (hs_ 24 (hs_ 24 (hs_ v_ B)))), .ref (r 13), .ref (r 14), .ref (r 15), .ref (r 16), .int (nI (mtn_ M)), .int (nI (mrd_ M)), .int (nI (msm_ M)), .ref (r 20), .int (mhi_ M), .int (1), .int (nI (41 * 2 + 41)), .int (nI (mbk_ M)), .ref (r 25), .ref (r 26), .int (mlw_ M), .int (mhg_ M), .int (msl_ M), .ref (r 30), .int (nI (mrm_ M)), .ref (r 32), .int (mlo_ M)])), (r 1, .inl (cI, 7, .inl (mrf_ M))), (r 2, .inl (cI, 7, .inl (kd_ (hs_ 24 (hs_ 24 (hs_ v_ B)))))), (r 3, .inl (cI, 7, .inl (fg_ (hs_ 24 (hs_ 24 (hs_ v_ B)))))), (r 4, .inl (cI, 7, .inl (pl_ (hs_ 24 (hs_ 24 (hs_ v_ B)))))), (r 5, .inl (cI, 7, .inl (pw_ (hs_ 24 (hs_ 24 (hs_ v_ B)))))), (r 6, .inl (cI, 7, .inl (jy_ (hs_ 24 (hs_ 24 (hs_ v_ B)))))), (r 13, .inl (cI, 96, .inl (mtp_ M))), (r 14, .inl (cI, 48, .inl (mlt_ M))), (r 15, .inl (cI, 48, .inl (mla_ M))), (r 16, .inl (cI, 144, .inl (mtd_ M))), (r 20, .inl (cI, 451, .inl (flatK (va_up (mkp_ M) 2 B)))), (r 25, .inl (cI, 7, .inl (mof_ M))), (r 26, .inl (cI, 7, .inl (mfa_ M))), (r 30, .inl (cI, 12, .inl (mrw_ M))), (r 32, .inl (cI, 8, .inl (mhb_ M)))]) H := hP
      replace hD : va_D A ([(r 0, .inr (5, [.ref (r 1), .ref (r 2), .ref (r 3), .ref (r 4), .ref (r 5), .ref (r 6), .int (nI (sn_ (hs_ 24 (hs_ 24 (hs_ v_ B))))), .int (qt_ (hs_ 24 (hs_ 24 (hs_ v_ B)))), .int (il_ (hs_ 24 (hs_ 24 (hs_ v_ B)))), .int (pa_ (hs_ 24 (hs_ 24 (hs_ v_ B)))), .int (ho_ (hs_ 24 (hs_ 24 (hs_ v_ B)))), .int (dy_ (hs_ 24 (hs_ 24 (hs_ v_ B)))), .ref (r 13), .ref (r 14), .ref (r 15), .ref (r 16), .int (nI (mtn_ M)), .int (nI (mrd_ M)), .int (nI (msm_ M)), .ref (r 20), .int (mhi_ M), .int (1), .int (nI (41 * 2 + 41)), .int (nI (mbk_ M)), .ref (r 25), .ref (r 26), .int (mlw_ M), .int (mhg_ M), .int (msl_ M), .ref (r 30), .int (nI (mrm_ M)), .ref (r 32), .int (mlo_ M)])), (r 1, .inl (cI, 7, .inl (mrf_ M))), (r 2, .inl (cI, 7, .inl (kd_ (hs_ 24 (hs_ 24 (hs_ v_ B)))))), (r 3, .inl (cI, 7, .inl (fg_ (hs_ 24 (hs_ 24 (hs_ v_ B)))))), (r 4, .inl (cI, 7, .inl (pl_ (hs_ 24 (hs_ 24 (hs_ v_ B)))))), (r 5, .inl (cI, 7, .inl (pw_ (hs_ 24 (hs_ 24 (hs_ v_ B)))))), (r 6, .inl (cI, 7, .inl (jy_ (hs_ 24 (hs_ 24 (hs_ v_ B)))))), (r 13, .inl (cI, 96, .inl (mtp_ M))), (r 14, .inl (cI, 48, .inl (mlt_ M))), (r 15, .inl (cI, 48, .inl (mla_ M))), (r 16, .inl (cI, 144, .inl (mtd_ M))), (r 20, .inl (cI, 451, .inl (flatK (va_up (mkp_ M) 2 B)))), (r 25, .inl (cI, 7, .inl (mof_ M))), (r 26, .inl (cI, 7, .inl (mfa_ M))), (r 30, .inl (cI, 12, .inl (mrw_ M))), (r 32, .inl (cI, 8, .inl (mhb_ M)))]) := hD
      refine lv_iload hx hb dX5_ring_58 (lv_at hl 0 rfl) ?_
      refine lv_if_ge (tgt := 76) hx hb dX5_ring_60 (by decide) (fun _ => ?_) (fun q => absurd q (by decide))
      refine lv_iload hx hb dX5_ring_76 (lv_at hl 0 rfl) ?_
      refine lv_istore (lv' := [(4, .int 24), (3, .int (il_ (hs_ v_ B))), (2, .int (ob_ (nI v_) 0 99)), (0, .ref (r 0)), (1, .int (nI v_))]) hx hb dX5_ring_78 hl (by decide) rfl (fun ls hl => ?_)
      refine lv_aload_n hx hb dX5_ring_80 rfl (lv_at hl 3 rfl) ?_
      refine kMvV hx hb hml hown hts hK hP hD hA hS gX5_ring_X5_forgets okX5_forgets (qX5_forgetsE l D cI cB r (hs_ 24 (hs_ 24 (hs_ v_ B))) (mkM (mrf_ M) (mtp_ M) (mlt_ M) (mla_ M) (mtd_ M) (va_up (mkp_ M) 2 B) (mof_ M) (mfa_ M) (mrw_ M) (mhb_ M) (mtn_ M) (mrd_ M) (msm_ M) (41 * 2 + 41) (mbk_ M) (mrm_ M) (mhi_ M) 1 (mlw_ M) (mhg_ M) (msl_ M) (mlo_ M)) ) [0, 1, 2, 3, 4, 5, 6, 7, 8, 9, 10, 11, 12, 13, 14, 15] rfl (by decide) (fun _ => mW_adE rfl) rfl rfl rfl (by decide) hl.1 rfl rfl (Nat.le_of_ble_eq_true rfl) dX5_ring_81 (by decide) (fun u_25 H locs hw_26 hP hD hS => ?_)
      replace hP : va_P D vwCl ([(r 0, .inr (5, [.ref (r 1), .ref (r 2), .ref (r 3), .ref (r 4), .ref (r 5), .ref (r 6), .int (nI (sn_ B)), .int (qt_ B), .int (il_ B), .int (pa_ B), .int (ho_ B), .int (dy_ B), .ref (r 13), .ref (r 14), .ref (r 15), .ref (r 16), .int (nI (mtn_ M)), .int (nI (mrd_ M)), .int (nI (msm_ M)), .ref (r 20), .int (mhi_ M), .int (0), .int (nI (41 * 2 + 41)), .int (nI (mbk_ M)), .ref (r 25), .ref (r 26), .int (mlw_ M), .int (mhg_ M), .int (msl_ M), .ref (r 30), .int (nI (mrm_ M)), .ref (r 32), .int (mlo_ M)])), (r 1, .inl (cI, 7, .inl (mrf_ M))), (r 2, .inl (cI, 7, .inl (kd_ B))), (r 3, .inl (cI, 7, .inl (fg_ B))), (r 4, .inl (cI, 7, .inl (pl_ B))), (r 5, .inl (cI, 7, .inl (pw_ B))), (r 6, .inl (cI, 7, .inl (jy_ B))), (r 13, .inl (cI, 96, .inl (mtp_ M))), (r 14, .inl (cI, 48, .inl (mlt_ M))), (r 15, .inl (cI, 48, .inl (mla_ M))), (r 16, .inl (cI, 144, .inl (mtd_ M))), (r 20, .inl (cI, 451, .inl (flatK (va_up (mkp_ M) 2 B)))), (r 25, .inl (cI, 7, .inl (mof_ M))), (r 26, .inl (cI, 7, .inl (mfa_ M))), (r 30, .inl (cI, 12, .inl (mrw_ M))), (r 32, .inl (cI, 8, .inl (mhb_ M)))]) H := hP
      replace hD : va_D A ([(r 0, .inr (5, [.ref (r 1), .ref (r 2), .ref (r 3), .ref (r 4), .ref (r 5), .ref (r 6), .int (nI (sn_ B)), .int (qt_ B), .int (il_ B), .int (pa_ B), .int (ho_ B), .int (dy_ B), .ref (r 13), .ref (r 14), .ref (r 15), .ref (r 16), .int (nI (mtn_ M)), .int (nI (mrd_ M)), .int (nI (msm_ M)), .ref (r 20), .int (mhi_ M), .int (0), .int (nI (41 * 2 + 41)), .int (nI (mbk_ M)), .ref (r 25), .ref (r 26), .int (mlw_ M), .int (mhg_ M), .int (msl_ M), .ref (r 30), .int (nI (mrm_ M)), .ref (r 32), .int (mlo_ M)])), (r 1, .inl (cI, 7, .inl (mrf_ M))), (r 2, .inl (cI, 7, .inl (kd_ B))), (r 3, .inl (cI, 7, .inl (fg_ B))), (r 4, .inl (cI, 7, .inl (pl_ B))), (r 5, .inl (cI, 7, .inl (pw_ B))), (r 6, .inl (cI, 7, .inl (jy_ B))), (r 13, .inl (cI, 96, .inl (mtp_ M))), (r 14, .inl (cI, 48, .inl (mlt_ M))), (r 15, .inl (cI, 48, .inl (mla_ M))), (r 16, .inl (cI, 144, .inl (mtd_ M))), (r 20, .inl (cI, 451, .inl (flatK (va_up (mkp_ M) 2 B)))), (r 25, .inl (cI, 7, .inl (mof_ M))), (r 26, .inl (cI, 7, .inl (mfa_ M))), (r 30, .inl (cI, 12, .inl (mrw_ M))), (r 32, .inl (cI, 8, .inl (mhb_ M)))]) := hD
      refine lv_iload hx hb dX5_ring_84 (lv_at hl 0 rfl) ?_
      refine rMi hx hb hr hlk hS (mkM (mrf_ M) (mtp_ M) (mlt_ M) (mla_ M) (mtd_ M) (va_up (mkp_ M) 2 B) (mof_ M) (mfa_ M) (mrw_ M) (mhb_ M) (mtn_ M) (mrd_ M) (msm_ M) (41 * 2 + 41) (mbk_ M) (mrm_ M) (mhi_ M) 0 (mlw_ M) (mhg_ M) (msl_ M) (mlo_ M)) hP ?_ dX5_ring_86
      first | exact ⟨(if_neg c_6).symm, oQ_n _ _⟩ | (refine ⟨?_, oQ_0 c_6 ?_⟩; · (rw [if_pos c_6]; simp only [tn_n (show v_ < 2147483648 by omega)]; rw [← rg_eq (bI_hs hI _)]; unfold rgX_; rw [show hs_ 48 (hs_ v_ B) = hs_ 24 (hs_ 24 (hs_ v_ B)) from (hs_hs 24 (hs_ v_ B) 24).symm]; first | (rw [if_pos c_40]; done) | (rw [if_neg c_40, if_pos c_68]; done) | (rw [if_neg c_40, if_neg c_68]; done)); · (first | exact (oN_mk (by assumption)).m | exact oM_.rf _ | exact (oN_pp _ _).m | exact (oN_fo _ _ _ _).m | assumption | (apply oN_.m; assumption) | exact oM_.tr (by assumption) (by assumption)))
  · skip
    refine lv_aload_n hx hb dX5_ring_9 rfl (lv_at hl 1 rfl) ?_
    refine lv_iload_n hx hb dX5_ring_10 rfl (lv_at hl 0 rfl) ?_
    refine kMiV hx hb hml hown hts hK hP hD hA hS gX5_ring_X5_no okX5_no (qX5_no l D cI cB r B M (ob_ v 0 99) (rc0_n (by first | exact rc0_wS _ _ | exact rc0_wSN _ _ _ | exact rc0_wSNW _ _ _ _ | exact rc0_wNW _ _ | exact rc0_wTh _ _ _ _ _ | exact rc0_wTr _ _ _ _ | exact rc0_nb _ _ | exact rc0_uk _ _ | exact rc0_ob _ _ _ | exact rc0_f2 (rc0_nb _ _) (rc0_nb _ _) | exact rc0_f2 (rc0_nb _ _) (rc0_uk _ _) | exact rc0_f2 (rc0_ob _ _ _) (rc0_uk _ _) | exact rc0_f2 (rc0_uk _ _) (rc0_f2 (rc0_uk _ _) (rc0_ob _ _ _))) c_6)) [0, 1, 2, 3, 4, 5, 6, 7, 8, 9, 10, 11, 12, 13, 14, 15] rfl (by decide) (fun _ => mW_adr _ _ _ _ _ _) rfl rfl rfl (by decide) hl.1 rfl rfl (Nat.le_of_ble_eq_true rfl) dX5_ring_11 (by decide) (fun r_27 u_28 H locs hw_29 hP hD hS => ?_)
    replace hw_29 : r_27 = ob_ v 0 99 ∧ u_28 = (rfm_ M (ob_ v 0 99)) := hw_29
    obtain ⟨hw_29a, hw_29b⟩ := hw_29
    subst r_27
    subst u_28
    replace hP : va_P D vwCl ([(r 0, .inr (5, [.ref (r 1), .ref (r 2), .ref (r 3), .ref (r 4), .ref (r 5), .ref (r 6), .int (nI (sn_ B)), .int (qt_ B), .int (il_ B), .int (pa_ B), .int (ho_ B), .int (dy_ B), .ref (r 13), .ref (r 14), .ref (r 15), .ref (r 16), .int (nI (mtn_ M)), .int (nI (mrd_ M)), .int (nI (msm_ M)), .ref (r 20), .int (mhi_ M), .int (mik_ M), .int (nI (mcu_ M)), .int (nI (mbk_ M)), .ref (r 25), .ref (r 26), .int (mlw_ M), .int (mhg_ M), .int (msl_ M), .ref (r 30), .int (nI (mrm_ M)), .ref (r 32), .int (mlo_ M)])), (r 1, .inl (cI, 7, .inl (rfx_ (mrf_ M) (ob_ v 0 99)))), (r 2, .inl (cI, 7, .inl (kd_ B))), (r 3, .inl (cI, 7, .inl (fg_ B))), (r 4, .inl (cI, 7, .inl (pl_ B))), (r 5, .inl (cI, 7, .inl (pw_ B))), (r 6, .inl (cI, 7, .inl (jy_ B))), (r 13, .inl (cI, 96, .inl (mtp_ M))), (r 14, .inl (cI, 48, .inl (mlt_ M))), (r 15, .inl (cI, 48, .inl (mla_ M))), (r 16, .inl (cI, 144, .inl (mtd_ M))), (r 20, .inl (cI, 451, .inl (flatK (mkp_ M)))), (r 25, .inl (cI, 7, .inl (mof_ M))), (r 26, .inl (cI, 7, .inl (mfa_ M))), (r 30, .inl (cI, 12, .inl (mrw_ M))), (r 32, .inl (cI, 8, .inl (mhb_ M)))]) H := hP
    replace hD : va_D A ([(r 0, .inr (5, [.ref (r 1), .ref (r 2), .ref (r 3), .ref (r 4), .ref (r 5), .ref (r 6), .int (nI (sn_ B)), .int (qt_ B), .int (il_ B), .int (pa_ B), .int (ho_ B), .int (dy_ B), .ref (r 13), .ref (r 14), .ref (r 15), .ref (r 16), .int (nI (mtn_ M)), .int (nI (mrd_ M)), .int (nI (msm_ M)), .ref (r 20), .int (mhi_ M), .int (mik_ M), .int (nI (mcu_ M)), .int (nI (mbk_ M)), .ref (r 25), .ref (r 26), .int (mlw_ M), .int (mhg_ M), .int (msl_ M), .ref (r 30), .int (nI (mrm_ M)), .ref (r 32), .int (mlo_ M)])), (r 1, .inl (cI, 7, .inl (rfx_ (mrf_ M) (ob_ v 0 99)))), (r 2, .inl (cI, 7, .inl (kd_ B))), (r 3, .inl (cI, 7, .inl (fg_ B))), (r 4, .inl (cI, 7, .inl (pl_ B))), (r 5, .inl (cI, 7, .inl (pw_ B))), (r 6, .inl (cI, 7, .inl (jy_ B))), (r 13, .inl (cI, 96, .inl (mtp_ M))), (r 14, .inl (cI, 48, .inl (mlt_ M))), (r 15, .inl (cI, 48, .inl (mla_ M))), (r 16, .inl (cI, 144, .inl (mtd_ M))), (r 20, .inl (cI, 451, .inl (flatK (mkp_ M)))), (r 25, .inl (cI, 7, .inl (mof_ M))), (r 26, .inl (cI, 7, .inl (mfa_ M))), (r 30, .inl (cI, 12, .inl (mrw_ M))), (r 32, .inl (cI, 8, .inl (mhb_ M)))]) := hD
    refine rMi hx hb hr hlk hS (rfm_ M (ob_ v 0 99)) hP ?_ dX5_ring_14
    first | exact ⟨(if_neg c_6).symm, oQ_n _ _⟩ | (refine ⟨?_, oQ_0 c_6 ?_⟩; · (rw [if_pos c_6]; simp only [tn_n (show v_ < 2147483648 by omega)]; rw [← rg_eq (bI_hs hI _)]; unfold rgX_; rw [show hs_ 48 (hs_ v_ B) = hs_ 24 (hs_ 24 (hs_ v_ B)) from (hs_hs 24 (hs_ v_ B) 24).symm]; first | (rw [if_pos c_40]; done) | (rw [if_neg c_40, if_pos c_68]; done) | (rw [if_neg c_40, if_neg c_68]; done)); · (first | exact (oN_mk (by assumption)).m | exact oM_.rf _ | exact (oN_pp _ _).m | exact (oN_fo _ _ _ _).m | assumption | (apply oN_.m; assumption) | exact oM_.tr (by assumption) (by assumption)))

theorem okX5_row : jok yX5_row wsX5_row cX5_row 3 (some .int) 1 := ⟨⟨_, rfl⟩, by decide +kernel, by decide +kernel⟩
set_option maxHeartbeats 2000000 in
set_option maxRecDepth 100000 in
theorem qX5_row (l : Launch) (D : va_G) (cI cB : ClassId) (r : Nat → Nat) (B : BayT) (M : MT) (v : Int32) (hrm : mrm_ M ≤ 12) : jMi D cI cB l yX5_row wsX5_row 1 [.ref (r 0), .int v] (mW cI r B M) (S := MT) (fun r u => (f2_ (ob_ v 0 99) (if 12 ≤ mrm_ M then -6 else 0) = 0 ∧ r = nI (mrm_ M + 1) ∧ u = urw_ M v) ∨ (¬ f2_ (ob_ v 0 99) (if 12 ≤ mrm_ M then -6 else 0) = 0 ∧ r = f2_ (ob_ v 0 99) (if 12 ≤ mrm_ M then -6 else 0) ∧ u = rfm_ M (f2_ (ob_ v 0 99) (if 12 ≤ mrm_ M then -6 else 0)))) (fun u => mW cI r B u) := by
  refine jMi.of (cc := cX5_row) (maxL := 3) (ret := (some .int)) okX5_row (Nat.le_of_ble_eq_true rfl) ?_
  intro p e s m below meth c ls A hx hb hr hts hown hlk hml hP hK hD hA hS hl
  replace hown : s.vm.findClass RX5 = some m.cls := hown
  replace hl : lv_has ls 3 [(0, .ref (r 0)), (1, .int v)] := hl
  have hinX5 : ∀ w ∈ wsX50, w ∈ wsX5_row := by decide +kernel
  refine lv_iload_n hx hb dX5_row_0 rfl (lv_at hl 1 rfl) ?_
  refine lv_iconst (v := 0) hx hb dX5_row_1 (by decide) ?_
  refine lv_bipush (v := 99) hx hb dX5_row_2 (by decide) ?_
  refine kSiS hx hb hml hown hts hK hP gX5_row_X5_bound okX5_bound (qX5_bound l D cI cB v 0 99 ) [] rfl (by decide) hl.1 rfl rfl (Nat.le_of_ble_eq_true rfl) dX5_row_4 (by decide) (fun r_1 hr_2 => ?_)
  replace hr_2 : r_1 = ob_ v 0 99 := hr_2
  subst r_1
  refine lv_istore_n (lv' := [(2, .int (ob_ v 0 99)), (0, .ref (r 0)), (1, .int v)]) hx hb dX5_row_7 rfl hl (by decide) rfl (fun ls hl => ?_)
  have jn_24 : ∀  (x2_24 : Int32) , (x2_24 = f2_ (ob_ v 0 99) (if 12 ≤ mrm_ M then -6 else 0)) → ∀ (H : Heap) (locs : List Loc), va_P D vwCl (mW cI r B M) H → va_D A (mW cI r B M) → va_S A s.heap H locs → ∀ ls : Array Slot, lv_has ls 3 [(2, .int x2_24), (0, .ref (r 0)), (1, .int v)] → W p l e (jR 1) s m ([.ref (r 0), .int v] : List Value).toArray below meth c H locs 0 0 (MQ below (va_Qi (S := MT) (fun r u => (f2_ (ob_ v 0 99) (if 12 ≤ mrm_ M then -6 else 0) = 0 ∧ r = nI (mrm_ M + 1) ∧ u = urw_ M v) ∨ (¬ f2_ (ob_ v 0 99) (if 12 ≤ mrm_ M then -6 else 0) = 0 ∧ r = f2_ (ob_ v 0 99) (if 12 ≤ mrm_ M then -6 else 0) ∧ u = rfm_ M (f2_ (ob_ v 0 99) (if 12 ≤ mrm_ M then -6 else 0)))) (fun u t => va_P D vwCl ((fun u => mW cI r B u) u) t.heap) A) ([.ref (r 0), .int v] : List Value).toArray s 0 0 A) (F0 m 24 ls []) := by
      intro x2_24 hx2_24 H locs hP hD hS ls hl
      subst x2_24
      replace hl : lv_has ls 3 [(2, .int (f2_ (ob_ v 0 99) (if 12 ≤ mrm_ M then -6 else 0))), (0, .ref (r 0)), (1, .int v)] := hl
      replace hP : va_P D vwCl (mW cI r B M) H := hP
      replace hD : va_D A (mW cI r B M) := hD
      refine lv_iload_n hx hb dX5_row_24 rfl (lv_at hl 0 rfl) ?_
      refine lv_if_eq (tgt := 34) hx hb dX5_row_25 (by decide) (fun c_25 => ?_) (fun c_25 => ?_)
      · skip
        have hf : mrm_ M < 12 := by
          rw [f2_0] at c_25
          by_cases z : 12 ≤ mrm_ M
          · rw [if_pos z] at c_25; exact absurd c_25.2 (by decide)
          · omega
        refine lv_aload_n hx hb dX5_row_34 rfl (lv_at hl 1 rfl) ?_
        refine va_get (ci := 5) (C := RX5) (T := TX5) (N := 33) hx hb hts hinX5 hown hK.1 hP 0 rfl rfl 29 (by decide) (hts _ (List.mem_of_getElem? (i := 2) rfl)) (fun _ h9 => h9) rfl dX5_row_35 ?_
        refine lv_aload_n hx hb dX5_row_38 rfl (lv_at hl 1 rfl) ?_
        refine va_get (ci := 5) (C := RX5) (T := TX5) (N := 33) hx hb hts hinX5 hown hK.1 hP 0 rfl rfl 30 (by decide) (hts _ (List.mem_of_getElem? (i := 1) rfl)) (fun _ h9 => h9) rfl dX5_row_39 ?_
        refine lv_iload_n hx hb dX5_row_42 rfl (lv_at hl 2 rfl) ?_
        refine jast hx hb hK.1 hP hD hS 14 0 (mrm_ M) rfl rfl rfl (by omega) (Nat.le_of_ble_eq_true rfl) dX5_row_43 (fun f_3 ef_3 H locs hP hD hS => ?_)
        replace ef_3 : f_3 = upd (mrw_ M) (mrm_ M) v := ef_3
        replace hP : va_P D vwCl ([(r 0, .inr (5, [.ref (r 1), .ref (r 2), .ref (r 3), .ref (r 4), .ref (r 5), .ref (r 6), .int (nI (sn_ B)), .int (qt_ B), .int (il_ B), .int (pa_ B), .int (ho_ B), .int (dy_ B), .ref (r 13), .ref (r 14), .ref (r 15), .ref (r 16), .int (nI (mtn_ M)), .int (nI (mrd_ M)), .int (nI (msm_ M)), .ref (r 20), .int (mhi_ M), .int (mik_ M), .int (nI (mcu_ M)), .int (nI (mbk_ M)), .ref (r 25), .ref (r 26), .int (mlw_ M), .int (mhg_ M), .int (msl_ M), .ref (r 30), .int (nI (mrm_ M)), .ref (r 32), .int (mlo_ M)])), (r 1, .inl (cI, 7, .inl (mrf_ M))), (r 2, .inl (cI, 7, .inl (kd_ B))), (r 3, .inl (cI, 7, .inl (fg_ B))), (r 4, .inl (cI, 7, .inl (pl_ B))), (r 5, .inl (cI, 7, .inl (pw_ B))), (r 6, .inl (cI, 7, .inl (jy_ B))), (r 13, .inl (cI, 96, .inl (mtp_ M))), (r 14, .inl (cI, 48, .inl (mlt_ M))), (r 15, .inl (cI, 48, .inl (mla_ M))), (r 16, .inl (cI, 144, .inl (mtd_ M))), (r 20, .inl (cI, 451, .inl (flatK (mkp_ M)))), (r 25, .inl (cI, 7, .inl (mof_ M))), (r 26, .inl (cI, 7, .inl (mfa_ M))), (r 30, .inl (cI, 12, .inl f_3)), (r 32, .inl (cI, 8, .inl (mhb_ M)))]) H := hP
        replace hD : va_D A ([(r 0, .inr (5, [.ref (r 1), .ref (r 2), .ref (r 3), .ref (r 4), .ref (r 5), .ref (r 6), .int (nI (sn_ B)), .int (qt_ B), .int (il_ B), .int (pa_ B), .int (ho_ B), .int (dy_ B), .ref (r 13), .ref (r 14), .ref (r 15), .ref (r 16), .int (nI (mtn_ M)), .int (nI (mrd_ M)), .int (nI (msm_ M)), .ref (r 20), .int (mhi_ M), .int (mik_ M), .int (nI (mcu_ M)), .int (nI (mbk_ M)), .ref (r 25), .ref (r 26), .int (mlw_ M), .int (mhg_ M), .int (msl_ M), .ref (r 30), .int (nI (mrm_ M)), .ref (r 32), .int (mlo_ M)])), (r 1, .inl (cI, 7, .inl (mrf_ M))), (r 2, .inl (cI, 7, .inl (kd_ B))), (r 3, .inl (cI, 7, .inl (fg_ B))), (r 4, .inl (cI, 7, .inl (pl_ B))), (r 5, .inl (cI, 7, .inl (pw_ B))), (r 6, .inl (cI, 7, .inl (jy_ B))), (r 13, .inl (cI, 96, .inl (mtp_ M))), (r 14, .inl (cI, 48, .inl (mlt_ M))), (r 15, .inl (cI, 48, .inl (mla_ M))), (r 16, .inl (cI, 144, .inl (mtd_ M))), (r 20, .inl (cI, 451, .inl (flatK (mkp_ M)))), (r 25, .inl (cI, 7, .inl (mof_ M))), (r 26, .inl (cI, 7, .inl (mfa_ M))), (r 30, .inl (cI, 12, .inl f_3)), (r 32, .inl (cI, 8, .inl (mhb_ M)))]) := hD
        refine lv_aload_n hx hb dX5_row_44 rfl (lv_at hl 1 rfl) ?_
        refine lv_dup hx hb dX5_row_45 rfl ?_
        refine va_get (ci := 5) (C := RX5) (T := TX5) (N := 33) hx hb hts hinX5 hown hK.1 hP 0 rfl rfl 30 (by decide) (hts _ (List.mem_of_getElem? (i := 1) rfl)) (fun _ h9 => h9) rfl dX5_row_46 ?_
        refine lv_iconst (v := 1) hx hb dX5_row_49 (by decide) ?_
        refine lv_iadd hx hb dX5_row_50 ?_
        refine sti (x := (nI (mrm_ M)) + 1) (y := nI (mrm_ M + 1)) (nI_1 _) ?_
        refine va_put (ci := 5) (ty := .int) (C := RX5) (T := TX5) (N := 33) hx hb hts hinX5 tyX5 tyX5_ok nmX5 hown hK.1 hP hD hS 0 rfl rfl 30 (by decide) (hts _ (List.mem_of_getElem? (i := 1) rfl)) (fun _ h9 => h9) rfl (by decide +kernel) (rfl) (rfl) (Nat.le_of_ble_eq_true rfl) dX5_row_51 (fun H locs hP hD hS => ?_)
        replace hP : va_P D vwCl ([(r 0, .inr (5, [.ref (r 1), .ref (r 2), .ref (r 3), .ref (r 4), .ref (r 5), .ref (r 6), .int (nI (sn_ B)), .int (qt_ B), .int (il_ B), .int (pa_ B), .int (ho_ B), .int (dy_ B), .ref (r 13), .ref (r 14), .ref (r 15), .ref (r 16), .int (nI (mtn_ M)), .int (nI (mrd_ M)), .int (nI (msm_ M)), .ref (r 20), .int (mhi_ M), .int (mik_ M), .int (nI (mcu_ M)), .int (nI (mbk_ M)), .ref (r 25), .ref (r 26), .int (mlw_ M), .int (mhg_ M), .int (msl_ M), .ref (r 30), .int (nI (mrm_ M + 1)), .ref (r 32), .int (mlo_ M)])), (r 1, .inl (cI, 7, .inl (mrf_ M))), (r 2, .inl (cI, 7, .inl (kd_ B))), (r 3, .inl (cI, 7, .inl (fg_ B))), (r 4, .inl (cI, 7, .inl (pl_ B))), (r 5, .inl (cI, 7, .inl (pw_ B))), (r 6, .inl (cI, 7, .inl (jy_ B))), (r 13, .inl (cI, 96, .inl (mtp_ M))), (r 14, .inl (cI, 48, .inl (mlt_ M))), (r 15, .inl (cI, 48, .inl (mla_ M))), (r 16, .inl (cI, 144, .inl (mtd_ M))), (r 20, .inl (cI, 451, .inl (flatK (mkp_ M)))), (r 25, .inl (cI, 7, .inl (mof_ M))), (r 26, .inl (cI, 7, .inl (mfa_ M))), (r 30, .inl (cI, 12, .inl f_3)), (r 32, .inl (cI, 8, .inl (mhb_ M)))]) H := hP
        replace hD : va_D A ([(r 0, .inr (5, [.ref (r 1), .ref (r 2), .ref (r 3), .ref (r 4), .ref (r 5), .ref (r 6), .int (nI (sn_ B)), .int (qt_ B), .int (il_ B), .int (pa_ B), .int (ho_ B), .int (dy_ B), .ref (r 13), .ref (r 14), .ref (r 15), .ref (r 16), .int (nI (mtn_ M)), .int (nI (mrd_ M)), .int (nI (msm_ M)), .ref (r 20), .int (mhi_ M), .int (mik_ M), .int (nI (mcu_ M)), .int (nI (mbk_ M)), .ref (r 25), .ref (r 26), .int (mlw_ M), .int (mhg_ M), .int (msl_ M), .ref (r 30), .int (nI (mrm_ M + 1)), .ref (r 32), .int (mlo_ M)])), (r 1, .inl (cI, 7, .inl (mrf_ M))), (r 2, .inl (cI, 7, .inl (kd_ B))), (r 3, .inl (cI, 7, .inl (fg_ B))), (r 4, .inl (cI, 7, .inl (pl_ B))), (r 5, .inl (cI, 7, .inl (pw_ B))), (r 6, .inl (cI, 7, .inl (jy_ B))), (r 13, .inl (cI, 96, .inl (mtp_ M))), (r 14, .inl (cI, 48, .inl (mlt_ M))), (r 15, .inl (cI, 48, .inl (mla_ M))), (r 16, .inl (cI, 144, .inl (mtd_ M))), (r 20, .inl (cI, 451, .inl (flatK (mkp_ M)))), (r 25, .inl (cI, 7, .inl (mof_ M))), (r 26, .inl (cI, 7, .inl (mfa_ M))), (r 30, .inl (cI, 12, .inl f_3)), (r 32, .inl (cI, 8, .inl (mhb_ M)))]) := hD
        refine lv_aload_n hx hb dX5_row_54 rfl (lv_at hl 1 rfl) ?_
        refine va_get (ci := 5) (C := RX5) (T := TX5) (N := 33) hx hb hts hinX5 hown hK.1 hP 0 rfl rfl 30 (by decide) (hts _ (List.mem_of_getElem? (i := 1) rfl)) (fun _ h9 => h9) rfl dX5_row_55 ?_
        (try rw [ef_3] at hP); (try rw [ef_3] at hD); (try rw [ef_3] at hl); (try rw [ef_3] at c_25); (try rw [ef_3])
        refine rMi hx hb hr hlk hS (mkM (mrf_ M) (mtp_ M) (mlt_ M) (mla_ M) (mtd_ M) (mkp_ M) (mof_ M) (mfa_ M) (upd (mrw_ M) (mrm_ M) v) (mhb_ M) (mtn_ M) (mrd_ M) (msm_ M) (mcu_ M) (mbk_ M) (mrm_ M + 1) (mhi_ M) (mik_ M) (mlw_ M) (mhg_ M) (msl_ M) (mlo_ M)) hP ?_ dX5_row_58
        first | exact Or.inr ⟨c_25, rfl, rfl⟩ | exact Or.inl ⟨c_25, rfl, rfl⟩
      · skip
        refine lv_aload_n hx hb dX5_row_28 rfl (lv_at hl 1 rfl) ?_
        refine lv_iload_n hx hb dX5_row_29 rfl (lv_at hl 0 rfl) ?_
        refine kMiV hx hb hml hown hts hK hP hD hA hS gX5_row_X5_no okX5_no (qX5_no l D cI cB r B M (f2_ (ob_ v 0 99) (if 12 ≤ mrm_ M then -6 else 0)) (rc0_n (rc0_f2 (rc0_ob _ _ _) (rc0_if (Or.inr (Or.inr (Or.inr (Or.inr (Or.inr rfl))))) (Or.inl rfl))) c_25)) [0, 1, 2, 3, 4, 5, 6, 7, 8, 9, 10, 11, 12, 13, 14, 15] rfl (by decide) (fun _ => mW_adr _ _ _ _ _ _) rfl rfl rfl (by decide) hl.1 rfl rfl (Nat.le_of_ble_eq_true rfl) dX5_row_30 (by decide) (fun r_4 u_5 H locs hw_6 hP hD hS => ?_)
        replace hw_6 : r_4 = f2_ (ob_ v 0 99) (if 12 ≤ mrm_ M then -6 else 0) ∧ u_5 = (rfm_ M (f2_ (ob_ v 0 99) (if 12 ≤ mrm_ M then -6 else 0))) := hw_6
        obtain ⟨hw_6a, hw_6b⟩ := hw_6
        subst r_4
        subst u_5
        replace hP : va_P D vwCl ([(r 0, .inr (5, [.ref (r 1), .ref (r 2), .ref (r 3), .ref (r 4), .ref (r 5), .ref (r 6), .int (nI (sn_ B)), .int (qt_ B), .int (il_ B), .int (pa_ B), .int (ho_ B), .int (dy_ B), .ref (r 13), .ref (r 14), .ref (r 15), .ref (r 16), .int (nI (mtn_ M)), .int (nI (mrd_ M)), .int (nI (msm_ M)), .ref (r 20), .int (mhi_ M), .int (mik_ M), .int (nI (mcu_ M)), .int (nI (mbk_ M)), .ref (r 25), .ref (r 26), .int (mlw_ M), .int (mhg_ M), .int (msl_ M), .ref (r 30), .int (nI (mrm_ M)), .ref (r 32), .int (mlo_ M)])), (r 1, .inl (cI, 7, .inl (rfx_ (mrf_ M) (f2_ (ob_ v 0 99) (if 12 ≤ mrm_ M then -6 else 0))))), (r 2, .inl (cI, 7, .inl (kd_ B))), (r 3, .inl (cI, 7, .inl (fg_ B))), (r 4, .inl (cI, 7, .inl (pl_ B))), (r 5, .inl (cI, 7, .inl (pw_ B))), (r 6, .inl (cI, 7, .inl (jy_ B))), (r 13, .inl (cI, 96, .inl (mtp_ M))), (r 14, .inl (cI, 48, .inl (mlt_ M))), (r 15, .inl (cI, 48, .inl (mla_ M))), (r 16, .inl (cI, 144, .inl (mtd_ M))), (r 20, .inl (cI, 451, .inl (flatK (mkp_ M)))), (r 25, .inl (cI, 7, .inl (mof_ M))), (r 26, .inl (cI, 7, .inl (mfa_ M))), (r 30, .inl (cI, 12, .inl (mrw_ M))), (r 32, .inl (cI, 8, .inl (mhb_ M)))]) H := hP
        replace hD : va_D A ([(r 0, .inr (5, [.ref (r 1), .ref (r 2), .ref (r 3), .ref (r 4), .ref (r 5), .ref (r 6), .int (nI (sn_ B)), .int (qt_ B), .int (il_ B), .int (pa_ B), .int (ho_ B), .int (dy_ B), .ref (r 13), .ref (r 14), .ref (r 15), .ref (r 16), .int (nI (mtn_ M)), .int (nI (mrd_ M)), .int (nI (msm_ M)), .ref (r 20), .int (mhi_ M), .int (mik_ M), .int (nI (mcu_ M)), .int (nI (mbk_ M)), .ref (r 25), .ref (r 26), .int (mlw_ M), .int (mhg_ M), .int (msl_ M), .ref (r 30), .int (nI (mrm_ M)), .ref (r 32), .int (mlo_ M)])), (r 1, .inl (cI, 7, .inl (rfx_ (mrf_ M) (f2_ (ob_ v 0 99) (if 12 ≤ mrm_ M then -6 else 0))))), (r 2, .inl (cI, 7, .inl (kd_ B))), (r 3, .inl (cI, 7, .inl (fg_ B))), (r 4, .inl (cI, 7, .inl (pl_ B))), (r 5, .inl (cI, 7, .inl (pw_ B))), (r 6, .inl (cI, 7, .inl (jy_ B))), (r 13, .inl (cI, 96, .inl (mtp_ M))), (r 14, .inl (cI, 48, .inl (mlt_ M))), (r 15, .inl (cI, 48, .inl (mla_ M))), (r 16, .inl (cI, 144, .inl (mtd_ M))), (r 20, .inl (cI, 451, .inl (flatK (mkp_ M)))), (r 25, .inl (cI, 7, .inl (mof_ M))), (r 26, .inl (cI, 7, .inl (mfa_ M))), (r 30, .inl (cI, 12, .inl (mrw_ M))), (r 32, .inl (cI, 8, .inl (mhb_ M)))]) := hD
        refine rMi hx hb hr hlk hS (rfm_ M (f2_ (ob_ v 0 99) (if 12 ≤ mrm_ M then -6 else 0))) hP ?_ dX5_row_33
        first | exact Or.inr ⟨c_25, rfl, rfl⟩ | exact Or.inl ⟨c_25, rfl, rfl⟩
  refine lv_iload_n hx hb dX5_row_8 rfl (lv_at hl 0 rfl) ?_
  refine lv_if_ne (tgt := 24) hx hb dX5_row_9 (by decide) (fun c_9 => ?_) (fun c_9 => ?_)
  · skip
    exact jn_24  (ob_ v 0 99)  (by first | exact (f2_a c_9).symm | exact (by rw [f2_b c_9, if_neg (by omega)]; exact c_9) | exact (by rw [f2_b c_9, if_pos (by omega)]))   _ _ hP hD hS ls (lv_sub hl [0, 1, 2] rfl)
  · skip
    refine lv_aload_n hx hb dX5_row_12 rfl (lv_at hl 1 rfl) ?_
    refine va_get (ci := 5) (C := RX5) (T := TX5) (N := 33) hx hb hts hinX5 hown hK.1 hP 0 rfl rfl 30 (by decide) (hts _ (List.mem_of_getElem? (i := 1) rfl)) (fun _ h9 => h9) rfl dX5_row_13 ?_
    refine lv_bipush (v := 12) hx hb dX5_row_16 (by decide) ?_
    refine lv_icmp_ne (tgt := 24) hx hb dX5_row_18 (by decide) (fun c_18 => ?_) (fun c_18 => ?_)
    · replace c_18 : ¬ nI (mrm_ M) = nI 12 := c_18
      rw [jeq (by omega) (by omega)] at c_18
      exact jn_24  (ob_ v 0 99)  (by first | exact (f2_a c_9).symm | exact (by rw [f2_b c_9, if_neg (by omega)]; exact c_9) | exact (by rw [f2_b c_9, if_pos (by omega)]))   _ _ hP hD hS ls (lv_sub hl [0, 1, 2] rfl)
    · replace c_18 : nI (mrm_ M) = nI 12 := c_18
      rw [jeq (by omega) (by omega)] at c_18
      refine lv_bipush (v := (-6)) hx hb dX5_row_21 (by decide) ?_
      refine lv_istore_n (lv' := [(2, .int (-6)), (0, .ref (r 0)), (1, .int v)]) hx hb dX5_row_23 rfl hl (by decide) rfl (fun ls hl => ?_)
      exact jn_24  (-6)  (by first | exact (f2_a c_9).symm | exact (by rw [f2_b c_9, if_neg (by omega)]; exact c_9) | exact (by rw [f2_b c_9, if_pos (by omega)]))   _ _ hP hD hS ls (lv_sub hl [0, 1, 2] rfl)

theorem okX5_clear : jok yX5_clear wsX5_clear cX5_clear 2 (some .int) 0 := ⟨⟨_, rfl⟩, by decide +kernel, by decide +kernel⟩
set_option maxHeartbeats 2000000 in
set_option maxRecDepth 100000 in
theorem qX5_clear (l : Launch) (D : va_G) (cI cB : ClassId) (r : Nat → Nat) (B : BayT) (M : MT)  : jMi D cI cB l yX5_clear wsX5_clear 0 [.ref (r 0)] (mW cI r B M) (S := MT) (fun r u => r = nI (mrm_ M) ∧ u = urm_ M 0) (fun u => mW cI r B u) := by
  refine jMi.of (cc := cX5_clear) (maxL := 2) (ret := (some .int)) okX5_clear (Nat.le_of_ble_eq_true rfl) ?_
  intro p e s m below meth c ls A hx hb hr hts hown hlk hml hP hK hD hA hS hl
  replace hown : s.vm.findClass RX5 = some m.cls := hown
  replace hl : lv_has ls 2 [(0, .ref (r 0))] := hl
  have hinX5 : ∀ w ∈ wsX50, w ∈ wsX5_clear := by decide +kernel
  refine lv_aload_n hx hb dX5_clear_0 rfl (lv_at hl 0 rfl) ?_
  refine va_get (ci := 5) (C := RX5) (T := TX5) (N := 33) hx hb hts hinX5 hown hK.1 hP 0 rfl rfl 30 (by decide) (hts _ (List.mem_of_getElem? (i := 1) rfl)) (fun _ h9 => h9) rfl dX5_clear_1 ?_
  refine lv_istore_n (lv' := [(1, .int (nI (mrm_ M))), (0, .ref (r 0))]) hx hb dX5_clear_4 rfl hl (by decide) rfl (fun ls hl => ?_)
  refine lv_aload_n hx hb dX5_clear_5 rfl (lv_at hl 1 rfl) ?_
  refine lv_iconst (v := 0) hx hb dX5_clear_6 (by decide) ?_
  refine sti (x := 0) (y := nI 0) (rfl) ?_
  refine va_put (ci := 5) (ty := .int) (C := RX5) (T := TX5) (N := 33) hx hb hts hinX5 tyX5 tyX5_ok nmX5 hown hK.1 hP hD hS 0 rfl rfl 30 (by decide) (hts _ (List.mem_of_getElem? (i := 1) rfl)) (fun _ h9 => h9) rfl (by decide +kernel) (rfl) (rfl) (Nat.le_of_ble_eq_true rfl) dX5_clear_7 (fun H locs hP hD hS => ?_)
  replace hP : va_P D vwCl ([(r 0, .inr (5, [.ref (r 1), .ref (r 2), .ref (r 3), .ref (r 4), .ref (r 5), .ref (r 6), .int (nI (sn_ B)), .int (qt_ B), .int (il_ B), .int (pa_ B), .int (ho_ B), .int (dy_ B), .ref (r 13), .ref (r 14), .ref (r 15), .ref (r 16), .int (nI (mtn_ M)), .int (nI (mrd_ M)), .int (nI (msm_ M)), .ref (r 20), .int (mhi_ M), .int (mik_ M), .int (nI (mcu_ M)), .int (nI (mbk_ M)), .ref (r 25), .ref (r 26), .int (mlw_ M), .int (mhg_ M), .int (msl_ M), .ref (r 30), .int (nI 0), .ref (r 32), .int (mlo_ M)])), (r 1, .inl (cI, 7, .inl (mrf_ M))), (r 2, .inl (cI, 7, .inl (kd_ B))), (r 3, .inl (cI, 7, .inl (fg_ B))), (r 4, .inl (cI, 7, .inl (pl_ B))), (r 5, .inl (cI, 7, .inl (pw_ B))), (r 6, .inl (cI, 7, .inl (jy_ B))), (r 13, .inl (cI, 96, .inl (mtp_ M))), (r 14, .inl (cI, 48, .inl (mlt_ M))), (r 15, .inl (cI, 48, .inl (mla_ M))), (r 16, .inl (cI, 144, .inl (mtd_ M))), (r 20, .inl (cI, 451, .inl (flatK (mkp_ M)))), (r 25, .inl (cI, 7, .inl (mof_ M))), (r 26, .inl (cI, 7, .inl (mfa_ M))), (r 30, .inl (cI, 12, .inl (mrw_ M))), (r 32, .inl (cI, 8, .inl (mhb_ M)))]) H := hP
  replace hD : va_D A ([(r 0, .inr (5, [.ref (r 1), .ref (r 2), .ref (r 3), .ref (r 4), .ref (r 5), .ref (r 6), .int (nI (sn_ B)), .int (qt_ B), .int (il_ B), .int (pa_ B), .int (ho_ B), .int (dy_ B), .ref (r 13), .ref (r 14), .ref (r 15), .ref (r 16), .int (nI (mtn_ M)), .int (nI (mrd_ M)), .int (nI (msm_ M)), .ref (r 20), .int (mhi_ M), .int (mik_ M), .int (nI (mcu_ M)), .int (nI (mbk_ M)), .ref (r 25), .ref (r 26), .int (mlw_ M), .int (mhg_ M), .int (msl_ M), .ref (r 30), .int (nI 0), .ref (r 32), .int (mlo_ M)])), (r 1, .inl (cI, 7, .inl (mrf_ M))), (r 2, .inl (cI, 7, .inl (kd_ B))), (r 3, .inl (cI, 7, .inl (fg_ B))), (r 4, .inl (cI, 7, .inl (pl_ B))), (r 5, .inl (cI, 7, .inl (pw_ B))), (r 6, .inl (cI, 7, .inl (jy_ B))), (r 13, .inl (cI, 96, .inl (mtp_ M))), (r 14, .inl (cI, 48, .inl (mlt_ M))), (r 15, .inl (cI, 48, .inl (mla_ M))), (r 16, .inl (cI, 144, .inl (mtd_ M))), (r 20, .inl (cI, 451, .inl (flatK (mkp_ M)))), (r 25, .inl (cI, 7, .inl (mof_ M))), (r 26, .inl (cI, 7, .inl (mfa_ M))), (r 30, .inl (cI, 12, .inl (mrw_ M))), (r 32, .inl (cI, 8, .inl (mhb_ M)))]) := hD
  refine lv_iload_n hx hb dX5_clear_10 rfl (lv_at hl 0 rfl) ?_
  refine rMi hx hb hr hlk hS (mkM (mrf_ M) (mtp_ M) (mlt_ M) (mla_ M) (mtd_ M) (mkp_ M) (mof_ M) (mfa_ M) (mrw_ M) (mhb_ M) (mtn_ M) (mrd_ M) (msm_ M) (mcu_ M) (mbk_ M) 0 (mhi_ M) (mik_ M) (mlw_ M) (mhg_ M) (msl_ M) (mlo_ M)) hP ?_ dX5_clear_11
  exact ⟨rfl, rfl⟩

theorem okX5_judge : jok yX5_judge wsX5_judge cX5_judge 5 (some .int) 0 := ⟨⟨_, rfl⟩, by decide +kernel, by decide +kernel⟩
set_option maxHeartbeats 2000000 in
set_option maxRecDepth 100000 in
theorem qX5_judge (l : Launch) (D : va_G) (cI cB : ClassId) (r : Nat → Nat) (B : BayT) (M : MT) (hI : bI_ B) (hrm : mrm_ M ≤ 12) : jMi D cI cB l yX5_judge wsX5_judge 6 [.ref (r 0)] (mW cI r B M) (S := MT) (fun r u => r = oI_ (fx_ (mrw_ M) B (mrm_ M) 0) ∧ oM_ (urm_ M 0) u) (fun u => mW cI r B u) := by
  refine jMi.of (cc := cX5_judge) (maxL := 5) (ret := (some .int)) okX5_judge (Nat.le_of_ble_eq_true rfl) ?_
  intro p e s m below meth c ls A hx hb hr hts hown hlk hml hP hK hD hA hS hl
  replace hown : s.vm.findClass RX5 = some m.cls := hown
  replace hl : lv_has ls 5 [(0, .ref (r 0))] := hl
  have hn7 := hI.1
  have hinX5 : ∀ w ∈ wsX50, w ∈ wsX5_judge := by decide +kernel
  refine lv_aload_n hx hb dX5_judge_0 rfl (lv_at hl 0 rfl) ?_
  refine va_get (ci := 5) (C := RX5) (T := TX5) (N := 33) hx hb hts hinX5 hown hK.1 hP 0 rfl rfl 30 (by decide) (hts _ (List.mem_of_getElem? (i := 1) rfl)) (fun _ h9 => h9) rfl dX5_judge_1 ?_
  refine lv_istore_n (lv' := [(1, .int (nI (mrm_ M))), (0, .ref (r 0))]) hx hb dX5_judge_4 rfl hl (by decide) rfl (fun ls hl => ?_)
  refine lv_aload_n hx hb dX5_judge_5 rfl (lv_at hl 1 rfl) ?_
  refine lv_iconst (v := 0) hx hb dX5_judge_6 (by decide) ?_
  refine sti (x := 0) (y := nI 0) (rfl) ?_
  refine va_put (ci := 5) (ty := .int) (C := RX5) (T := TX5) (N := 33) hx hb hts hinX5 tyX5 tyX5_ok nmX5 hown hK.1 hP hD hS 0 rfl rfl 30 (by decide) (hts _ (List.mem_of_getElem? (i := 1) rfl)) (fun _ h9 => h9) rfl (by decide +kernel) (rfl) (rfl) (Nat.le_of_ble_eq_true rfl) dX5_judge_7 (fun H locs hP hD hS => ?_)
  replace hP : va_P D vwCl ([(r 0, .inr (5, [.ref (r 1), .ref (r 2), .ref (r 3), .ref (r 4), .ref (r 5), .ref (r 6), .int (nI (sn_ B)), .int (qt_ B), .int (il_ B), .int (pa_ B), .int (ho_ B), .int (dy_ B), .ref (r 13), .ref (r 14), .ref (r 15), .ref (r 16), .int (nI (mtn_ M)), .int (nI (mrd_ M)), .int (nI (msm_ M)), .ref (r 20), .int (mhi_ M), .int (mik_ M), .int (nI (mcu_ M)), .int (nI (mbk_ M)), .ref (r 25), .ref (r 26), .int (mlw_ M), .int (mhg_ M), .int (msl_ M), .ref (r 30), .int (nI 0), .ref (r 32), .int (mlo_ M)])), (r 1, .inl (cI, 7, .inl (mrf_ M))), (r 2, .inl (cI, 7, .inl (kd_ B))), (r 3, .inl (cI, 7, .inl (fg_ B))), (r 4, .inl (cI, 7, .inl (pl_ B))), (r 5, .inl (cI, 7, .inl (pw_ B))), (r 6, .inl (cI, 7, .inl (jy_ B))), (r 13, .inl (cI, 96, .inl (mtp_ M))), (r 14, .inl (cI, 48, .inl (mlt_ M))), (r 15, .inl (cI, 48, .inl (mla_ M))), (r 16, .inl (cI, 144, .inl (mtd_ M))), (r 20, .inl (cI, 451, .inl (flatK (mkp_ M)))), (r 25, .inl (cI, 7, .inl (mof_ M))), (r 26, .inl (cI, 7, .inl (mfa_ M))), (r 30, .inl (cI, 12, .inl (mrw_ M))), (r 32, .inl (cI, 8, .inl (mhb_ M)))]) H := hP
  replace hD : va_D A ([(r 0, .inr (5, [.ref (r 1), .ref (r 2), .ref (r 3), .ref (r 4), .ref (r 5), .ref (r 6), .int (nI (sn_ B)), .int (qt_ B), .int (il_ B), .int (pa_ B), .int (ho_ B), .int (dy_ B), .ref (r 13), .ref (r 14), .ref (r 15), .ref (r 16), .int (nI (mtn_ M)), .int (nI (mrd_ M)), .int (nI (msm_ M)), .ref (r 20), .int (mhi_ M), .int (mik_ M), .int (nI (mcu_ M)), .int (nI (mbk_ M)), .ref (r 25), .ref (r 26), .int (mlw_ M), .int (mhg_ M), .int (msl_ M), .ref (r 30), .int (nI 0), .ref (r 32), .int (mlo_ M)])), (r 1, .inl (cI, 7, .inl (mrf_ M))), (r 2, .inl (cI, 7, .inl (kd_ B))), (r 3, .inl (cI, 7, .inl (fg_ B))), (r 4, .inl (cI, 7, .inl (pl_ B))), (r 5, .inl (cI, 7, .inl (pw_ B))), (r 6, .inl (cI, 7, .inl (jy_ B))), (r 13, .inl (cI, 96, .inl (mtp_ M))), (r 14, .inl (cI, 48, .inl (mlt_ M))), (r 15, .inl (cI, 48, .inl (mla_ M))), (r 16, .inl (cI, 144, .inl (mtd_ M))), (r 20, .inl (cI, 451, .inl (flatK (mkp_ M)))), (r 25, .inl (cI, 7, .inl (mof_ M))), (r 26, .inl (cI, 7, .inl (mfa_ M))), (r 30, .inl (cI, 12, .inl (mrw_ M))), (r 32, .inl (cI, 8, .inl (mhb_ M)))]) := hD
  replace hP : va_P D vwCl ([(r 0, .inr (5, [.ref (r 1), .ref (r 2), .ref (r 3), .ref (r 4), .ref (r 5), .ref (r 6), .int (nI (sn_ B)), .int (qt_ B), .int (il_ B), .int (pa_ B), .int (ho_ B), .int (dy_ B), .ref (r 13), .ref (r 14), .ref (r 15), .ref (r 16), .int (nI (mtn_ M)), .int (nI (mrd_ M)), .int (nI (msm_ M)), .ref (r 20), .int (mhi_ M), .int (mik_ M), .int (nI (mcu_ M)), .int (nI (mbk_ M)), .ref (r 25), .ref (r 26), .int (mlw_ M), .int (mhg_ M), .int (msl_ M), .ref (r 30), .int (nI 0), .ref (r 32), .int (mlo_ M)])), (r 1, .inl (cI, 7, .inl (mrf_ M))), (r 2, .inl (cI, 7, .inl (kd_ B))), (r 3, .inl (cI, 7, .inl (fg_ B))), (r 4, .inl (cI, 7, .inl (pl_ B))), (r 5, .inl (cI, 7, .inl (pw_ B))), (r 6, .inl (cI, 7, .inl (jy_ B))), (r 13, .inl (cI, 96, .inl (mtp_ M))), (r 14, .inl (cI, 48, .inl (mlt_ M))), (r 15, .inl (cI, 48, .inl (mla_ M))), (r 16, .inl (cI, 144, .inl (mtd_ M))), (r 20, .inl (cI, 451, .inl (flatK (mkp_ M)))), (r 25, .inl (cI, 7, .inl (mof_ M))), (r 26, .inl (cI, 7, .inl (mfa_ M))), (r 30, .inl (cI, 12, .inl (mrw_ M))), (r 32, .inl (cI, 8, .inl (mhb_ M)))]) H := hP
  replace hD : va_D A ([(r 0, .inr (5, [.ref (r 1), .ref (r 2), .ref (r 3), .ref (r 4), .ref (r 5), .ref (r 6), .int (nI (sn_ B)), .int (qt_ B), .int (il_ B), .int (pa_ B), .int (ho_ B), .int (dy_ B), .ref (r 13), .ref (r 14), .ref (r 15), .ref (r 16), .int (nI (mtn_ M)), .int (nI (mrd_ M)), .int (nI (msm_ M)), .ref (r 20), .int (mhi_ M), .int (mik_ M), .int (nI (mcu_ M)), .int (nI (mbk_ M)), .ref (r 25), .ref (r 26), .int (mlw_ M), .int (mhg_ M), .int (msl_ M), .ref (r 30), .int (nI 0), .ref (r 32), .int (mlo_ M)])), (r 1, .inl (cI, 7, .inl (mrf_ M))), (r 2, .inl (cI, 7, .inl (kd_ B))), (r 3, .inl (cI, 7, .inl (fg_ B))), (r 4, .inl (cI, 7, .inl (pl_ B))), (r 5, .inl (cI, 7, .inl (pw_ B))), (r 6, .inl (cI, 7, .inl (jy_ B))), (r 13, .inl (cI, 96, .inl (mtp_ M))), (r 14, .inl (cI, 48, .inl (mlt_ M))), (r 15, .inl (cI, 48, .inl (mla_ M))), (r 16, .inl (cI, 144, .inl (mtd_ M))), (r 20, .inl (cI, 451, .inl (flatK (mkp_ M)))), (r 25, .inl (cI, 7, .inl (mof_ M))), (r 26, .inl (cI, 7, .inl (mfa_ M))), (r 30, .inl (cI, 12, .inl (mrw_ M))), (r 32, .inl (cI, 8, .inl (mhb_ M)))]) := hD
  refine lv_aload_n hx hb dX5_judge_10 rfl (lv_at hl 1 rfl) ?_
  refine kMvV hx hb hml hown hts hK hP hD hA hS gX5_judge_X5_thinks okX5_thinks (qX5_thinksE l D cI cB r B (urm_ M 0) ) [0, 1, 2, 3, 4, 5, 6, 7, 8, 9, 10, 11, 12, 13, 14, 15] rfl (by decide) (fun _ => mW_adE rfl) rfl rfl rfl (by decide) hl.1 rfl rfl (Nat.le_of_ble_eq_true rfl) dX5_judge_11 (by decide) (fun u_2 H locs hw_3 hP hD hS => ?_)
  replace hP : va_P D vwCl ([(r 0, .inr (5, [.ref (r 1), .ref (r 2), .ref (r 3), .ref (r 4), .ref (r 5), .ref (r 6), .int (nI (sn_ B)), .int (qt_ B), .int (il_ B), .int (pa_ B), .int (ho_ B), .int (dy_ B), .ref (r 13), .ref (r 14), .ref (r 15), .ref (r 16), .int (nI (mtn_ M)), .int (nI (mrd_ M)), .int (nI (msm_ M)), .ref (r 20), .int (mhi_ M), .int (1), .int (nI (41 * 2 + 41)), .int (nI (mbk_ M)), .ref (r 25), .ref (r 26), .int (mlw_ M), .int (mhg_ M), .int (msl_ M), .ref (r 30), .int (nI 0), .ref (r 32), .int (mlo_ M)])), (r 1, .inl (cI, 7, .inl (mrf_ M))), (r 2, .inl (cI, 7, .inl (kd_ B))), (r 3, .inl (cI, 7, .inl (fg_ B))), (r 4, .inl (cI, 7, .inl (pl_ B))), (r 5, .inl (cI, 7, .inl (pw_ B))), (r 6, .inl (cI, 7, .inl (jy_ B))), (r 13, .inl (cI, 96, .inl (mtp_ M))), (r 14, .inl (cI, 48, .inl (mlt_ M))), (r 15, .inl (cI, 48, .inl (mla_ M))), (r 16, .inl (cI, 144, .inl (mtd_ M))), (r 20, .inl (cI, 451, .inl (flatK (va_up (mkp_ M) 2 B)))), (r 25, .inl (cI, 7, .inl (mof_ M))), (r 26, .inl (cI, 7, .inl (mfa_ M))), (r 30, .inl (cI, 12, .inl (mrw_ M))), (r 32, .inl (cI, 8, .inl (mhb_ M)))]) H := hP
  replace hD : va_D A ([(r 0, .inr (5, [.ref (r 1), .ref (r 2), .ref (r 3), .ref (r 4), .ref (r 5), .ref (r 6), .int (nI (sn_ B)), .int (qt_ B), .int (il_ B), .int (pa_ B), .int (ho_ B), .int (dy_ B), .ref (r 13), .ref (r 14), .ref (r 15), .ref (r 16), .int (nI (mtn_ M)), .int (nI (mrd_ M)), .int (nI (msm_ M)), .ref (r 20), .int (mhi_ M), .int (1), .int (nI (41 * 2 + 41)), .int (nI (mbk_ M)), .ref (r 25), .ref (r 26), .int (mlw_ M), .int (mhg_ M), .int (msl_ M), .ref (r 30), .int (nI 0), .ref (r 32), .int (mlo_ M)])), (r 1, .inl (cI, 7, .inl (mrf_ M))), (r 2, .inl (cI, 7, .inl (kd_ B))), (r 3, .inl (cI, 7, .inl (fg_ B))), (r 4, .inl (cI, 7, .inl (pl_ B))), (r 5, .inl (cI, 7, .inl (pw_ B))), (r 6, .inl (cI, 7, .inl (jy_ B))), (r 13, .inl (cI, 96, .inl (mtp_ M))), (r 14, .inl (cI, 48, .inl (mlt_ M))), (r 15, .inl (cI, 48, .inl (mla_ M))), (r 16, .inl (cI, 144, .inl (mtd_ M))), (r 20, .inl (cI, 451, .inl (flatK (va_up (mkp_ M) 2 B)))), (r 25, .inl (cI, 7, .inl (mof_ M))), (r 26, .inl (cI, 7, .inl (mfa_ M))), (r 30, .inl (cI, 12, .inl (mrw_ M))), (r 32, .inl (cI, 8, .inl (mhb_ M)))]) := hD
  refine lv_bipush (v := (-9)) hx hb dX5_judge_14 (by decide) ?_
  refine lv_istore_n (lv' := [(2, .int (-9)), (1, .int (nI (mrm_ M))), (0, .ref (r 0))]) hx hb dX5_judge_16 rfl hl (by decide) rfl (fun ls hl => ?_)
  refine lv_iconst (v := 0) hx hb dX5_judge_17 (by decide) ?_
  refine lv_istore_n (lv' := [(3, .int 0), (2, .int (-9)), (1, .int (nI (mrm_ M))), (0, .ref (r 0))]) hx hb dX5_judge_18 rfl hl (by decide) rfl (fun ls hl => ?_)
  have lp_19 : ∀ (fu_19 : Nat) (i : Nat) (o9 : Option Nat) (x2_19 : Int32) (x3_19 : Int32) (T : BayT), (x2_19 = oI_ o9) → (x3_19 = nI i) → (T = hs_ i B) → (i ≤ mrm_ M) → (∀ t, o9 = some t → t < 12) → ((match o9 with | none => fx_ (mrw_ M) B (mrm_ M - i) i | some t => some t) = fx_ (mrw_ M) B (mrm_ M) 0) → mrm_ M - i < fu_19 → ∀ (H : Heap) (locs : List Loc), va_P D vwCl ([(r 0, .inr (5, [.ref (r 1), .ref (r 2), .ref (r 3), .ref (r 4), .ref (r 5), .ref (r 6), .int (nI (sn_ T)), .int (qt_ T), .int (il_ T), .int (pa_ T), .int (ho_ T), .int (dy_ T), .ref (r 13), .ref (r 14), .ref (r 15), .ref (r 16), .int (nI (mtn_ M)), .int (nI (mrd_ M)), .int (nI (msm_ M)), .ref (r 20), .int (mhi_ M), .int (1), .int (nI (41 * 2 + 41)), .int (nI (mbk_ M)), .ref (r 25), .ref (r 26), .int (mlw_ M), .int (mhg_ M), .int (msl_ M), .ref (r 30), .int (nI 0), .ref (r 32), .int (mlo_ M)])), (r 1, .inl (cI, 7, .inl (mrf_ M))), (r 2, .inl (cI, 7, .inl (kd_ T))), (r 3, .inl (cI, 7, .inl (fg_ T))), (r 4, .inl (cI, 7, .inl (pl_ T))), (r 5, .inl (cI, 7, .inl (pw_ T))), (r 6, .inl (cI, 7, .inl (jy_ T))), (r 13, .inl (cI, 96, .inl (mtp_ M))), (r 14, .inl (cI, 48, .inl (mlt_ M))), (r 15, .inl (cI, 48, .inl (mla_ M))), (r 16, .inl (cI, 144, .inl (mtd_ M))), (r 20, .inl (cI, 451, .inl (flatK (va_up (mkp_ M) 2 B)))), (r 25, .inl (cI, 7, .inl (mof_ M))), (r 26, .inl (cI, 7, .inl (mfa_ M))), (r 30, .inl (cI, 12, .inl (mrw_ M))), (r 32, .inl (cI, 8, .inl (mhb_ M)))]) H → va_D A ([(r 0, .inr (5, [.ref (r 1), .ref (r 2), .ref (r 3), .ref (r 4), .ref (r 5), .ref (r 6), .int (nI (sn_ T)), .int (qt_ T), .int (il_ T), .int (pa_ T), .int (ho_ T), .int (dy_ T), .ref (r 13), .ref (r 14), .ref (r 15), .ref (r 16), .int (nI (mtn_ M)), .int (nI (mrd_ M)), .int (nI (msm_ M)), .ref (r 20), .int (mhi_ M), .int (1), .int (nI (41 * 2 + 41)), .int (nI (mbk_ M)), .ref (r 25), .ref (r 26), .int (mlw_ M), .int (mhg_ M), .int (msl_ M), .ref (r 30), .int (nI 0), .ref (r 32), .int (mlo_ M)])), (r 1, .inl (cI, 7, .inl (mrf_ M))), (r 2, .inl (cI, 7, .inl (kd_ T))), (r 3, .inl (cI, 7, .inl (fg_ T))), (r 4, .inl (cI, 7, .inl (pl_ T))), (r 5, .inl (cI, 7, .inl (pw_ T))), (r 6, .inl (cI, 7, .inl (jy_ T))), (r 13, .inl (cI, 96, .inl (mtp_ M))), (r 14, .inl (cI, 48, .inl (mlt_ M))), (r 15, .inl (cI, 48, .inl (mla_ M))), (r 16, .inl (cI, 144, .inl (mtd_ M))), (r 20, .inl (cI, 451, .inl (flatK (va_up (mkp_ M) 2 B)))), (r 25, .inl (cI, 7, .inl (mof_ M))), (r 26, .inl (cI, 7, .inl (mfa_ M))), (r 30, .inl (cI, 12, .inl (mrw_ M))), (r 32, .inl (cI, 8, .inl (mhb_ M)))]) → va_S A s.heap H locs → ∀ ls : Array Slot, lv_has ls 5 [(3, .int x3_19), (2, .int x2_19), (1, .int (nI (mrm_ M))), (0, .ref (r 0))] → W p l e (jR 6) s m ([.ref (r 0)] : List Value).toArray below meth c H locs 0 0 (MQ below (va_Qi (S := MT) (fun r u => r = oI_ (fx_ (mrw_ M) B (mrm_ M) 0) ∧ oM_ (urm_ M 0) u) (fun u t => va_P D vwCl ((fun u => mW cI r B u) u) t.heap) A) ([.ref (r 0)] : List Value).toArray s 0 0 A) (F0 m 19 ls []) := by
    intro fu_19
    induction fu_19 with
    | zero => intro i o9 x2_19 x3_19 T hx2_19 hx3_19 hT hi ho9 hre hfu; exact absurd hfu (Nat.not_lt_zero _)
    | succ fu_19 ih_19 =>
      intro i o9 x2_19 x3_19 T hx2_19 hx3_19 hT hi ho9 hre hfu_19 H locs hP hD hS ls hl
      subst x2_19
      subst x3_19
      subst T
      replace hl : lv_has ls 5 [(3, .int (nI i)), (2, .int (oI_ o9)), (1, .int (nI (mrm_ M))), (0, .ref (r 0))] := hl
      replace hP : va_P D vwCl ([(r 0, .inr (5, [.ref (r 1), .ref (r 2), .ref (r 3), .ref (r 4), .ref (r 5), .ref (r 6), .int (nI (sn_ (hs_ i B))), .int (qt_ (hs_ i B)), .int (il_ (hs_ i B)), .int (pa_ (hs_ i B)), .int (ho_ (hs_ i B)), .int (dy_ (hs_ i B)), .ref (r 13), .ref (r 14), .ref (r 15), .ref (r 16), .int (nI (mtn_ M)), .int (nI (mrd_ M)), .int (nI (msm_ M)), .ref (r 20), .int (mhi_ M), .int (1), .int (nI (41 * 2 + 41)), .int (nI (mbk_ M)), .ref (r 25), .ref (r 26), .int (mlw_ M), .int (mhg_ M), .int (msl_ M), .ref (r 30), .int (nI 0), .ref (r 32), .int (mlo_ M)])), (r 1, .inl (cI, 7, .inl (mrf_ M))), (r 2, .inl (cI, 7, .inl (kd_ (hs_ i B)))), (r 3, .inl (cI, 7, .inl (fg_ (hs_ i B)))), (r 4, .inl (cI, 7, .inl (pl_ (hs_ i B)))), (r 5, .inl (cI, 7, .inl (pw_ (hs_ i B)))), (r 6, .inl (cI, 7, .inl (jy_ (hs_ i B)))), (r 13, .inl (cI, 96, .inl (mtp_ M))), (r 14, .inl (cI, 48, .inl (mlt_ M))), (r 15, .inl (cI, 48, .inl (mla_ M))), (r 16, .inl (cI, 144, .inl (mtd_ M))), (r 20, .inl (cI, 451, .inl (flatK (va_up (mkp_ M) 2 B)))), (r 25, .inl (cI, 7, .inl (mof_ M))), (r 26, .inl (cI, 7, .inl (mfa_ M))), (r 30, .inl (cI, 12, .inl (mrw_ M))), (r 32, .inl (cI, 8, .inl (mhb_ M)))]) H := hP
      replace hD : va_D A ([(r 0, .inr (5, [.ref (r 1), .ref (r 2), .ref (r 3), .ref (r 4), .ref (r 5), .ref (r 6), .int (nI (sn_ (hs_ i B))), .int (qt_ (hs_ i B)), .int (il_ (hs_ i B)), .int (pa_ (hs_ i B)), .int (ho_ (hs_ i B)), .int (dy_ (hs_ i B)), .ref (r 13), .ref (r 14), .ref (r 15), .ref (r 16), .int (nI (mtn_ M)), .int (nI (mrd_ M)), .int (nI (msm_ M)), .ref (r 20), .int (mhi_ M), .int (1), .int (nI (41 * 2 + 41)), .int (nI (mbk_ M)), .ref (r 25), .ref (r 26), .int (mlw_ M), .int (mhg_ M), .int (msl_ M), .ref (r 30), .int (nI 0), .ref (r 32), .int (mlo_ M)])), (r 1, .inl (cI, 7, .inl (mrf_ M))), (r 2, .inl (cI, 7, .inl (kd_ (hs_ i B)))), (r 3, .inl (cI, 7, .inl (fg_ (hs_ i B)))), (r 4, .inl (cI, 7, .inl (pl_ (hs_ i B)))), (r 5, .inl (cI, 7, .inl (pw_ (hs_ i B)))), (r 6, .inl (cI, 7, .inl (jy_ (hs_ i B)))), (r 13, .inl (cI, 96, .inl (mtp_ M))), (r 14, .inl (cI, 48, .inl (mlt_ M))), (r 15, .inl (cI, 48, .inl (mla_ M))), (r 16, .inl (cI, 144, .inl (mtd_ M))), (r 20, .inl (cI, 451, .inl (flatK (va_up (mkp_ M) 2 B)))), (r 25, .inl (cI, 7, .inl (mof_ M))), (r 26, .inl (cI, 7, .inl (mfa_ M))), (r 30, .inl (cI, 12, .inl (mrw_ M))), (r 32, .inl (cI, 8, .inl (mhb_ M)))]) := hD
      rcases hL : o9 with _ | t9
      · rw [hL] at hl
        replace hl : lv_has ls 5 [(3, .int (nI i)), (2, .int (-9)), (1, .int (nI (mrm_ M))), (0, .ref (r 0))] := hl
        refine lv_iload_n hx hb dX5_judge_19 rfl (lv_at hl 0 rfl) ?_
        refine lv_iload_n hx hb dX5_judge_20 rfl (lv_at hl 2 rfl) ?_
        refine lv_icmp_ge (tgt := 77) hx hb dX5_judge_21 (by decide) (fun c_21 => ?_) (fun c_21 => ?_)
        · replace c_21 : nI (mrm_ M) ≤ nI i := c_21
          rw [jle (by omega) (by omega)] at c_21
          refine lv_aload_n hx hb dX5_judge_77 rfl (lv_at hl 3 rfl) ?_
          refine kMvV hx hb hml hown hts hK hP hD hA hS gX5_judge_X5_forgets okX5_forgets (qX5_forgetsE l D cI cB r (hs_ i B) (mkM (mrf_ M) (mtp_ M) (mlt_ M) (mla_ M) (mtd_ M) (va_up (mkp_ M) 2 B) (mof_ M) (mfa_ M) (mrw_ M) (mhb_ M) (mtn_ M) (mrd_ M) (msm_ M) (41 * 2 + 41) (mbk_ M) 0 (mhi_ M) 1 (mlw_ M) (mhg_ M) (msl_ M) (mlo_ M)) ) [0, 1, 2, 3, 4, 5, 6, 7, 8, 9, 10, 11, 12, 13, 14, 15] rfl (by decide) (fun _ => mW_adE rfl) rfl rfl rfl (by decide) hl.1 rfl rfl (Nat.le_of_ble_eq_true rfl) dX5_judge_78 (by decide) (fun u_5 H locs hw_6 hP hD hS => ?_)
          replace hP : va_P D vwCl ([(r 0, .inr (5, [.ref (r 1), .ref (r 2), .ref (r 3), .ref (r 4), .ref (r 5), .ref (r 6), .int (nI (sn_ B)), .int (qt_ B), .int (il_ B), .int (pa_ B), .int (ho_ B), .int (dy_ B), .ref (r 13), .ref (r 14), .ref (r 15), .ref (r 16), .int (nI (mtn_ M)), .int (nI (mrd_ M)), .int (nI (msm_ M)), .ref (r 20), .int (mhi_ M), .int (0), .int (nI (41 * 2 + 41)), .int (nI (mbk_ M)), .ref (r 25), .ref (r 26), .int (mlw_ M), .int (mhg_ M), .int (msl_ M), .ref (r 30), .int (nI 0), .ref (r 32), .int (mlo_ M)])), (r 1, .inl (cI, 7, .inl (mrf_ M))), (r 2, .inl (cI, 7, .inl (kd_ B))), (r 3, .inl (cI, 7, .inl (fg_ B))), (r 4, .inl (cI, 7, .inl (pl_ B))), (r 5, .inl (cI, 7, .inl (pw_ B))), (r 6, .inl (cI, 7, .inl (jy_ B))), (r 13, .inl (cI, 96, .inl (mtp_ M))), (r 14, .inl (cI, 48, .inl (mlt_ M))), (r 15, .inl (cI, 48, .inl (mla_ M))), (r 16, .inl (cI, 144, .inl (mtd_ M))), (r 20, .inl (cI, 451, .inl (flatK (va_up (mkp_ M) 2 B)))), (r 25, .inl (cI, 7, .inl (mof_ M))), (r 26, .inl (cI, 7, .inl (mfa_ M))), (r 30, .inl (cI, 12, .inl (mrw_ M))), (r 32, .inl (cI, 8, .inl (mhb_ M)))]) H := hP
          replace hD : va_D A ([(r 0, .inr (5, [.ref (r 1), .ref (r 2), .ref (r 3), .ref (r 4), .ref (r 5), .ref (r 6), .int (nI (sn_ B)), .int (qt_ B), .int (il_ B), .int (pa_ B), .int (ho_ B), .int (dy_ B), .ref (r 13), .ref (r 14), .ref (r 15), .ref (r 16), .int (nI (mtn_ M)), .int (nI (mrd_ M)), .int (nI (msm_ M)), .ref (r 20), .int (mhi_ M), .int (0), .int (nI (41 * 2 + 41)), .int (nI (mbk_ M)), .ref (r 25), .ref (r 26), .int (mlw_ M), .int (mhg_ M), .int (msl_ M), .ref (r 30), .int (nI 0), .ref (r 32), .int (mlo_ M)])), (r 1, .inl (cI, 7, .inl (mrf_ M))), (r 2, .inl (cI, 7, .inl (kd_ B))), (r 3, .inl (cI, 7, .inl (fg_ B))), (r 4, .inl (cI, 7, .inl (pl_ B))), (r 5, .inl (cI, 7, .inl (pw_ B))), (r 6, .inl (cI, 7, .inl (jy_ B))), (r 13, .inl (cI, 96, .inl (mtp_ M))), (r 14, .inl (cI, 48, .inl (mlt_ M))), (r 15, .inl (cI, 48, .inl (mla_ M))), (r 16, .inl (cI, 144, .inl (mtd_ M))), (r 20, .inl (cI, 451, .inl (flatK (va_up (mkp_ M) 2 B)))), (r 25, .inl (cI, 7, .inl (mof_ M))), (r 26, .inl (cI, 7, .inl (mfa_ M))), (r 30, .inl (cI, 12, .inl (mrw_ M))), (r 32, .inl (cI, 8, .inl (mhb_ M)))]) := hD
          refine lv_iload_n hx hb dX5_judge_81 rfl (lv_at hl 1 rfl) ?_
          refine rMi hx hb hr hlk hS (mkM (mrf_ M) (mtp_ M) (mlt_ M) (mla_ M) (mtd_ M) (va_up (mkp_ M) 2 B) (mof_ M) (mfa_ M) (mrw_ M) (mhb_ M) (mtn_ M) (mrd_ M) (msm_ M) (41 * 2 + 41) (mbk_ M) 0 (mhi_ M) 0 (mlw_ M) (mhg_ M) (msl_ M) (mlo_ M)) hP ?_ dX5_judge_82
          first | (rw [hL] at hre; simp only at hre; rw [fx_0 (by omega)] at hre; rw [← hre]; exact ⟨rfl, (oN_pp _ _).m⟩) | (rw [hL] at hre; simp only at hre; rw [← hre]; exact ⟨rfl, (oN_pp _ _).m⟩)
        · replace c_21 : ¬ nI (mrm_ M) ≤ nI i := c_21
          rw [jle (by omega) (by omega)] at c_21
          refine lv_iload_n hx hb dX5_judge_24 rfl (lv_at hl 1 rfl) ?_
          refine lv_if_ge (tgt := 77) hx hb dX5_judge_25 (by decide) (fun q => absurd q (by decide)) (fun _ => ?_)
          refine lv_aload_n hx hb dX5_judge_28 rfl (lv_at hl 3 rfl) ?_
          refine lv_aload_n hx hb dX5_judge_29 rfl (lv_at hl 3 rfl) ?_
          refine va_get (ci := 5) (C := RX5) (T := TX5) (N := 33) hx hb hts hinX5 hown hK.1 hP 0 rfl rfl 10 (by decide) (hts _ (List.mem_of_getElem? (i := 2) rfl)) (fun _ h9 => h9) rfl dX5_judge_30 ?_
          refine kSiV hx hb hml hown hts hK hP gX5_judge_X5_loudestAt okX5_loudestAt (qX5_loudestAt l D cI cB r (hs_ i B) (mkM (mrf_ M) (mtp_ M) (mlt_ M) (mla_ M) (mtd_ M) (va_up (mkp_ M) 2 B) (mof_ M) (mfa_ M) (mrw_ M) (mhb_ M) (mtn_ M) (mrd_ M) (msm_ M) (41 * 2 + 41) (mbk_ M) 0 (mhi_ M) 1 (mlw_ M) (mhg_ M) (msl_ M) (mlo_ M)) (ho_ (hs_ i B)) (bI_hs hI _)) [0, 1, 2, 3, 4, 5, 6, 7, 8, 9, 10, 11, 12, 13, 14, 15] rfl rfl rfl rfl (by decide) hl.1 rfl rfl (Nat.le_of_ble_eq_true rfl) dX5_judge_33 (by decide) (fun r_7 hr_8 => ?_)
          replace hr_8 : r_7 = oI_ (lt_ (hs_ i B) (ho_ (hs_ i B))) := hr_8
          subst r_7
          refine lv_istore (lv' := [(4, .int (oI_ (lt_ (hs_ i B) (ho_ (hs_ i B))))), (3, .int (nI i)), (2, .int (-9)), (1, .int (nI (mrm_ M))), (0, .ref (r 0))]) hx hb dX5_judge_36 hl (by decide) rfl (fun ls hl => ?_)
          rcases hT9 : lt_ (hs_ i B) (ho_ (hs_ i B)) with _ | t
          · rw [hT9] at hl
            replace hl : lv_has ls 5 [(4, .int (-9)), (3, .int (nI i)), (2, .int (-9)), (1, .int (nI (mrm_ M))), (0, .ref (r 0))] := hl
            refine lv_iload hx hb dX5_judge_38 (lv_at hl 0 rfl) ?_
            refine lv_if_ge (tgt := 48) hx hb dX5_judge_40 (by decide) (fun q => absurd q (by decide)) (fun _ => ?_)
            refine lv_bipush (v := 9) hx hb dX5_judge_43 (by decide) ?_
            refine lv_goto (tgt := 50) hx hb dX5_judge_45 (by decide) ?_
            refine lv_aload_n hx hb dX5_judge_50 rfl (lv_at hl 4 rfl) ?_
            refine va_get (ci := 5) (C := RX5) (T := TX5) (N := 33) hx hb hts hinX5 hown hK.1 hP 0 rfl rfl 29 (by decide) (hts _ (List.mem_of_getElem? (i := 3) rfl)) (fun _ h9 => h9) rfl dX5_judge_51 ?_
            refine lv_iload_n hx hb dX5_judge_54 rfl (lv_at hl 1 rfl) ?_
            refine jald hx hb hK.1 hP 14 0 i rfl rfl rfl (by omega) (Nat.le_of_ble_eq_true rfl) dX5_judge_55 ?_
            refine lv_icmp_ne (tgt := 64) hx hb dX5_judge_56 (by decide) (fun c_56 => ?_) (fun c_56 => ?_)
            · skip
              refine lv_iload_n hx hb dX5_judge_64 rfl (lv_at hl 1 rfl) ?_
              refine lv_istore_n (lv' := [(2, .int (nI i)), (4, .int (-9)), (3, .int (nI i)), (1, .int (nI (mrm_ M))), (0, .ref (r 0))]) hx hb dX5_judge_65 rfl hl (by decide) rfl (fun ls hl => ?_)
              refine lv_aload_n hx hb dX5_judge_66 rfl (lv_at hl 4 rfl) ?_
              refine lv_iconst (v := 0) hx hb dX5_judge_67 (by decide) ?_
              refine kMvV hx hb hml hown hts hK hP hD hA hS gX5_judge_X5_goesHour okX5_goesHour (qX5_goesHour l D cI cB r (hs_ i B) (mkM (mrf_ M) (mtp_ M) (mlt_ M) (mla_ M) (mtd_ M) (va_up (mkp_ M) 2 B) (mof_ M) (mfa_ M) (mrw_ M) (mhb_ M) (mtn_ M) (mrd_ M) (msm_ M) (41 * 2 + 41) (mbk_ M) 0 (mhi_ M) 1 (mlw_ M) (mhg_ M) (msl_ M) (mlo_ M)) False inferInstance (bI_hs hI _)) [0, 1, 2, 3, 4, 5, 6, 7, 8, 9, 10, 11, 12, 13, 14, 15] rfl (by decide) (fun _ => mW_adr _ _ _ _ _ _) rfl rfl rfl (by decide) hl.1 rfl rfl (Nat.le_of_ble_eq_true rfl) dX5_judge_68 (by decide) (fun u_10 H locs hw_11 hP hD hS => ?_)
              replace hw_11 : u_10 = hb_ False (hs_ i B) := hw_11
              subst u_10
              replace hP : va_P D vwCl ([(r 0, .inr (5, [.ref (r 1), .ref (r 2), .ref (r 3), .ref (r 4), .ref (r 5), .ref (r 6), .int (nI (sn_ (hb_ False (hs_ i B)))), .int (qt_ (hb_ False (hs_ i B))), .int (il_ (hb_ False (hs_ i B))), .int (pa_ (hb_ False (hs_ i B))), .int (ho_ (hb_ False (hs_ i B))), .int (dy_ (hb_ False (hs_ i B))), .ref (r 13), .ref (r 14), .ref (r 15), .ref (r 16), .int (nI (mtn_ M)), .int (nI (mrd_ M)), .int (nI (msm_ M)), .ref (r 20), .int (mhi_ M), .int (1), .int (nI (41 * 2 + 41)), .int (nI (mbk_ M)), .ref (r 25), .ref (r 26), .int (mlw_ M), .int (mhg_ M), .int (msl_ M), .ref (r 30), .int (nI 0), .ref (r 32), .int (mlo_ M)])), (r 1, .inl (cI, 7, .inl (mrf_ M))), (r 2, .inl (cI, 7, .inl (kd_ (hb_ False (hs_ i B))))), (r 3, .inl (cI, 7, .inl (fg_ (hb_ False (hs_ i B))))), (r 4, .inl (cI, 7, .inl (pl_ (hb_ False (hs_ i B))))), (r 5, .inl (cI, 7, .inl (pw_ (hb_ False (hs_ i B))))), (r 6, .inl (cI, 7, .inl (jy_ (hb_ False (hs_ i B))))), (r 13, .inl (cI, 96, .inl (mtp_ M))), (r 14, .inl (cI, 48, .inl (mlt_ M))), (r 15, .inl (cI, 48, .inl (mla_ M))), (r 16, .inl (cI, 144, .inl (mtd_ M))), (r 20, .inl (cI, 451, .inl (flatK (va_up (mkp_ M) 2 B)))), (r 25, .inl (cI, 7, .inl (mof_ M))), (r 26, .inl (cI, 7, .inl (mfa_ M))), (r 30, .inl (cI, 12, .inl (mrw_ M))), (r 32, .inl (cI, 8, .inl (mhb_ M)))]) H := hP
              replace hD : va_D A ([(r 0, .inr (5, [.ref (r 1), .ref (r 2), .ref (r 3), .ref (r 4), .ref (r 5), .ref (r 6), .int (nI (sn_ (hb_ False (hs_ i B)))), .int (qt_ (hb_ False (hs_ i B))), .int (il_ (hb_ False (hs_ i B))), .int (pa_ (hb_ False (hs_ i B))), .int (ho_ (hb_ False (hs_ i B))), .int (dy_ (hb_ False (hs_ i B))), .ref (r 13), .ref (r 14), .ref (r 15), .ref (r 16), .int (nI (mtn_ M)), .int (nI (mrd_ M)), .int (nI (msm_ M)), .ref (r 20), .int (mhi_ M), .int (1), .int (nI (41 * 2 + 41)), .int (nI (mbk_ M)), .ref (r 25), .ref (r 26), .int (mlw_ M), .int (mhg_ M), .int (msl_ M), .ref (r 30), .int (nI 0), .ref (r 32), .int (mlo_ M)])), (r 1, .inl (cI, 7, .inl (mrf_ M))), (r 2, .inl (cI, 7, .inl (kd_ (hb_ False (hs_ i B))))), (r 3, .inl (cI, 7, .inl (fg_ (hb_ False (hs_ i B))))), (r 4, .inl (cI, 7, .inl (pl_ (hb_ False (hs_ i B))))), (r 5, .inl (cI, 7, .inl (pw_ (hb_ False (hs_ i B))))), (r 6, .inl (cI, 7, .inl (jy_ (hb_ False (hs_ i B))))), (r 13, .inl (cI, 96, .inl (mtp_ M))), (r 14, .inl (cI, 48, .inl (mlt_ M))), (r 15, .inl (cI, 48, .inl (mla_ M))), (r 16, .inl (cI, 144, .inl (mtd_ M))), (r 20, .inl (cI, 451, .inl (flatK (va_up (mkp_ M) 2 B)))), (r 25, .inl (cI, 7, .inl (mof_ M))), (r 26, .inl (cI, 7, .inl (mfa_ M))), (r 30, .inl (cI, 12, .inl (mrw_ M))), (r 32, .inl (cI, 8, .inl (mhb_ M)))]) := hD
              refine lv_iinc (v := (nI i) + 1) (lv' := [(3, .int ((nI i) + 1)), (2, .int (nI i)), (4, .int (-9)), (1, .int (nI (mrm_ M))), (0, .ref (r 0))]) hx hb dX5_judge_71 hl (k := 2) rfl (by first | rfl | decide) (by decide) rfl (fun ls hl => ?_)
              refine lv_goto (tgt := 19) hx hb dX5_judge_74 (by decide) ?_
              exact ih_19 (i + 1) (some i) (nI i) ((nI i) + 1) (hb_ False (hs_ i B)) (rfl) (by first | rfl | exact nI_1 _) (rfl) (by omega) (fun t z => by first | (cases z; omega) | cases z) (by rw [hL] at hre; simp only at hre; first | (rw [fx_s (by omega), if_pos (by rw [hT9]; exact c_56.symm)] at hre; exact hre) | (rw [fx_s (by omega), if_neg (by rw [hT9]; exact fun z => c_56 z.symm)] at hre; exact hre)) (by omega) _ _ hP hD hS ls (lv_sub hl [0, 1, 3, 4] rfl)
            · skip
              refine lv_bipush (v := (-9)) hx hb dX5_judge_59 (by decide) ?_
              refine lv_goto (tgt := 65) hx hb dX5_judge_61 (by decide) ?_
              refine lv_istore_n (lv' := [(2, .int (-9)), (4, .int (-9)), (3, .int (nI i)), (1, .int (nI (mrm_ M))), (0, .ref (r 0))]) hx hb dX5_judge_65 rfl hl (by decide) rfl (fun ls hl => ?_)
              refine lv_aload_n hx hb dX5_judge_66 rfl (lv_at hl 4 rfl) ?_
              refine lv_iconst (v := 0) hx hb dX5_judge_67 (by decide) ?_
              refine kMvV hx hb hml hown hts hK hP hD hA hS gX5_judge_X5_goesHour okX5_goesHour (qX5_goesHour l D cI cB r (hs_ i B) (mkM (mrf_ M) (mtp_ M) (mlt_ M) (mla_ M) (mtd_ M) (va_up (mkp_ M) 2 B) (mof_ M) (mfa_ M) (mrw_ M) (mhb_ M) (mtn_ M) (mrd_ M) (msm_ M) (41 * 2 + 41) (mbk_ M) 0 (mhi_ M) 1 (mlw_ M) (mhg_ M) (msl_ M) (mlo_ M)) False inferInstance (bI_hs hI _)) [0, 1, 2, 3, 4, 5, 6, 7, 8, 9, 10, 11, 12, 13, 14, 15] rfl (by decide) (fun _ => mW_adr _ _ _ _ _ _) rfl rfl rfl (by decide) hl.1 rfl rfl (Nat.le_of_ble_eq_true rfl) dX5_judge_68 (by decide) (fun u_13 H locs hw_14 hP hD hS => ?_)
              replace hw_14 : u_13 = hb_ False (hs_ i B) := hw_14
              subst u_13
              replace hP : va_P D vwCl ([(r 0, .inr (5, [.ref (r 1), .ref (r 2), .ref (r 3), .ref (r 4), .ref (r 5), .ref (r 6), .int (nI (sn_ (hb_ False (hs_ i B)))), .int (qt_ (hb_ False (hs_ i B))), .int (il_ (hb_ False (hs_ i B))), .int (pa_ (hb_ False (hs_ i B))), .int (ho_ (hb_ False (hs_ i B))), .int (dy_ (hb_ False (hs_ i B))), .ref (r 13), .ref (r 14), .ref (r 15), .ref (r 16), .int (nI (mtn_ M)), .int (nI (mrd_ M)), .int (nI (msm_ M)), .ref (r 20), .int (mhi_ M), .int (1), .int (nI (41 * 2 + 41)), .int (nI (mbk_ M)), .ref (r 25), .ref (r 26), .int (mlw_ M), .int (mhg_ M), .int (msl_ M), .ref (r 30), .int (nI 0), .ref (r 32), .int (mlo_ M)])), (r 1, .inl (cI, 7, .inl (mrf_ M))), (r 2, .inl (cI, 7, .inl (kd_ (hb_ False (hs_ i B))))), (r 3, .inl (cI, 7, .inl (fg_ (hb_ False (hs_ i B))))), (r 4, .inl (cI, 7, .inl (pl_ (hb_ False (hs_ i B))))), (r 5, .inl (cI, 7, .inl (pw_ (hb_ False (hs_ i B))))), (r 6, .inl (cI, 7, .inl (jy_ (hb_ False (hs_ i B))))), (r 13, .inl (cI, 96, .inl (mtp_ M))), (r 14, .inl (cI, 48, .inl (mlt_ M))), (r 15, .inl (cI, 48, .inl (mla_ M))), (r 16, .inl (cI, 144, .inl (mtd_ M))), (r 20, .inl (cI, 451, .inl (flatK (va_up (mkp_ M) 2 B)))), (r 25, .inl (cI, 7, .inl (mof_ M))), (r 26, .inl (cI, 7, .inl (mfa_ M))), (r 30, .inl (cI, 12, .inl (mrw_ M))), (r 32, .inl (cI, 8, .inl (mhb_ M)))]) H := hP
              replace hD : va_D A ([(r 0, .inr (5, [.ref (r 1), .ref (r 2), .ref (r 3), .ref (r 4), .ref (r 5), .ref (r 6), .int (nI (sn_ (hb_ False (hs_ i B)))), .int (qt_ (hb_ False (hs_ i B))), .int (il_ (hb_ False (hs_ i B))), .int (pa_ (hb_ False (hs_ i B))), .int (ho_ (hb_ False (hs_ i B))), .int (dy_ (hb_ False (hs_ i B))), .ref (r 13), .ref (r 14), .ref (r 15), .ref (r 16), .int (nI (mtn_ M)), .int (nI (mrd_ M)), .int (nI (msm_ M)), .ref (r 20), .int (mhi_ M), .int (1), .int (nI (41 * 2 + 41)), .int (nI (mbk_ M)), .ref (r 25), .ref (r 26), .int (mlw_ M), .int (mhg_ M), .int (msl_ M), .ref (r 30), .int (nI 0), .ref (r 32), .int (mlo_ M)])), (r 1, .inl (cI, 7, .inl (mrf_ M))), (r 2, .inl (cI, 7, .inl (kd_ (hb_ False (hs_ i B))))), (r 3, .inl (cI, 7, .inl (fg_ (hb_ False (hs_ i B))))), (r 4, .inl (cI, 7, .inl (pl_ (hb_ False (hs_ i B))))), (r 5, .inl (cI, 7, .inl (pw_ (hb_ False (hs_ i B))))), (r 6, .inl (cI, 7, .inl (jy_ (hb_ False (hs_ i B))))), (r 13, .inl (cI, 96, .inl (mtp_ M))), (r 14, .inl (cI, 48, .inl (mlt_ M))), (r 15, .inl (cI, 48, .inl (mla_ M))), (r 16, .inl (cI, 144, .inl (mtd_ M))), (r 20, .inl (cI, 451, .inl (flatK (va_up (mkp_ M) 2 B)))), (r 25, .inl (cI, 7, .inl (mof_ M))), (r 26, .inl (cI, 7, .inl (mfa_ M))), (r 30, .inl (cI, 12, .inl (mrw_ M))), (r 32, .inl (cI, 8, .inl (mhb_ M)))]) := hD
              refine lv_iinc (v := (nI i) + 1) (lv' := [(3, .int ((nI i) + 1)), (2, .int (-9)), (4, .int (-9)), (1, .int (nI (mrm_ M))), (0, .ref (r 0))]) hx hb dX5_judge_71 hl (k := 2) rfl (by first | rfl | decide) (by decide) rfl (fun ls hl => ?_)
              refine lv_goto (tgt := 19) hx hb dX5_judge_74 (by decide) ?_
              exact ih_19 (i + 1) none (-9) ((nI i) + 1) (hb_ False (hs_ i B)) (rfl) (by first | rfl | exact nI_1 _) (rfl) (by omega) (fun t z => by first | (cases z; omega) | cases z) (by rw [hL] at hre; simp only at hre; first | (rw [fx_s (by omega), if_pos (by rw [hT9]; exact c_56.symm)] at hre; exact hre) | (rw [fx_s (by omega), if_neg (by rw [hT9]; exact fun z => c_56 z.symm)] at hre; exact hre)) (by omega) _ _ hP hD hS ls (lv_sub hl [0, 1, 3, 4] rfl)
          · rw [hT9] at hl
            replace hl : lv_has ls 5 [(4, .int (nI t)), (3, .int (nI i)), (2, .int (-9)), (1, .int (nI (mrm_ M))), (0, .ref (r 0))] := hl
            have ht : t < sn_ B := by have := (lo_lt _ _ hT9).1; rw [sn_hs] at this; exact this
            refine lv_iload hx hb dX5_judge_38 (lv_at hl 0 rfl) ?_
            refine lv_if_ge (tgt := 48) hx hb dX5_judge_40 (by decide) (fun _ => ?_) (fun q => absurd (nI_pos' (by omega)) q)
            refine lv_iload hx hb dX5_judge_48 (lv_at hl 0 rfl) ?_
            refine lv_aload_n hx hb dX5_judge_50 rfl (lv_at hl 4 rfl) ?_
            refine va_get (ci := 5) (C := RX5) (T := TX5) (N := 33) hx hb hts hinX5 hown hK.1 hP 0 rfl rfl 29 (by decide) (hts _ (List.mem_of_getElem? (i := 3) rfl)) (fun _ h9 => h9) rfl dX5_judge_51 ?_
            refine lv_iload_n hx hb dX5_judge_54 rfl (lv_at hl 1 rfl) ?_
            refine jald hx hb hK.1 hP 14 0 i rfl rfl rfl (by omega) (Nat.le_of_ble_eq_true rfl) dX5_judge_55 ?_
            refine lv_icmp_ne (tgt := 64) hx hb dX5_judge_56 (by decide) (fun c_56 => ?_) (fun c_56 => ?_)
            · skip
              refine lv_iload_n hx hb dX5_judge_64 rfl (lv_at hl 1 rfl) ?_
              refine lv_istore_n (lv' := [(2, .int (nI i)), (4, .int (nI t)), (3, .int (nI i)), (1, .int (nI (mrm_ M))), (0, .ref (r 0))]) hx hb dX5_judge_65 rfl hl (by decide) rfl (fun ls hl => ?_)
              refine lv_aload_n hx hb dX5_judge_66 rfl (lv_at hl 4 rfl) ?_
              refine lv_iconst (v := 0) hx hb dX5_judge_67 (by decide) ?_
              refine kMvV hx hb hml hown hts hK hP hD hA hS gX5_judge_X5_goesHour okX5_goesHour (qX5_goesHour l D cI cB r (hs_ i B) (mkM (mrf_ M) (mtp_ M) (mlt_ M) (mla_ M) (mtd_ M) (va_up (mkp_ M) 2 B) (mof_ M) (mfa_ M) (mrw_ M) (mhb_ M) (mtn_ M) (mrd_ M) (msm_ M) (41 * 2 + 41) (mbk_ M) 0 (mhi_ M) 1 (mlw_ M) (mhg_ M) (msl_ M) (mlo_ M)) False inferInstance (bI_hs hI _)) [0, 1, 2, 3, 4, 5, 6, 7, 8, 9, 10, 11, 12, 13, 14, 15] rfl (by decide) (fun _ => mW_adr _ _ _ _ _ _) rfl rfl rfl (by decide) hl.1 rfl rfl (Nat.le_of_ble_eq_true rfl) dX5_judge_68 (by decide) (fun u_16 H locs hw_17 hP hD hS => ?_)
              replace hw_17 : u_16 = hb_ False (hs_ i B) := hw_17
              subst u_16
              replace hP : va_P D vwCl ([(r 0, .inr (5, [.ref (r 1), .ref (r 2), .ref (r 3), .ref (r 4), .ref (r 5), .ref (r 6), .int (nI (sn_ (hb_ False (hs_ i B)))), .int (qt_ (hb_ False (hs_ i B))), .int (il_ (hb_ False (hs_ i B))), .int (pa_ (hb_ False (hs_ i B))), .int (ho_ (hb_ False (hs_ i B))), .int (dy_ (hb_ False (hs_ i B))), .ref (r 13), .ref (r 14), .ref (r 15), .ref (r 16), .int (nI (mtn_ M)), .int (nI (mrd_ M)), .int (nI (msm_ M)), .ref (r 20), .int (mhi_ M), .int (1), .int (nI (41 * 2 + 41)), .int (nI (mbk_ M)), .ref (r 25), .ref (r 26), .int (mlw_ M), .int (mhg_ M), .int (msl_ M), .ref (r 30), .int (nI 0), .ref (r 32), .int (mlo_ M)])), (r 1, .inl (cI, 7, .inl (mrf_ M))), (r 2, .inl (cI, 7, .inl (kd_ (hb_ False (hs_ i B))))), (r 3, .inl (cI, 7, .inl (fg_ (hb_ False (hs_ i B))))), (r 4, .inl (cI, 7, .inl (pl_ (hb_ False (hs_ i B))))), (r 5, .inl (cI, 7, .inl (pw_ (hb_ False (hs_ i B))))), (r 6, .inl (cI, 7, .inl (jy_ (hb_ False (hs_ i B))))), (r 13, .inl (cI, 96, .inl (mtp_ M))), (r 14, .inl (cI, 48, .inl (mlt_ M))), (r 15, .inl (cI, 48, .inl (mla_ M))), (r 16, .inl (cI, 144, .inl (mtd_ M))), (r 20, .inl (cI, 451, .inl (flatK (va_up (mkp_ M) 2 B)))), (r 25, .inl (cI, 7, .inl (mof_ M))), (r 26, .inl (cI, 7, .inl (mfa_ M))), (r 30, .inl (cI, 12, .inl (mrw_ M))), (r 32, .inl (cI, 8, .inl (mhb_ M)))]) H := hP
              replace hD : va_D A ([(r 0, .inr (5, [.ref (r 1), .ref (r 2), .ref (r 3), .ref (r 4), .ref (r 5), .ref (r 6), .int (nI (sn_ (hb_ False (hs_ i B)))), .int (qt_ (hb_ False (hs_ i B))), .int (il_ (hb_ False (hs_ i B))), .int (pa_ (hb_ False (hs_ i B))), .int (ho_ (hb_ False (hs_ i B))), .int (dy_ (hb_ False (hs_ i B))), .ref (r 13), .ref (r 14), .ref (r 15), .ref (r 16), .int (nI (mtn_ M)), .int (nI (mrd_ M)), .int (nI (msm_ M)), .ref (r 20), .int (mhi_ M), .int (1), .int (nI (41 * 2 + 41)), .int (nI (mbk_ M)), .ref (r 25), .ref (r 26), .int (mlw_ M), .int (mhg_ M), .int (msl_ M), .ref (r 30), .int (nI 0), .ref (r 32), .int (mlo_ M)])), (r 1, .inl (cI, 7, .inl (mrf_ M))), (r 2, .inl (cI, 7, .inl (kd_ (hb_ False (hs_ i B))))), (r 3, .inl (cI, 7, .inl (fg_ (hb_ False (hs_ i B))))), (r 4, .inl (cI, 7, .inl (pl_ (hb_ False (hs_ i B))))), (r 5, .inl (cI, 7, .inl (pw_ (hb_ False (hs_ i B))))), (r 6, .inl (cI, 7, .inl (jy_ (hb_ False (hs_ i B))))), (r 13, .inl (cI, 96, .inl (mtp_ M))), (r 14, .inl (cI, 48, .inl (mlt_ M))), (r 15, .inl (cI, 48, .inl (mla_ M))), (r 16, .inl (cI, 144, .inl (mtd_ M))), (r 20, .inl (cI, 451, .inl (flatK (va_up (mkp_ M) 2 B)))), (r 25, .inl (cI, 7, .inl (mof_ M))), (r 26, .inl (cI, 7, .inl (mfa_ M))), (r 30, .inl (cI, 12, .inl (mrw_ M))), (r 32, .inl (cI, 8, .inl (mhb_ M)))]) := hD
              refine lv_iinc (v := (nI i) + 1) (lv' := [(3, .int ((nI i) + 1)), (2, .int (nI i)), (4, .int (nI t)), (1, .int (nI (mrm_ M))), (0, .ref (r 0))]) hx hb dX5_judge_71 hl (k := 2) rfl (by first | rfl | decide) (by decide) rfl (fun ls hl => ?_)
              refine lv_goto (tgt := 19) hx hb dX5_judge_74 (by decide) ?_
              exact ih_19 (i + 1) (some i) (nI i) ((nI i) + 1) (hb_ False (hs_ i B)) (rfl) (by first | rfl | exact nI_1 _) (rfl) (by omega) (fun t z => by first | (cases z; omega) | cases z) (by rw [hL] at hre; simp only at hre; first | (rw [fx_s (by omega), if_pos (by rw [hT9]; exact c_56.symm)] at hre; exact hre) | (rw [fx_s (by omega), if_neg (by rw [hT9]; exact fun z => c_56 z.symm)] at hre; exact hre)) (by omega) _ _ hP hD hS ls (lv_sub hl [0, 1, 3, 4] rfl)
            · skip
              refine lv_bipush (v := (-9)) hx hb dX5_judge_59 (by decide) ?_
              refine lv_goto (tgt := 65) hx hb dX5_judge_61 (by decide) ?_
              refine lv_istore_n (lv' := [(2, .int (-9)), (4, .int (nI t)), (3, .int (nI i)), (1, .int (nI (mrm_ M))), (0, .ref (r 0))]) hx hb dX5_judge_65 rfl hl (by decide) rfl (fun ls hl => ?_)
              refine lv_aload_n hx hb dX5_judge_66 rfl (lv_at hl 4 rfl) ?_
              refine lv_iconst (v := 0) hx hb dX5_judge_67 (by decide) ?_
              refine kMvV hx hb hml hown hts hK hP hD hA hS gX5_judge_X5_goesHour okX5_goesHour (qX5_goesHour l D cI cB r (hs_ i B) (mkM (mrf_ M) (mtp_ M) (mlt_ M) (mla_ M) (mtd_ M) (va_up (mkp_ M) 2 B) (mof_ M) (mfa_ M) (mrw_ M) (mhb_ M) (mtn_ M) (mrd_ M) (msm_ M) (41 * 2 + 41) (mbk_ M) 0 (mhi_ M) 1 (mlw_ M) (mhg_ M) (msl_ M) (mlo_ M)) False inferInstance (bI_hs hI _)) [0, 1, 2, 3, 4, 5, 6, 7, 8, 9, 10, 11, 12, 13, 14, 15] rfl (by decide) (fun _ => mW_adr _ _ _ _ _ _) rfl rfl rfl (by decide) hl.1 rfl rfl (Nat.le_of_ble_eq_true rfl) dX5_judge_68 (by decide) (fun u_19 H locs hw_20 hP hD hS => ?_)
              replace hw_20 : u_19 = hb_ False (hs_ i B) := hw_20
              subst u_19
              replace hP : va_P D vwCl ([(r 0, .inr (5, [.ref (r 1), .ref (r 2), .ref (r 3), .ref (r 4), .ref (r 5), .ref (r 6), .int (nI (sn_ (hb_ False (hs_ i B)))), .int (qt_ (hb_ False (hs_ i B))), .int (il_ (hb_ False (hs_ i B))), .int (pa_ (hb_ False (hs_ i B))), .int (ho_ (hb_ False (hs_ i B))), .int (dy_ (hb_ False (hs_ i B))), .ref (r 13), .ref (r 14), .ref (r 15), .ref (r 16), .int (nI (mtn_ M)), .int (nI (mrd_ M)), .int (nI (msm_ M)), .ref (r 20), .int (mhi_ M), .int (1), .int (nI (41 * 2 + 41)), .int (nI (mbk_ M)), .ref (r 25), .ref (r 26), .int (mlw_ M), .int (mhg_ M), .int (msl_ M), .ref (r 30), .int (nI 0), .ref (r 32), .int (mlo_ M)])), (r 1, .inl (cI, 7, .inl (mrf_ M))), (r 2, .inl (cI, 7, .inl (kd_ (hb_ False (hs_ i B))))), (r 3, .inl (cI, 7, .inl (fg_ (hb_ False (hs_ i B))))), (r 4, .inl (cI, 7, .inl (pl_ (hb_ False (hs_ i B))))), (r 5, .inl (cI, 7, .inl (pw_ (hb_ False (hs_ i B))))), (r 6, .inl (cI, 7, .inl (jy_ (hb_ False (hs_ i B))))), (r 13, .inl (cI, 96, .inl (mtp_ M))), (r 14, .inl (cI, 48, .inl (mlt_ M))), (r 15, .inl (cI, 48, .inl (mla_ M))), (r 16, .inl (cI, 144, .inl (mtd_ M))), (r 20, .inl (cI, 451, .inl (flatK (va_up (mkp_ M) 2 B)))), (r 25, .inl (cI, 7, .inl (mof_ M))), (r 26, .inl (cI, 7, .inl (mfa_ M))), (r 30, .inl (cI, 12, .inl (mrw_ M))), (r 32, .inl (cI, 8, .inl (mhb_ M)))]) H := hP
              replace hD : va_D A ([(r 0, .inr (5, [.ref (r 1), .ref (r 2), .ref (r 3), .ref (r 4), .ref (r 5), .ref (r 6), .int (nI (sn_ (hb_ False (hs_ i B)))), .int (qt_ (hb_ False (hs_ i B))), .int (il_ (hb_ False (hs_ i B))), .int (pa_ (hb_ False (hs_ i B))), .int (ho_ (hb_ False (hs_ i B))), .int (dy_ (hb_ False (hs_ i B))), .ref (r 13), .ref (r 14), .ref (r 15), .ref (r 16), .int (nI (mtn_ M)), .int (nI (mrd_ M)), .int (nI (msm_ M)), .ref (r 20), .int (mhi_ M), .int (1), .int (nI (41 * 2 + 41)), .int (nI (mbk_ M)), .ref (r 25), .ref (r 26), .int (mlw_ M), .int (mhg_ M), .int (msl_ M), .ref (r 30), .int (nI 0), .ref (r 32), .int (mlo_ M)])), (r 1, .inl (cI, 7, .inl (mrf_ M))), (r 2, .inl (cI, 7, .inl (kd_ (hb_ False (hs_ i B))))), (r 3, .inl (cI, 7, .inl (fg_ (hb_ False (hs_ i B))))), (r 4, .inl (cI, 7, .inl (pl_ (hb_ False (hs_ i B))))), (r 5, .inl (cI, 7, .inl (pw_ (hb_ False (hs_ i B))))), (r 6, .inl (cI, 7, .inl (jy_ (hb_ False (hs_ i B))))), (r 13, .inl (cI, 96, .inl (mtp_ M))), (r 14, .inl (cI, 48, .inl (mlt_ M))), (r 15, .inl (cI, 48, .inl (mla_ M))), (r 16, .inl (cI, 144, .inl (mtd_ M))), (r 20, .inl (cI, 451, .inl (flatK (va_up (mkp_ M) 2 B)))), (r 25, .inl (cI, 7, .inl (mof_ M))), (r 26, .inl (cI, 7, .inl (mfa_ M))), (r 30, .inl (cI, 12, .inl (mrw_ M))), (r 32, .inl (cI, 8, .inl (mhb_ M)))]) := hD
              refine lv_iinc (v := (nI i) + 1) (lv' := [(3, .int ((nI i) + 1)), (2, .int (-9)), (4, .int (nI t)), (1, .int (nI (mrm_ M))), (0, .ref (r 0))]) hx hb dX5_judge_71 hl (k := 2) rfl (by first | rfl | decide) (by decide) rfl (fun ls hl => ?_)
              refine lv_goto (tgt := 19) hx hb dX5_judge_74 (by decide) ?_
              exact ih_19 (i + 1) none (-9) ((nI i) + 1) (hb_ False (hs_ i B)) (rfl) (by first | rfl | exact nI_1 _) (rfl) (by omega) (fun t z => by first | (cases z; omega) | cases z) (by rw [hL] at hre; simp only at hre; first | (rw [fx_s (by omega), if_pos (by rw [hT9]; exact c_56.symm)] at hre; exact hre) | (rw [fx_s (by omega), if_neg (by rw [hT9]; exact fun z => c_56 z.symm)] at hre; exact hre)) (by omega) _ _ hP hD hS ls (lv_sub hl [0, 1, 3, 4] rfl)
      · rw [hL] at hl
        replace hl : lv_has ls 5 [(3, .int (nI i)), (2, .int (nI t9)), (1, .int (nI (mrm_ M))), (0, .ref (r 0))] := hl
        have ht9 := ho9 t9 hL
        refine lv_iload_n hx hb dX5_judge_19 rfl (lv_at hl 0 rfl) ?_
        refine lv_iload_n hx hb dX5_judge_20 rfl (lv_at hl 2 rfl) ?_
        refine lv_icmp_ge (tgt := 77) hx hb dX5_judge_21 (by decide) (fun c_21 => ?_) (fun c_21 => ?_)
        · replace c_21 : nI (mrm_ M) ≤ nI i := c_21
          rw [jle (by omega) (by omega)] at c_21
          refine lv_aload_n hx hb dX5_judge_77 rfl (lv_at hl 3 rfl) ?_
          refine kMvV hx hb hml hown hts hK hP hD hA hS gX5_judge_X5_forgets okX5_forgets (qX5_forgetsE l D cI cB r (hs_ i B) (mkM (mrf_ M) (mtp_ M) (mlt_ M) (mla_ M) (mtd_ M) (va_up (mkp_ M) 2 B) (mof_ M) (mfa_ M) (mrw_ M) (mhb_ M) (mtn_ M) (mrd_ M) (msm_ M) (41 * 2 + 41) (mbk_ M) 0 (mhi_ M) 1 (mlw_ M) (mhg_ M) (msl_ M) (mlo_ M)) ) [0, 1, 2, 3, 4, 5, 6, 7, 8, 9, 10, 11, 12, 13, 14, 15] rfl (by decide) (fun _ => mW_adE rfl) rfl rfl rfl (by decide) hl.1 rfl rfl (Nat.le_of_ble_eq_true rfl) dX5_judge_78 (by decide) (fun u_22 H locs hw_23 hP hD hS => ?_)
          replace hP : va_P D vwCl ([(r 0, .inr (5, [.ref (r 1), .ref (r 2), .ref (r 3), .ref (r 4), .ref (r 5), .ref (r 6), .int (nI (sn_ B)), .int (qt_ B), .int (il_ B), .int (pa_ B), .int (ho_ B), .int (dy_ B), .ref (r 13), .ref (r 14), .ref (r 15), .ref (r 16), .int (nI (mtn_ M)), .int (nI (mrd_ M)), .int (nI (msm_ M)), .ref (r 20), .int (mhi_ M), .int (0), .int (nI (41 * 2 + 41)), .int (nI (mbk_ M)), .ref (r 25), .ref (r 26), .int (mlw_ M), .int (mhg_ M), .int (msl_ M), .ref (r 30), .int (nI 0), .ref (r 32), .int (mlo_ M)])), (r 1, .inl (cI, 7, .inl (mrf_ M))), (r 2, .inl (cI, 7, .inl (kd_ B))), (r 3, .inl (cI, 7, .inl (fg_ B))), (r 4, .inl (cI, 7, .inl (pl_ B))), (r 5, .inl (cI, 7, .inl (pw_ B))), (r 6, .inl (cI, 7, .inl (jy_ B))), (r 13, .inl (cI, 96, .inl (mtp_ M))), (r 14, .inl (cI, 48, .inl (mlt_ M))), (r 15, .inl (cI, 48, .inl (mla_ M))), (r 16, .inl (cI, 144, .inl (mtd_ M))), (r 20, .inl (cI, 451, .inl (flatK (va_up (mkp_ M) 2 B)))), (r 25, .inl (cI, 7, .inl (mof_ M))), (r 26, .inl (cI, 7, .inl (mfa_ M))), (r 30, .inl (cI, 12, .inl (mrw_ M))), (r 32, .inl (cI, 8, .inl (mhb_ M)))]) H := hP
          replace hD : va_D A ([(r 0, .inr (5, [.ref (r 1), .ref (r 2), .ref (r 3), .ref (r 4), .ref (r 5), .ref (r 6), .int (nI (sn_ B)), .int (qt_ B), .int (il_ B), .int (pa_ B), .int (ho_ B), .int (dy_ B), .ref (r 13), .ref (r 14), .ref (r 15), .ref (r 16), .int (nI (mtn_ M)), .int (nI (mrd_ M)), .int (nI (msm_ M)), .ref (r 20), .int (mhi_ M), .int (0), .int (nI (41 * 2 + 41)), .int (nI (mbk_ M)), .ref (r 25), .ref (r 26), .int (mlw_ M), .int (mhg_ M), .int (msl_ M), .ref (r 30), .int (nI 0), .ref (r 32), .int (mlo_ M)])), (r 1, .inl (cI, 7, .inl (mrf_ M))), (r 2, .inl (cI, 7, .inl (kd_ B))), (r 3, .inl (cI, 7, .inl (fg_ B))), (r 4, .inl (cI, 7, .inl (pl_ B))), (r 5, .inl (cI, 7, .inl (pw_ B))), (r 6, .inl (cI, 7, .inl (jy_ B))), (r 13, .inl (cI, 96, .inl (mtp_ M))), (r 14, .inl (cI, 48, .inl (mlt_ M))), (r 15, .inl (cI, 48, .inl (mla_ M))), (r 16, .inl (cI, 144, .inl (mtd_ M))), (r 20, .inl (cI, 451, .inl (flatK (va_up (mkp_ M) 2 B)))), (r 25, .inl (cI, 7, .inl (mof_ M))), (r 26, .inl (cI, 7, .inl (mfa_ M))), (r 30, .inl (cI, 12, .inl (mrw_ M))), (r 32, .inl (cI, 8, .inl (mhb_ M)))]) := hD
          refine lv_iload_n hx hb dX5_judge_81 rfl (lv_at hl 1 rfl) ?_
          refine rMi hx hb hr hlk hS (mkM (mrf_ M) (mtp_ M) (mlt_ M) (mla_ M) (mtd_ M) (va_up (mkp_ M) 2 B) (mof_ M) (mfa_ M) (mrw_ M) (mhb_ M) (mtn_ M) (mrd_ M) (msm_ M) (41 * 2 + 41) (mbk_ M) 0 (mhi_ M) 0 (mlw_ M) (mhg_ M) (msl_ M) (mlo_ M)) hP ?_ dX5_judge_82
          first | (rw [hL] at hre; simp only at hre; rw [fx_0 (by omega)] at hre; rw [← hre]; exact ⟨rfl, (oN_pp _ _).m⟩) | (rw [hL] at hre; simp only at hre; rw [← hre]; exact ⟨rfl, (oN_pp _ _).m⟩)
        · replace c_21 : ¬ nI (mrm_ M) ≤ nI i := c_21
          rw [jle (by omega) (by omega)] at c_21
          refine lv_iload_n hx hb dX5_judge_24 rfl (lv_at hl 1 rfl) ?_
          refine lv_if_ge (tgt := 77) hx hb dX5_judge_25 (by decide) (fun _ => ?_) (fun q => absurd (nI_pos' (by omega)) q)
          refine lv_aload_n hx hb dX5_judge_77 rfl (lv_at hl 3 rfl) ?_
          refine kMvV hx hb hml hown hts hK hP hD hA hS gX5_judge_X5_forgets okX5_forgets (qX5_forgetsE l D cI cB r (hs_ i B) (mkM (mrf_ M) (mtp_ M) (mlt_ M) (mla_ M) (mtd_ M) (va_up (mkp_ M) 2 B) (mof_ M) (mfa_ M) (mrw_ M) (mhb_ M) (mtn_ M) (mrd_ M) (msm_ M) (41 * 2 + 41) (mbk_ M) 0 (mhi_ M) 1 (mlw_ M) (mhg_ M) (msl_ M) (mlo_ M)) ) [0, 1, 2, 3, 4, 5, 6, 7, 8, 9, 10, 11, 12, 13, 14, 15] rfl (by decide) (fun _ => mW_adE rfl) rfl rfl rfl (by decide) hl.1 rfl rfl (Nat.le_of_ble_eq_true rfl) dX5_judge_78 (by decide) (fun u_25 H locs hw_26 hP hD hS => ?_)
          replace hP : va_P D vwCl ([(r 0, .inr (5, [.ref (r 1), .ref (r 2), .ref (r 3), .ref (r 4), .ref (r 5), .ref (r 6), .int (nI (sn_ B)), .int (qt_ B), .int (il_ B), .int (pa_ B), .int (ho_ B), .int (dy_ B), .ref (r 13), .ref (r 14), .ref (r 15), .ref (r 16), .int (nI (mtn_ M)), .int (nI (mrd_ M)), .int (nI (msm_ M)), .ref (r 20), .int (mhi_ M), .int (0), .int (nI (41 * 2 + 41)), .int (nI (mbk_ M)), .ref (r 25), .ref (r 26), .int (mlw_ M), .int (mhg_ M), .int (msl_ M), .ref (r 30), .int (nI 0), .ref (r 32), .int (mlo_ M)])), (r 1, .inl (cI, 7, .inl (mrf_ M))), (r 2, .inl (cI, 7, .inl (kd_ B))), (r 3, .inl (cI, 7, .inl (fg_ B))), (r 4, .inl (cI, 7, .inl (pl_ B))), (r 5, .inl (cI, 7, .inl (pw_ B))), (r 6, .inl (cI, 7, .inl (jy_ B))), (r 13, .inl (cI, 96, .inl (mtp_ M))), (r 14, .inl (cI, 48, .inl (mlt_ M))), (r 15, .inl (cI, 48, .inl (mla_ M))), (r 16, .inl (cI, 144, .inl (mtd_ M))), (r 20, .inl (cI, 451, .inl (flatK (va_up (mkp_ M) 2 B)))), (r 25, .inl (cI, 7, .inl (mof_ M))), (r 26, .inl (cI, 7, .inl (mfa_ M))), (r 30, .inl (cI, 12, .inl (mrw_ M))), (r 32, .inl (cI, 8, .inl (mhb_ M)))]) H := hP
          replace hD : va_D A ([(r 0, .inr (5, [.ref (r 1), .ref (r 2), .ref (r 3), .ref (r 4), .ref (r 5), .ref (r 6), .int (nI (sn_ B)), .int (qt_ B), .int (il_ B), .int (pa_ B), .int (ho_ B), .int (dy_ B), .ref (r 13), .ref (r 14), .ref (r 15), .ref (r 16), .int (nI (mtn_ M)), .int (nI (mrd_ M)), .int (nI (msm_ M)), .ref (r 20), .int (mhi_ M), .int (0), .int (nI (41 * 2 + 41)), .int (nI (mbk_ M)), .ref (r 25), .ref (r 26), .int (mlw_ M), .int (mhg_ M), .int (msl_ M), .ref (r 30), .int (nI 0), .ref (r 32), .int (mlo_ M)])), (r 1, .inl (cI, 7, .inl (mrf_ M))), (r 2, .inl (cI, 7, .inl (kd_ B))), (r 3, .inl (cI, 7, .inl (fg_ B))), (r 4, .inl (cI, 7, .inl (pl_ B))), (r 5, .inl (cI, 7, .inl (pw_ B))), (r 6, .inl (cI, 7, .inl (jy_ B))), (r 13, .inl (cI, 96, .inl (mtp_ M))), (r 14, .inl (cI, 48, .inl (mlt_ M))), (r 15, .inl (cI, 48, .inl (mla_ M))), (r 16, .inl (cI, 144, .inl (mtd_ M))), (r 20, .inl (cI, 451, .inl (flatK (va_up (mkp_ M) 2 B)))), (r 25, .inl (cI, 7, .inl (mof_ M))), (r 26, .inl (cI, 7, .inl (mfa_ M))), (r 30, .inl (cI, 12, .inl (mrw_ M))), (r 32, .inl (cI, 8, .inl (mhb_ M)))]) := hD
          refine lv_iload_n hx hb dX5_judge_81 rfl (lv_at hl 1 rfl) ?_
          refine rMi hx hb hr hlk hS (mkM (mrf_ M) (mtp_ M) (mlt_ M) (mla_ M) (mtd_ M) (va_up (mkp_ M) 2 B) (mof_ M) (mfa_ M) (mrw_ M) (mhb_ M) (mtn_ M) (mrd_ M) (msm_ M) (41 * 2 + 41) (mbk_ M) 0 (mhi_ M) 0 (mlw_ M) (mhg_ M) (msl_ M) (mlo_ M)) hP ?_ dX5_judge_82
          first | (rw [hL] at hre; simp only at hre; rw [fx_0 (by omega)] at hre; rw [← hre]; exact ⟨rfl, (oN_pp _ _).m⟩) | (rw [hL] at hre; simp only at hre; rw [← hre]; exact ⟨rfl, (oN_pp _ _).m⟩)
  exact lp_19 ((mrm_ M) + 1) 0 none (-9) 0 B (rfl) (by first | rfl | exact nI_0.symm) (rfl) (by omega) (fun t z => by cases z) (rfl) (by omega) _ _ hP hD hS ls (lv_sub hl [0, 1, 2, 3] rfl)

theorem okX5_lots : jok yX5_lots wsX5_lots cX5_lots 10 (some .int) 3 := ⟨⟨_, rfl⟩, by decide +kernel, by decide +kernel⟩
set_option maxHeartbeats 2000000 in
set_option maxRecDepth 100000 in
theorem qX5_lots (l : Launch) (D : va_G) (cI cB : ClassId) (r : Nat → Nat) (B : BayT) (M : MT) (v : Int32) (z : Int32) (q : Int32) (hI : bI_ B) : jMi D cI cB l yX5_lots wsX5_lots 7 [.ref (r 0), .int v, .int z, .int q] (mW cI r B M) (S := MT) (fun r u => r = (if f2_ (ob_ v 1 20) (uk_ q 1) = 0 then (if q = 0 then (dlz_ B z (tn_ v)).2.1 else (dlz_ B z (tn_ v)).2.2) else f2_ (ob_ v 1 20) (uk_ q 1)) ∧ oQ_ M u (f2_ (ob_ v 1 20) (uk_ q 1))) (fun u => mW cI r B u) := by
  refine jMi.of (cc := cX5_lots) (maxL := 10) (ret := (some .int)) okX5_lots (Nat.le_of_ble_eq_true rfl) ?_
  intro p e s m below meth c ls A hx hb hr hts hown hlk hml hP hK hD hA hS hl
  replace hown : s.vm.findClass RX5 = some m.cls := hown
  replace hl : lv_has ls 10 [(0, .ref (r 0)), (1, .int v), (2, .int z), (3, .int q)] := hl
  have hn7 := hI.1
  have hinX5 : ∀ w ∈ wsX50, w ∈ wsX5_lots := by decide +kernel
  refine lv_iload_n hx hb dX5_lots_0 rfl (lv_at hl 1 rfl) ?_
  refine lv_iconst (v := 1) hx hb dX5_lots_1 (by decide) ?_
  refine lv_bipush (v := 20) hx hb dX5_lots_2 (by decide) ?_
  refine kSiS hx hb hml hown hts hK hP gX5_lots_X5_bound okX5_bound (qX5_bound l D cI cB v 1 20 ) [] rfl (by decide) hl.1 rfl rfl (Nat.le_of_ble_eq_true rfl) dX5_lots_4 (by decide) (fun r_1 hr_2 => ?_)
  replace hr_2 : r_1 = ob_ v 1 20 := hr_2
  subst r_1
  refine lv_istore (lv' := [(4, .int (ob_ v 1 20)), (0, .ref (r 0)), (1, .int v), (2, .int z), (3, .int q)]) hx hb dX5_lots_7 hl (by decide) rfl (fun ls hl => ?_)
  have jn_27 : ∀  (x4_27 : Int32) , (x4_27 = f2_ (ob_ v 1 20) (uk_ q 1)) → ∀ (H : Heap) (locs : List Loc), va_P D vwCl (mW cI r B M) H → va_D A (mW cI r B M) → va_S A s.heap H locs → ∀ ls : Array Slot, lv_has ls 10 [(4, .int x4_27), (0, .ref (r 0)), (1, .int v), (2, .int z), (3, .int q)] → W p l e (jR 7) s m ([.ref (r 0), .int v, .int z, .int q] : List Value).toArray below meth c H locs 0 0 (MQ below (va_Qi (S := MT) (fun r u => r = (if f2_ (ob_ v 1 20) (uk_ q 1) = 0 then (if q = 0 then (dlz_ B z (tn_ v)).2.1 else (dlz_ B z (tn_ v)).2.2) else f2_ (ob_ v 1 20) (uk_ q 1)) ∧ oQ_ M u (f2_ (ob_ v 1 20) (uk_ q 1))) (fun u t => va_P D vwCl ((fun u => mW cI r B u) u) t.heap) A) ([.ref (r 0), .int v, .int z, .int q] : List Value).toArray s 0 0 A) (F0 m 27 ls []) := by
      intro x4_27 hx4_27 H locs hP hD hS ls hl
      subst x4_27
      replace hl : lv_has ls 10 [(4, .int (f2_ (ob_ v 1 20) (uk_ q 1))), (0, .ref (r 0)), (1, .int v), (2, .int z), (3, .int q)] := hl
      replace hP : va_P D vwCl (mW cI r B M) H := hP
      replace hD : va_D A (mW cI r B M) := hD
      refine lv_iload hx hb dX5_lots_27 (lv_at hl 0 rfl) ?_
      refine lv_if_eq (tgt := 39) hx hb dX5_lots_29 (by decide) (fun c_29 => ?_) (fun c_29 => ?_)
      · skip
        have w0 := c_29
        simp only [wS_, wSN_, wSNW_, wNW_, wTh_, wTr_, f2_0, nb_0, ob_0, uk_0, lo_0, hi_0] at w0
        obtain ⟨v_, hv_, rfl⟩ := pl_le (n := 20) (by decide) ⟨Int32.le_trans (by decide) w0.1.1, w0.1.2⟩
        replace hl : lv_has ls 10 [(4, .int (f2_ (ob_ (nI v_) 1 20) (uk_ q 1))), (0, .ref (r 0)), (1, .int (nI v_)), (2, .int z), (3, .int q)] := hl
        refine lv_aload_n hx hb dX5_lots_39 rfl (lv_at hl 1 rfl) ?_
        refine lv_iload_n hx hb dX5_lots_40 rfl (lv_at hl 3 rfl) ?_
        refine va_put (ci := 5) (ty := .int) (C := RX5) (T := TX5) (N := 33) hx hb hts hinX5 tyX5 tyX5_ok nmX5 hown hK.1 hP hD hS 0 rfl rfl 32 (by decide) (hts _ (List.mem_of_getElem? (i := 1) rfl)) (fun _ h9 => h9) rfl (by decide +kernel) (rfl) (rfl) (Nat.le_of_ble_eq_true rfl) dX5_lots_41 (fun H locs hP hD hS => ?_)
        replace hP : va_P D vwCl ([(r 0, .inr (5, [.ref (r 1), .ref (r 2), .ref (r 3), .ref (r 4), .ref (r 5), .ref (r 6), .int (nI (sn_ B)), .int (qt_ B), .int (il_ B), .int (pa_ B), .int (ho_ B), .int (dy_ B), .ref (r 13), .ref (r 14), .ref (r 15), .ref (r 16), .int (nI (mtn_ M)), .int (nI (mrd_ M)), .int (nI (msm_ M)), .ref (r 20), .int (mhi_ M), .int (mik_ M), .int (nI (mcu_ M)), .int (nI (mbk_ M)), .ref (r 25), .ref (r 26), .int (mlw_ M), .int (mhg_ M), .int (msl_ M), .ref (r 30), .int (nI (mrm_ M)), .ref (r 32), .int (z)])), (r 1, .inl (cI, 7, .inl (mrf_ M))), (r 2, .inl (cI, 7, .inl (kd_ B))), (r 3, .inl (cI, 7, .inl (fg_ B))), (r 4, .inl (cI, 7, .inl (pl_ B))), (r 5, .inl (cI, 7, .inl (pw_ B))), (r 6, .inl (cI, 7, .inl (jy_ B))), (r 13, .inl (cI, 96, .inl (mtp_ M))), (r 14, .inl (cI, 48, .inl (mlt_ M))), (r 15, .inl (cI, 48, .inl (mla_ M))), (r 16, .inl (cI, 144, .inl (mtd_ M))), (r 20, .inl (cI, 451, .inl (flatK (mkp_ M)))), (r 25, .inl (cI, 7, .inl (mof_ M))), (r 26, .inl (cI, 7, .inl (mfa_ M))), (r 30, .inl (cI, 12, .inl (mrw_ M))), (r 32, .inl (cI, 8, .inl (mhb_ M)))]) H := hP
        replace hD : va_D A ([(r 0, .inr (5, [.ref (r 1), .ref (r 2), .ref (r 3), .ref (r 4), .ref (r 5), .ref (r 6), .int (nI (sn_ B)), .int (qt_ B), .int (il_ B), .int (pa_ B), .int (ho_ B), .int (dy_ B), .ref (r 13), .ref (r 14), .ref (r 15), .ref (r 16), .int (nI (mtn_ M)), .int (nI (mrd_ M)), .int (nI (msm_ M)), .ref (r 20), .int (mhi_ M), .int (mik_ M), .int (nI (mcu_ M)), .int (nI (mbk_ M)), .ref (r 25), .ref (r 26), .int (mlw_ M), .int (mhg_ M), .int (msl_ M), .ref (r 30), .int (nI (mrm_ M)), .ref (r 32), .int (z)])), (r 1, .inl (cI, 7, .inl (mrf_ M))), (r 2, .inl (cI, 7, .inl (kd_ B))), (r 3, .inl (cI, 7, .inl (fg_ B))), (r 4, .inl (cI, 7, .inl (pl_ B))), (r 5, .inl (cI, 7, .inl (pw_ B))), (r 6, .inl (cI, 7, .inl (jy_ B))), (r 13, .inl (cI, 96, .inl (mtp_ M))), (r 14, .inl (cI, 48, .inl (mlt_ M))), (r 15, .inl (cI, 48, .inl (mla_ M))), (r 16, .inl (cI, 144, .inl (mtd_ M))), (r 20, .inl (cI, 451, .inl (flatK (mkp_ M)))), (r 25, .inl (cI, 7, .inl (mof_ M))), (r 26, .inl (cI, 7, .inl (mfa_ M))), (r 30, .inl (cI, 12, .inl (mrw_ M))), (r 32, .inl (cI, 8, .inl (mhb_ M)))]) := hD
        refine lv_iconst (v := 0) hx hb dX5_lots_44 (by decide) ?_
        refine lv_istore (lv' := [(5, .int 0), (4, .int (f2_ (ob_ (nI v_) 1 20) (uk_ q 1))), (0, .ref (r 0)), (1, .int (nI v_)), (2, .int z), (3, .int q)]) hx hb dX5_lots_45 hl (by decide) rfl (fun ls hl => ?_)
        refine lv_iconst (v := 0) hx hb dX5_lots_47 (by decide) ?_
        refine lv_istore (lv' := [(6, .int 0), (5, .int 0), (4, .int (f2_ (ob_ (nI v_) 1 20) (uk_ q 1))), (0, .ref (r 0)), (1, .int (nI v_)), (2, .int z), (3, .int q)]) hx hb dX5_lots_48 hl (by decide) rfl (fun ls hl => ?_)
        refine lv_aload_n hx hb dX5_lots_50 rfl (lv_at hl 3 rfl) ?_
        refine kSiV hx hb hml hown hts hK hP gX5_lots_X5_allJoy okX5_allJoy (qX5_allJoy l D cI cB r B (mkM (mrf_ M) (mtp_ M) (mlt_ M) (mla_ M) (mtd_ M) (mkp_ M) (mof_ M) (mfa_ M) (mrw_ M) (mhb_ M) (mtn_ M) (mrd_ M) (msm_ M) (mcu_ M) (mbk_ M) (mrm_ M) (mhi_ M) (mik_ M) (mlw_ M) (mhg_ M) (msl_ M) z) (by show sn_ B ≤ 7; omega)) [0, 1, 2, 3, 4, 5, 6, 7, 8, 9, 10, 11, 12, 13, 14, 15] rfl rfl rfl rfl (by decide) hl.1 rfl rfl (Nat.le_of_ble_eq_true rfl) dX5_lots_51 (by decide) (fun r_3 hr_4 => ?_)
        replace hr_4 : r_3 = su_ (jy_ B) (sn_ B) := hr_4
        subst r_3
        refine lv_istore (lv' := [(7, .int (su_ (jy_ B) (sn_ B))), (6, .int 0), (5, .int 0), (4, .int (f2_ (ob_ (nI v_) 1 20) (uk_ q 1))), (0, .ref (r 0)), (1, .int (nI v_)), (2, .int z), (3, .int q)]) hx hb dX5_lots_54 hl (by decide) rfl (fun ls hl => ?_)
        refine lv_iconst (v := 0) hx hb dX5_lots_56 (by decide) ?_
        refine lv_istore (lv' := [(8, .int 0), (7, .int (su_ (jy_ B) (sn_ B))), (6, .int 0), (5, .int 0), (4, .int (f2_ (ob_ (nI v_) 1 20) (uk_ q 1))), (0, .ref (r 0)), (1, .int (nI v_)), (2, .int z), (3, .int q)]) hx hb dX5_lots_57 hl (by decide) rfl (fun ls hl => ?_)
        have lp_59 : ∀ (fu_59 : Nat) (i : Nat) (x5_59 : Int32) (x6_59 : Int32) (x8_59 : Int32) (M2 : MT), (x5_59 = (dlz_ B z i).2.1) → (x6_59 = (dlz_ B z i).2.2) → (x8_59 = nI i) → (i ≤ v_) → (oN_ M M2) → (mlo_ M2 = (dlz_ B z i).1) → v_ - i < fu_59 → ∀ (H : Heap) (locs : List Loc), va_P D vwCl (mW cI r B M2) H → va_D A (mW cI r B M2) → va_S A s.heap H locs → ∀ ls : Array Slot, lv_has ls 10 [(8, .int x8_59), (7, .int (su_ (jy_ B) (sn_ B))), (6, .int x6_59), (5, .int x5_59), (4, .int (f2_ (ob_ (nI v_) 1 20) (uk_ q 1))), (0, .ref (r 0)), (1, .int (nI v_)), (2, .int z), (3, .int q)] → W p l e (jR 7) s m ([.ref (r 0), .int (nI v_), .int z, .int q] : List Value).toArray below meth c H locs 0 0 (MQ below (va_Qi (S := MT) (fun r u => r = (if f2_ (ob_ (nI v_) 1 20) (uk_ q 1) = 0 then (if q = 0 then (dlz_ B z (tn_ (nI v_))).2.1 else (dlz_ B z (tn_ (nI v_))).2.2) else f2_ (ob_ (nI v_) 1 20) (uk_ q 1)) ∧ oQ_ M u (f2_ (ob_ (nI v_) 1 20) (uk_ q 1))) (fun u t => va_P D vwCl ((fun u => mW cI r B u) u) t.heap) A) ([.ref (r 0), .int (nI v_), .int z, .int q] : List Value).toArray s 0 0 A) (F0 m 59 ls []) := by
          intro fu_59
          induction fu_59 with
          | zero => intro i x5_59 x6_59 x8_59 M2 hx5_59 hx6_59 hx8_59 hi hM hlo hfu; exact absurd hfu (Nat.not_lt_zero _)
          | succ fu_59 ih_59 =>
            intro i x5_59 x6_59 x8_59 M2 hx5_59 hx6_59 hx8_59 hi hM hlo hfu_59 H locs hP hD hS ls hl
            subst x5_59
            subst x6_59
            subst x8_59
            replace hl : lv_has ls 10 [(8, .int (nI i)), (7, .int (su_ (jy_ B) (sn_ B))), (6, .int ((dlz_ B z i).2.2)), (5, .int ((dlz_ B z i).2.1)), (4, .int (f2_ (ob_ (nI v_) 1 20) (uk_ q 1))), (0, .ref (r 0)), (1, .int (nI v_)), (2, .int z), (3, .int q)] := hl
            replace hP : va_P D vwCl (mW cI r B M2) H := hP
            replace hD : va_D A (mW cI r B M2) := hD
            refine lv_iload hx hb dX5_lots_59 (lv_at hl 0 rfl) ?_
            refine lv_iload_n hx hb dX5_lots_61 rfl (lv_at hl 6 rfl) ?_
            refine lv_icmp_ge (tgt := 160) hx hb dX5_lots_62 (by decide) (fun c_62 => ?_) (fun c_62 => ?_)
            · replace c_62 : nI v_ ≤ nI i := c_62
              rw [jle (by omega) (by omega)] at c_62
              refine lv_iload_n hx hb dX5_lots_160 rfl (lv_at hl 8 rfl) ?_
              refine lv_if_ne (tgt := 169) hx hb dX5_lots_161 (by decide) (fun c_161 => ?_) (fun c_161 => ?_)
              · skip
                refine lv_iload hx hb dX5_lots_169 (lv_at hl 2 rfl) ?_
                refine rMi hx hb hr hlk hS M2 hP ?_ dX5_lots_171
                first | exact ⟨(if_neg c_29).symm, oQ_n _ _⟩ | (refine ⟨?_, oQ_0 c_29 ?_⟩; · (rw [if_pos c_29]; simp only [tn_n (show v_ < 2147483648 by omega)]; have e9 : i = v_ := by omega; subst e9; first | (rw [if_pos c_161]; done) | (rw [if_neg c_161]; done) | (rw [if_pos c_161]; rfl) | (rw [if_neg c_161]; rfl)); · (first | exact (oN_mk (by assumption)).m | exact oM_.rf _ | exact (oN_pp _ _).m | exact (oN_fo _ _ _ _).m | assumption | (apply oN_.m; assumption) | exact oM_.tr (by assumption) (by assumption)))
              · skip
                refine lv_iload hx hb dX5_lots_164 (lv_at hl 3 rfl) ?_
                refine lv_goto (tgt := 171) hx hb dX5_lots_166 (by decide) ?_
                refine rMi hx hb hr hlk hS M2 hP ?_ dX5_lots_171
                first | exact ⟨(if_neg c_29).symm, oQ_n _ _⟩ | (refine ⟨?_, oQ_0 c_29 ?_⟩; · (rw [if_pos c_29]; simp only [tn_n (show v_ < 2147483648 by omega)]; have e9 : i = v_ := by omega; subst e9; first | (rw [if_pos c_161]; done) | (rw [if_neg c_161]; done) | (rw [if_pos c_161]; rfl) | (rw [if_neg c_161]; rfl)); · (first | exact (oN_mk (by assumption)).m | exact oM_.rf _ | exact (oN_pp _ _).m | exact (oN_fo _ _ _ _).m | assumption | (apply oN_.m; assumption) | exact oM_.tr (by assumption) (by assumption)))
            · replace c_62 : ¬ nI v_ ≤ nI i := c_62
              rw [jle (by omega) (by omega)] at c_62
              refine lv_aload_n hx hb dX5_lots_65 rfl (lv_at hl 5 rfl) ?_
              refine kMvV hx hb hml hown hts hK hP hD hA hS gX5_lots_X5_thinks okX5_thinks (qX5_thinksE l D cI cB r B M2 ) [0, 1, 2, 3, 4, 5, 6, 7, 8, 9, 10, 11, 12, 13, 14, 15] rfl (by decide) (fun _ => mW_adE rfl) rfl rfl rfl (by decide) hl.1 rfl rfl (Nat.le_of_ble_eq_true rfl) dX5_lots_66 (by decide) (fun u_6 H locs hw_7 hP hD hS => ?_)
              replace hP : va_P D vwCl ([(r 0, .inr (5, [.ref (r 1), .ref (r 2), .ref (r 3), .ref (r 4), .ref (r 5), .ref (r 6), .int (nI (sn_ B)), .int (qt_ B), .int (il_ B), .int (pa_ B), .int (ho_ B), .int (dy_ B), .ref (r 13), .ref (r 14), .ref (r 15), .ref (r 16), .int (nI (mtn_ M2)), .int (nI (mrd_ M2)), .int (nI (msm_ M2)), .ref (r 20), .int (mhi_ M2), .int (1), .int (nI (41 * 2 + 41)), .int (nI (mbk_ M2)), .ref (r 25), .ref (r 26), .int (mlw_ M2), .int (mhg_ M2), .int (msl_ M2), .ref (r 30), .int (nI (mrm_ M2)), .ref (r 32), .int (mlo_ M2)])), (r 1, .inl (cI, 7, .inl (mrf_ M2))), (r 2, .inl (cI, 7, .inl (kd_ B))), (r 3, .inl (cI, 7, .inl (fg_ B))), (r 4, .inl (cI, 7, .inl (pl_ B))), (r 5, .inl (cI, 7, .inl (pw_ B))), (r 6, .inl (cI, 7, .inl (jy_ B))), (r 13, .inl (cI, 96, .inl (mtp_ M2))), (r 14, .inl (cI, 48, .inl (mlt_ M2))), (r 15, .inl (cI, 48, .inl (mla_ M2))), (r 16, .inl (cI, 144, .inl (mtd_ M2))), (r 20, .inl (cI, 451, .inl (flatK (va_up (mkp_ M2) 2 B)))), (r 25, .inl (cI, 7, .inl (mof_ M2))), (r 26, .inl (cI, 7, .inl (mfa_ M2))), (r 30, .inl (cI, 12, .inl (mrw_ M2))), (r 32, .inl (cI, 8, .inl (mhb_ M2)))]) H := hP
              replace hD : va_D A ([(r 0, .inr (5, [.ref (r 1), .ref (r 2), .ref (r 3), .ref (r 4), .ref (r 5), .ref (r 6), .int (nI (sn_ B)), .int (qt_ B), .int (il_ B), .int (pa_ B), .int (ho_ B), .int (dy_ B), .ref (r 13), .ref (r 14), .ref (r 15), .ref (r 16), .int (nI (mtn_ M2)), .int (nI (mrd_ M2)), .int (nI (msm_ M2)), .ref (r 20), .int (mhi_ M2), .int (1), .int (nI (41 * 2 + 41)), .int (nI (mbk_ M2)), .ref (r 25), .ref (r 26), .int (mlw_ M2), .int (mhg_ M2), .int (msl_ M2), .ref (r 30), .int (nI (mrm_ M2)), .ref (r 32), .int (mlo_ M2)])), (r 1, .inl (cI, 7, .inl (mrf_ M2))), (r 2, .inl (cI, 7, .inl (kd_ B))), (r 3, .inl (cI, 7, .inl (fg_ B))), (r 4, .inl (cI, 7, .inl (pl_ B))), (r 5, .inl (cI, 7, .inl (pw_ B))), (r 6, .inl (cI, 7, .inl (jy_ B))), (r 13, .inl (cI, 96, .inl (mtp_ M2))), (r 14, .inl (cI, 48, .inl (mlt_ M2))), (r 15, .inl (cI, 48, .inl (mla_ M2))), (r 16, .inl (cI, 144, .inl (mtd_ M2))), (r 20, .inl (cI, 451, .inl (flatK (va_up (mkp_ M2) 2 B)))), (r 25, .inl (cI, 7, .inl (mof_ M2))), (r 26, .inl (cI, 7, .inl (mfa_ M2))), (r 30, .inl (cI, 12, .inl (mrw_ M2))), (r 32, .inl (cI, 8, .inl (mhb_ M2)))]) := hD
              refine lv_aload_n hx hb dX5_lots_69 rfl (lv_at hl 5 rfl) ?_
              refine lv_aload_n hx hb dX5_lots_70 rfl (lv_at hl 5 rfl) ?_
              refine lv_bipush (v := 31) hx hb dX5_lots_71 (by decide) ?_
              refine kMiV hx hb hml hown hts hK hP hD hA hS gX5_lots_X5_draw okX5_draw (qX5_draw l D cI cB r B (mkM (mrf_ M2) (mtp_ M2) (mlt_ M2) (mla_ M2) (mtd_ M2) (va_up (mkp_ M2) 2 B) (mof_ M2) (mfa_ M2) (mrw_ M2) (mhb_ M2) (mtn_ M2) (mrd_ M2) (msm_ M2) (41 * 2 + 41) (mbk_ M2) (mrm_ M2) (mhi_ M2) 1 (mlw_ M2) (mhg_ M2) (msl_ M2) (mlo_ M2)) 31 (by decide)) [0, 1, 2, 3, 4, 5, 6, 7, 8, 9, 10, 11, 12, 13, 14, 15] rfl (by decide) (fun _ => mW_adr _ _ _ _ _ _) rfl rfl rfl (by decide) hl.1 rfl rfl (Nat.le_of_ble_eq_true rfl) dX5_lots_73 (by decide) (fun r_8 u_9 H locs hw_10 hP hD hS => ?_)
              replace hw_10 : r_8 = dz_ (nz_ (mlo_ M2)) 31 := hw_10
              subst r_8
              replace hP : va_P D vwCl ([(r 0, .inr (5, [.ref (r 1), .ref (r 2), .ref (r 3), .ref (r 4), .ref (r 5), .ref (r 6), .int (nI (sn_ B)), .int (qt_ B), .int (il_ B), .int (pa_ B), .int (ho_ B), .int (dy_ B), .ref (r 13), .ref (r 14), .ref (r 15), .ref (r 16), .int (nI (mtn_ M2)), .int (nI (mrd_ M2)), .int (nI (msm_ M2)), .ref (r 20), .int ((mhi_ M2)), .int (1), .int (nI (41 * 2 + 41)), .int (nI (mbk_ M2)), .ref (r 25), .ref (r 26), .int ((mlw_ M2)), .int ((mhg_ M2)), .int ((msl_ M2)), .ref (r 30), .int (nI (mrm_ M2)), .ref (r 32), .int ((nz_ (mlo_ M2)))])), (r 1, .inl (cI, 7, .inl (mrf_ M2))), (r 2, .inl (cI, 7, .inl (kd_ B))), (r 3, .inl (cI, 7, .inl (fg_ B))), (r 4, .inl (cI, 7, .inl (pl_ B))), (r 5, .inl (cI, 7, .inl (pw_ B))), (r 6, .inl (cI, 7, .inl (jy_ B))), (r 13, .inl (cI, 96, .inl (mtp_ M2))), (r 14, .inl (cI, 48, .inl (mlt_ M2))), (r 15, .inl (cI, 48, .inl (mla_ M2))), (r 16, .inl (cI, 144, .inl (mtd_ M2))), (r 20, .inl (cI, 451, .inl (flatK (va_up (mkp_ M2) 2 B)))), (r 25, .inl (cI, 7, .inl (mof_ M2))), (r 26, .inl (cI, 7, .inl (mfa_ M2))), (r 30, .inl (cI, 12, .inl (mrw_ M2))), (r 32, .inl (cI, 8, .inl (mhb_ M2)))]) H := hP
              replace hD : va_D A ([(r 0, .inr (5, [.ref (r 1), .ref (r 2), .ref (r 3), .ref (r 4), .ref (r 5), .ref (r 6), .int (nI (sn_ B)), .int (qt_ B), .int (il_ B), .int (pa_ B), .int (ho_ B), .int (dy_ B), .ref (r 13), .ref (r 14), .ref (r 15), .ref (r 16), .int (nI (mtn_ M2)), .int (nI (mrd_ M2)), .int (nI (msm_ M2)), .ref (r 20), .int ((mhi_ M2)), .int (1), .int (nI (41 * 2 + 41)), .int (nI (mbk_ M2)), .ref (r 25), .ref (r 26), .int ((mlw_ M2)), .int ((mhg_ M2)), .int ((msl_ M2)), .ref (r 30), .int (nI (mrm_ M2)), .ref (r 32), .int ((nz_ (mlo_ M2)))])), (r 1, .inl (cI, 7, .inl (mrf_ M2))), (r 2, .inl (cI, 7, .inl (kd_ B))), (r 3, .inl (cI, 7, .inl (fg_ B))), (r 4, .inl (cI, 7, .inl (pl_ B))), (r 5, .inl (cI, 7, .inl (pw_ B))), (r 6, .inl (cI, 7, .inl (jy_ B))), (r 13, .inl (cI, 96, .inl (mtp_ M2))), (r 14, .inl (cI, 48, .inl (mlt_ M2))), (r 15, .inl (cI, 48, .inl (mla_ M2))), (r 16, .inl (cI, 144, .inl (mtd_ M2))), (r 20, .inl (cI, 451, .inl (flatK (va_up (mkp_ M2) 2 B)))), (r 25, .inl (cI, 7, .inl (mof_ M2))), (r 26, .inl (cI, 7, .inl (mfa_ M2))), (r 30, .inl (cI, 12, .inl (mrw_ M2))), (r 32, .inl (cI, 8, .inl (mhb_ M2)))]) := hD
              refine lv_topi (fun y_11 ey_11 => ?_)
              replace ey_11 : y_11 = dz_ (nz_ (mlo_ M2)) 31 := ey_11
              refine va_put (ci := 5) (ty := .int) (C := RX5) (T := TX5) (N := 33) hx hb hts hinX5 tyX5 tyX5_ok nmX5 hown hK.1 hP hD hS 0 rfl rfl 8 (by decide) (hts _ (List.mem_of_getElem? (i := 2) rfl)) (fun _ h9 => h9) rfl (by decide +kernel) (rfl) (rfl) (Nat.le_of_ble_eq_true rfl) dX5_lots_76 (fun H locs hP hD hS => ?_)
              replace hP : va_P D vwCl ([(r 0, .inr (5, [.ref (r 1), .ref (r 2), .ref (r 3), .ref (r 4), .ref (r 5), .ref (r 6), .int (nI (sn_ B)), .int (qt_ B), .int (y_11), .int (pa_ B), .int (ho_ B), .int (dy_ B), .ref (r 13), .ref (r 14), .ref (r 15), .ref (r 16), .int (nI (mtn_ M2)), .int (nI (mrd_ M2)), .int (nI (msm_ M2)), .ref (r 20), .int ((mhi_ M2)), .int (1), .int (nI (41 * 2 + 41)), .int (nI (mbk_ M2)), .ref (r 25), .ref (r 26), .int ((mlw_ M2)), .int ((mhg_ M2)), .int ((msl_ M2)), .ref (r 30), .int (nI (mrm_ M2)), .ref (r 32), .int ((nz_ (mlo_ M2)))])), (r 1, .inl (cI, 7, .inl (mrf_ M2))), (r 2, .inl (cI, 7, .inl (kd_ B))), (r 3, .inl (cI, 7, .inl (fg_ B))), (r 4, .inl (cI, 7, .inl (pl_ B))), (r 5, .inl (cI, 7, .inl (pw_ B))), (r 6, .inl (cI, 7, .inl (jy_ B))), (r 13, .inl (cI, 96, .inl (mtp_ M2))), (r 14, .inl (cI, 48, .inl (mlt_ M2))), (r 15, .inl (cI, 48, .inl (mla_ M2))), (r 16, .inl (cI, 144, .inl (mtd_ M2))), (r 20, .inl (cI, 451, .inl (flatK (va_up (mkp_ M2) 2 B)))), (r 25, .inl (cI, 7, .inl (mof_ M2))), (r 26, .inl (cI, 7, .inl (mfa_ M2))), (r 30, .inl (cI, 12, .inl (mrw_ M2))), (r 32, .inl (cI, 8, .inl (mhb_ M2)))]) H := hP
              replace hD : va_D A ([(r 0, .inr (5, [.ref (r 1), .ref (r 2), .ref (r 3), .ref (r 4), .ref (r 5), .ref (r 6), .int (nI (sn_ B)), .int (qt_ B), .int (y_11), .int (pa_ B), .int (ho_ B), .int (dy_ B), .ref (r 13), .ref (r 14), .ref (r 15), .ref (r 16), .int (nI (mtn_ M2)), .int (nI (mrd_ M2)), .int (nI (msm_ M2)), .ref (r 20), .int ((mhi_ M2)), .int (1), .int (nI (41 * 2 + 41)), .int (nI (mbk_ M2)), .ref (r 25), .ref (r 26), .int ((mlw_ M2)), .int ((mhg_ M2)), .int ((msl_ M2)), .ref (r 30), .int (nI (mrm_ M2)), .ref (r 32), .int ((nz_ (mlo_ M2)))])), (r 1, .inl (cI, 7, .inl (mrf_ M2))), (r 2, .inl (cI, 7, .inl (kd_ B))), (r 3, .inl (cI, 7, .inl (fg_ B))), (r 4, .inl (cI, 7, .inl (pl_ B))), (r 5, .inl (cI, 7, .inl (pw_ B))), (r 6, .inl (cI, 7, .inl (jy_ B))), (r 13, .inl (cI, 96, .inl (mtp_ M2))), (r 14, .inl (cI, 48, .inl (mlt_ M2))), (r 15, .inl (cI, 48, .inl (mla_ M2))), (r 16, .inl (cI, 144, .inl (mtd_ M2))), (r 20, .inl (cI, 451, .inl (flatK (va_up (mkp_ M2) 2 B)))), (r 25, .inl (cI, 7, .inl (mof_ M2))), (r 26, .inl (cI, 7, .inl (mfa_ M2))), (r 30, .inl (cI, 12, .inl (mrw_ M2))), (r 32, .inl (cI, 8, .inl (mhb_ M2)))]) := hD
              refine lv_iconst (v := 0) hx hb dX5_lots_79 (by decide) ?_
              refine lv_istore (lv' := [(9, .int 0), (8, .int (nI i)), (7, .int (su_ (jy_ B) (sn_ B))), (6, .int ((dlz_ B z i).2.2)), (5, .int ((dlz_ B z i).2.1)), (4, .int (f2_ (ob_ (nI v_) 1 20) (uk_ q 1))), (0, .ref (r 0)), (1, .int (nI v_)), (2, .int z), (3, .int q)]) hx hb dX5_lots_80 hl (by decide) rfl (fun ls hl => ?_)
              (try rw [ey_11] at hP); (try rw [ey_11] at hD); (try rw [ey_11] at hl); (try rw [ey_11] at c_62); (try rw [ey_11])
              have lp_82 : ∀ (fu_82 : Nat) (j : Nat) (x9_82 : Int32) (T3 : BayT) (M3 : MT), (x9_82 = nI j) → (T3 = layz_ B (dlz_ B z i).1 j) → (j ≤ sn_ B) → (oN_ M2 M3) → (mlo_ M3 = (lqz_ B (dlz_ B z i).1 j).1) → (mkp_ M3 2 = B) → sn_ B - j < fu_82 → ∀ (H : Heap) (locs : List Loc), va_P D vwCl (mW cI r T3 M3) H → va_D A (mW cI r T3 M3) → va_S A s.heap H locs → ∀ ls : Array Slot, lv_has ls 10 [(9, .int x9_82), (8, .int (nI i)), (7, .int (su_ (jy_ B) (sn_ B))), (6, .int ((dlz_ B z i).2.2)), (5, .int ((dlz_ B z i).2.1)), (4, .int (f2_ (ob_ (nI v_) 1 20) (uk_ q 1))), (0, .ref (r 0)), (1, .int (nI v_)), (2, .int z), (3, .int q)] → W p l e (jR 7) s m ([.ref (r 0), .int (nI v_), .int z, .int q] : List Value).toArray below meth c H locs 0 0 (MQ below (va_Qi (S := MT) (fun r u => r = (if f2_ (ob_ (nI v_) 1 20) (uk_ q 1) = 0 then (if q = 0 then (dlz_ B z (tn_ (nI v_))).2.1 else (dlz_ B z (tn_ (nI v_))).2.2) else f2_ (ob_ (nI v_) 1 20) (uk_ q 1)) ∧ oQ_ M u (f2_ (ob_ (nI v_) 1 20) (uk_ q 1))) (fun u t => va_P D vwCl ((fun u => mW cI r B u) u) t.heap) A) ([.ref (r 0), .int (nI v_), .int z, .int q] : List Value).toArray s 0 0 A) (F0 m 82 ls []) := by
                intro fu_82
                induction fu_82 with
                | zero => intro j x9_82 T3 M3 hx9_82 hT3 hj hM3 hlo3 hk3 hfu; exact absurd hfu (Nat.not_lt_zero _)
                | succ fu_82 ih_82 =>
                  intro j x9_82 T3 M3 hx9_82 hT3 hj hM3 hlo3 hk3 hfu_82 H locs hP hD hS ls hl
                  subst x9_82
                  subst T3
                  replace hl : lv_has ls 10 [(9, .int (nI j)), (8, .int (nI i)), (7, .int (su_ (jy_ B) (sn_ B))), (6, .int ((dlz_ B z i).2.2)), (5, .int ((dlz_ B z i).2.1)), (4, .int (f2_ (ob_ (nI v_) 1 20) (uk_ q 1))), (0, .ref (r 0)), (1, .int (nI v_)), (2, .int z), (3, .int q)] := hl
                  replace hP : va_P D vwCl ([(r 0, .inr (5, [.ref (r 1), .ref (r 2), .ref (r 3), .ref (r 4), .ref (r 5), .ref (r 6), .int (nI (sn_ B)), .int ((lqz_ B (dlz_ B z i).1 j).2), .int (dz_ (nz_ (dlz_ B z i).1) 31), .int (pa_ B), .int (ho_ B), .int (dy_ B), .ref (r 13), .ref (r 14), .ref (r 15), .ref (r 16), .int (nI (mtn_ M3)), .int (nI (mrd_ M3)), .int (nI (msm_ M3)), .ref (r 20), .int (mhi_ M3), .int (mik_ M3), .int (nI (mcu_ M3)), .int (nI (mbk_ M3)), .ref (r 25), .ref (r 26), .int (mlw_ M3), .int (mhg_ M3), .int (msl_ M3), .ref (r 30), .int (nI (mrm_ M3)), .ref (r 32), .int (mlo_ M3)])), (r 1, .inl (cI, 7, .inl (mrf_ M3))), (r 2, .inl (cI, 7, .inl (kd_ B))), (r 3, .inl (cI, 7, .inl (fg_ B))), (r 4, .inl (cI, 7, .inl (pl_ B))), (r 5, .inl (cI, 7, .inl (pw_ B))), (r 6, .inl (cI, 7, .inl (jy_ B))), (r 13, .inl (cI, 96, .inl (mtp_ M3))), (r 14, .inl (cI, 48, .inl (mlt_ M3))), (r 15, .inl (cI, 48, .inl (mla_ M3))), (r 16, .inl (cI, 144, .inl (mtd_ M3))), (r 20, .inl (cI, 451, .inl (flatK (mkp_ M3)))), (r 25, .inl (cI, 7, .inl (mof_ M3))), (r 26, .inl (cI, 7, .inl (mfa_ M3))), (r 30, .inl (cI, 12, .inl (mrw_ M3))), (r 32, .inl (cI, 8, .inl (mhb_ M3)))]) H := hP
                  replace hD : va_D A ([(r 0, .inr (5, [.ref (r 1), .ref (r 2), .ref (r 3), .ref (r 4), .ref (r 5), .ref (r 6), .int (nI (sn_ B)), .int ((lqz_ B (dlz_ B z i).1 j).2), .int (dz_ (nz_ (dlz_ B z i).1) 31), .int (pa_ B), .int (ho_ B), .int (dy_ B), .ref (r 13), .ref (r 14), .ref (r 15), .ref (r 16), .int (nI (mtn_ M3)), .int (nI (mrd_ M3)), .int (nI (msm_ M3)), .ref (r 20), .int (mhi_ M3), .int (mik_ M3), .int (nI (mcu_ M3)), .int (nI (mbk_ M3)), .ref (r 25), .ref (r 26), .int (mlw_ M3), .int (mhg_ M3), .int (msl_ M3), .ref (r 30), .int (nI (mrm_ M3)), .ref (r 32), .int (mlo_ M3)])), (r 1, .inl (cI, 7, .inl (mrf_ M3))), (r 2, .inl (cI, 7, .inl (kd_ B))), (r 3, .inl (cI, 7, .inl (fg_ B))), (r 4, .inl (cI, 7, .inl (pl_ B))), (r 5, .inl (cI, 7, .inl (pw_ B))), (r 6, .inl (cI, 7, .inl (jy_ B))), (r 13, .inl (cI, 96, .inl (mtp_ M3))), (r 14, .inl (cI, 48, .inl (mlt_ M3))), (r 15, .inl (cI, 48, .inl (mla_ M3))), (r 16, .inl (cI, 144, .inl (mtd_ M3))), (r 20, .inl (cI, 451, .inl (flatK (mkp_ M3)))), (r 25, .inl (cI, 7, .inl (mof_ M3))), (r 26, .inl (cI, 7, .inl (mfa_ M3))), (r 30, .inl (cI, 12, .inl (mrw_ M3))), (r 32, .inl (cI, 8, .inl (mhb_ M3)))]) := hD
                  refine lv_iload hx hb dX5_lots_82 (lv_at hl 0 rfl) ?_
                  refine lv_aload_n hx hb dX5_lots_84 rfl (lv_at hl 6 rfl) ?_
                  refine va_get (ci := 5) (C := RX5) (T := TX5) (N := 33) hx hb hts hinX5 hown hK.1 hP 0 rfl rfl 6 (by decide) (hts _ (List.mem_of_getElem? (i := 3) rfl)) (fun _ h9 => h9) rfl dX5_lots_85 ?_
                  refine lv_icmp_ge (tgt := 115) hx hb dX5_lots_88 (by decide) (fun c_88 => ?_) (fun c_88 => ?_)
                  · replace c_88 : nI (sn_ B) ≤ nI j := c_88
                    rw [jle (by omega) (by omega)] at c_88
                    have e8 : j = sn_ B := by omega
                    subst e8
                    replace hP : va_P D vwCl ([(r 0, .inr (5, [.ref (r 1), .ref (r 2), .ref (r 3), .ref (r 4), .ref (r 5), .ref (r 6), .int (nI (sn_ B)), .int ((lqz_ B (dlz_ B z i).1 (sn_ B)).2), .int (dz_ (nz_ (dlz_ B z i).1) 31), .int (pa_ B), .int (ho_ B), .int (dy_ B), .ref (r 13), .ref (r 14), .ref (r 15), .ref (r 16), .int (nI (mtn_ M3)), .int (nI (mrd_ M3)), .int (nI (msm_ M3)), .ref (r 20), .int (mhi_ M3), .int (mik_ M3), .int (nI (mcu_ M3)), .int (nI (mbk_ M3)), .ref (r 25), .ref (r 26), .int (mlw_ M3), .int (mhg_ M3), .int (msl_ M3), .ref (r 30), .int (nI (mrm_ M3)), .ref (r 32), .int (mlo_ M3)])), (r 1, .inl (cI, 7, .inl (mrf_ M3))), (r 2, .inl (cI, 7, .inl (kd_ B))), (r 3, .inl (cI, 7, .inl (fg_ B))), (r 4, .inl (cI, 7, .inl (pl_ B))), (r 5, .inl (cI, 7, .inl (pw_ B))), (r 6, .inl (cI, 7, .inl (jy_ B))), (r 13, .inl (cI, 96, .inl (mtp_ M3))), (r 14, .inl (cI, 48, .inl (mlt_ M3))), (r 15, .inl (cI, 48, .inl (mla_ M3))), (r 16, .inl (cI, 144, .inl (mtd_ M3))), (r 20, .inl (cI, 451, .inl (flatK (mkp_ M3)))), (r 25, .inl (cI, 7, .inl (mof_ M3))), (r 26, .inl (cI, 7, .inl (mfa_ M3))), (r 30, .inl (cI, 12, .inl (mrw_ M3))), (r 32, .inl (cI, 8, .inl (mhb_ M3)))]) H := hP
                    replace hD : va_D A ([(r 0, .inr (5, [.ref (r 1), .ref (r 2), .ref (r 3), .ref (r 4), .ref (r 5), .ref (r 6), .int (nI (sn_ B)), .int ((lqz_ B (dlz_ B z i).1 (sn_ B)).2), .int (dz_ (nz_ (dlz_ B z i).1) 31), .int (pa_ B), .int (ho_ B), .int (dy_ B), .ref (r 13), .ref (r 14), .ref (r 15), .ref (r 16), .int (nI (mtn_ M3)), .int (nI (mrd_ M3)), .int (nI (msm_ M3)), .ref (r 20), .int (mhi_ M3), .int (mik_ M3), .int (nI (mcu_ M3)), .int (nI (mbk_ M3)), .ref (r 25), .ref (r 26), .int (mlw_ M3), .int (mhg_ M3), .int (msl_ M3), .ref (r 30), .int (nI (mrm_ M3)), .ref (r 32), .int (mlo_ M3)])), (r 1, .inl (cI, 7, .inl (mrf_ M3))), (r 2, .inl (cI, 7, .inl (kd_ B))), (r 3, .inl (cI, 7, .inl (fg_ B))), (r 4, .inl (cI, 7, .inl (pl_ B))), (r 5, .inl (cI, 7, .inl (pw_ B))), (r 6, .inl (cI, 7, .inl (jy_ B))), (r 13, .inl (cI, 96, .inl (mtp_ M3))), (r 14, .inl (cI, 48, .inl (mlt_ M3))), (r 15, .inl (cI, 48, .inl (mla_ M3))), (r 16, .inl (cI, 144, .inl (mtd_ M3))), (r 20, .inl (cI, 451, .inl (flatK (mkp_ M3)))), (r 25, .inl (cI, 7, .inl (mof_ M3))), (r 26, .inl (cI, 7, .inl (mfa_ M3))), (r 30, .inl (cI, 12, .inl (mrw_ M3))), (r 32, .inl (cI, 8, .inl (mhb_ M3)))]) := hD
                    replace hl : lv_has ls 10 [(9, .int (nI (sn_ B))), (8, .int (nI i)), (7, .int (su_ (jy_ B) (sn_ B))), (6, .int ((dlz_ B z i).2.2)), (5, .int ((dlz_ B z i).2.1)), (4, .int (f2_ (ob_ (nI v_) 1 20) (uk_ q 1))), (0, .ref (r 0)), (1, .int (nI v_)), (2, .int z), (3, .int q)] := hl
                    refine lv_aload_n hx hb dX5_lots_115 rfl (lv_at hl 6 rfl) ?_
                    refine lv_bipush (v := 24) hx hb dX5_lots_116 (by decide) ?_
                    refine kMvV hx hb hml hown hts hK hP hD hA hS gX5_lots_X5_goes okX5_goes (qX5_goes l D cI cB r (layz_ B (dlz_ B z i).1 (sn_ B)) M3 24 (bI_lay hI _) (by decide)) [0, 1, 2, 3, 4, 5, 6, 7, 8, 9, 10, 11, 12, 13, 14, 15] rfl (by decide) (fun _ => mW_adr _ _ _ _ _ _) rfl rfl rfl (by decide) hl.1 rfl rfl (Nat.le_of_ble_eq_true rfl) dX5_lots_118 (by decide) (fun u_13 H locs hw_14 hP hD hS => ?_)
                    replace hw_14 : u_13 = hs_ 24 (layz_ B (dlz_ B z i).1 (sn_ B)) := hw_14
                    subst u_13
                    replace hP : va_P D vwCl ([(r 0, .inr (5, [.ref (r 1), .ref (r 2), .ref (r 3), .ref (r 4), .ref (r 5), .ref (r 6), .int (nI (sn_ (hs_ 24 (layz_ B (dlz_ B z i).1 (sn_ B))))), .int (qt_ (hs_ 24 (layz_ B (dlz_ B z i).1 (sn_ B)))), .int (il_ (hs_ 24 (layz_ B (dlz_ B z i).1 (sn_ B)))), .int (pa_ (hs_ 24 (layz_ B (dlz_ B z i).1 (sn_ B)))), .int (ho_ (hs_ 24 (layz_ B (dlz_ B z i).1 (sn_ B)))), .int (dy_ (hs_ 24 (layz_ B (dlz_ B z i).1 (sn_ B)))), .ref (r 13), .ref (r 14), .ref (r 15), .ref (r 16), .int (nI (mtn_ M3)), .int (nI (mrd_ M3)), .int (nI (msm_ M3)), .ref (r 20), .int (mhi_ M3), .int (mik_ M3), .int (nI (mcu_ M3)), .int (nI (mbk_ M3)), .ref (r 25), .ref (r 26), .int (mlw_ M3), .int (mhg_ M3), .int (msl_ M3), .ref (r 30), .int (nI (mrm_ M3)), .ref (r 32), .int (mlo_ M3)])), (r 1, .inl (cI, 7, .inl (mrf_ M3))), (r 2, .inl (cI, 7, .inl (kd_ (hs_ 24 (layz_ B (dlz_ B z i).1 (sn_ B)))))), (r 3, .inl (cI, 7, .inl (fg_ (hs_ 24 (layz_ B (dlz_ B z i).1 (sn_ B)))))), (r 4, .inl (cI, 7, .inl (pl_ (hs_ 24 (layz_ B (dlz_ B z i).1 (sn_ B)))))), (r 5, .inl (cI, 7, .inl (pw_ (hs_ 24 (layz_ B (dlz_ B z i).1 (sn_ B)))))), (r 6, .inl (cI, 7, .inl (jy_ (hs_ 24 (layz_ B (dlz_ B z i).1 (sn_ B)))))), (r 13, .inl (cI, 96, .inl (mtp_ M3))), (r 14, .inl (cI, 48, .inl (mlt_ M3))), (r 15, .inl (cI, 48, .inl (mla_ M3))), (r 16, .inl (cI, 144, .inl (mtd_ M3))), (r 20, .inl (cI, 451, .inl (flatK (mkp_ M3)))), (r 25, .inl (cI, 7, .inl (mof_ M3))), (r 26, .inl (cI, 7, .inl (mfa_ M3))), (r 30, .inl (cI, 12, .inl (mrw_ M3))), (r 32, .inl (cI, 8, .inl (mhb_ M3)))]) H := hP
                    replace hD : va_D A ([(r 0, .inr (5, [.ref (r 1), .ref (r 2), .ref (r 3), .ref (r 4), .ref (r 5), .ref (r 6), .int (nI (sn_ (hs_ 24 (layz_ B (dlz_ B z i).1 (sn_ B))))), .int (qt_ (hs_ 24 (layz_ B (dlz_ B z i).1 (sn_ B)))), .int (il_ (hs_ 24 (layz_ B (dlz_ B z i).1 (sn_ B)))), .int (pa_ (hs_ 24 (layz_ B (dlz_ B z i).1 (sn_ B)))), .int (ho_ (hs_ 24 (layz_ B (dlz_ B z i).1 (sn_ B)))), .int (dy_ (hs_ 24 (layz_ B (dlz_ B z i).1 (sn_ B)))), .ref (r 13), .ref (r 14), .ref (r 15), .ref (r 16), .int (nI (mtn_ M3)), .int (nI (mrd_ M3)), .int (nI (msm_ M3)), .ref (r 20), .int (mhi_ M3), .int (mik_ M3), .int (nI (mcu_ M3)), .int (nI (mbk_ M3)), .ref (r 25), .ref (r 26), .int (mlw_ M3), .int (mhg_ M3), .int (msl_ M3), .ref (r 30), .int (nI (mrm_ M3)), .ref (r 32), .int (mlo_ M3)])), (r 1, .inl (cI, 7, .inl (mrf_ M3))), (r 2, .inl (cI, 7, .inl (kd_ (hs_ 24 (layz_ B (dlz_ B z i).1 (sn_ B)))))), (r 3, .inl (cI, 7, .inl (fg_ (hs_ 24 (layz_ B (dlz_ B z i).1 (sn_ B)))))), (r 4, .inl (cI, 7, .inl (pl_ (hs_ 24 (layz_ B (dlz_ B z i).1 (sn_ B)))))), (r 5, .inl (cI, 7, .inl (pw_ (hs_ 24 (layz_ B (dlz_ B z i).1 (sn_ B)))))), (r 6, .inl (cI, 7, .inl (jy_ (hs_ 24 (layz_ B (dlz_ B z i).1 (sn_ B)))))), (r 13, .inl (cI, 96, .inl (mtp_ M3))), (r 14, .inl (cI, 48, .inl (mlt_ M3))), (r 15, .inl (cI, 48, .inl (mla_ M3))), (r 16, .inl (cI, 144, .inl (mtd_ M3))), (r 20, .inl (cI, 451, .inl (flatK (mkp_ M3)))), (r 25, .inl (cI, 7, .inl (mof_ M3))), (r 26, .inl (cI, 7, .inl (mfa_ M3))), (r 30, .inl (cI, 12, .inl (mrw_ M3))), (r 32, .inl (cI, 8, .inl (mhb_ M3)))]) := hD
                    refine lv_iload hx hb dX5_lots_121 (lv_at hl 4 rfl) ?_
                    refine lv_aload_n hx hb dX5_lots_123 rfl (lv_at hl 6 rfl) ?_
                    refine kSiV hx hb hml hown hts hK hP gX5_lots_X5_allJoy okX5_allJoy (qX5_allJoy l D cI cB r (hs_ 24 (layz_ B (dlz_ B z i).1 (sn_ B))) M3 (by show sn_ (hs_ 24 (layz_ B (dlz_ B z i).1 (sn_ B))) ≤ 7; omega)) [0, 1, 2, 3, 4, 5, 6, 7, 8, 9, 10, 11, 12, 13, 14, 15] rfl rfl rfl rfl (by decide) hl.1 rfl rfl (Nat.le_of_ble_eq_true rfl) dX5_lots_124 (by decide) (fun r_15 hr_16 => ?_)
                    replace hr_16 : r_15 = su_ (jy_ (hs_ 24 (layz_ B (dlz_ B z i).1 (sn_ B)))) (sn_ (hs_ 24 (layz_ B (dlz_ B z i).1 (sn_ B)))) := hr_16
                    subst r_15
                    refine lv_iload hx hb dX5_lots_127 (lv_at hl 2 rfl) ?_
                    refine lv_isub hx hb dX5_lots_129 ?_
                    refine lv_iadd hx hb dX5_lots_130 ?_
                    refine lv_istore (lv' := [(5, .int (((dlz_ B z i).2.1) + ((su_ (jy_ (hs_ 24 (layz_ B (dlz_ B z i).1 (sn_ B)))) (sn_ (hs_ 24 (layz_ B (dlz_ B z i).1 (sn_ B))))) - (su_ (jy_ B) (sn_ B))))), (9, .int (nI (sn_ B))), (8, .int (nI i)), (7, .int (su_ (jy_ B) (sn_ B))), (6, .int ((dlz_ B z i).2.2)), (4, .int (f2_ (ob_ (nI v_) 1 20) (uk_ q 1))), (0, .ref (r 0)), (1, .int (nI v_)), (2, .int z), (3, .int q)]) hx hb dX5_lots_131 hl (by decide) rfl (fun ls hl => ?_)
                    refine lv_iload hx hb dX5_lots_133 (lv_at hl 4 rfl) ?_
                    refine lv_aload_n hx hb dX5_lots_135 rfl (lv_at hl 6 rfl) ?_
                    refine kSiV hx hb hml hown hts hK hP gX5_lots_X5_holder okX5_holder (qX5_holder l D cI cB r (hs_ 24 (layz_ B (dlz_ B z i).1 (sn_ B))) M3 (by rw [sn_hs]; exact hn7)) [0, 1, 2, 3, 4, 5, 6, 7, 8, 9, 10, 11, 12, 13, 14, 15] rfl rfl rfl rfl (by decide) hl.1 rfl rfl (Nat.le_of_ble_eq_true rfl) dX5_lots_136 (by decide) (fun r_17 hr_18 => ?_)
                    replace hr_18 : r_17 = oI_ (ow_ (hs_ 24 (layz_ B (dlz_ B z i).1 (sn_ B)))) := hr_18
                    subst r_17
                    refine lv_if_lt (tgt := 146) hx hb dX5_lots_139 (by decide) (fun c_139 => ?_) (fun c_139 => ?_)
                    · rw [oI_lt0 (sa_b (by rw [sn_hs]; exact hn7))] at c_139
                      refine lv_iconst (v := 0) hx hb dX5_lots_146 (by decide) ?_
                      refine lv_iadd hx hb dX5_lots_147 ?_
                      refine lv_istore (lv' := [(6, .int (((dlz_ B z i).2.2) + 0)), (5, .int (((dlz_ B z i).2.1) + ((su_ (jy_ (hs_ 24 (layz_ B (dlz_ B z i).1 (sn_ B)))) (sn_ (hs_ 24 (layz_ B (dlz_ B z i).1 (sn_ B))))) - (su_ (jy_ B) (sn_ B))))), (9, .int (nI (sn_ B))), (8, .int (nI i)), (7, .int (su_ (jy_ B) (sn_ B))), (4, .int (f2_ (ob_ (nI v_) 1 20) (uk_ q 1))), (0, .ref (r 0)), (1, .int (nI v_)), (2, .int z), (3, .int q)]) hx hb dX5_lots_148 hl (by decide) rfl (fun ls hl => ?_)
                      refine lv_aload_n hx hb dX5_lots_150 rfl (lv_at hl 6 rfl) ?_
                      refine kMvV hx hb hml hown hts hK hP hD hA hS gX5_lots_X5_forgets okX5_forgets (qX5_forgetsE l D cI cB r (hs_ 24 (layz_ B (dlz_ B z i).1 (sn_ B))) M3 ) [0, 1, 2, 3, 4, 5, 6, 7, 8, 9, 10, 11, 12, 13, 14, 15] rfl (by decide) (fun _ => mW_adE rfl) rfl rfl rfl (by decide) hl.1 rfl rfl (Nat.le_of_ble_eq_true rfl) dX5_lots_151 (by decide) (fun u_20 H locs hw_21 hP hD hS => ?_)
                      replace hP : va_P D vwCl ([(r 0, .inr (5, [.ref (r 1), .ref (r 2), .ref (r 3), .ref (r 4), .ref (r 5), .ref (r 6), .int (nI (sn_ (mkp_ M3 2))), .int (qt_ (mkp_ M3 2)), .int (il_ (mkp_ M3 2)), .int (pa_ (mkp_ M3 2)), .int (ho_ (mkp_ M3 2)), .int (dy_ (mkp_ M3 2)), .ref (r 13), .ref (r 14), .ref (r 15), .ref (r 16), .int (nI (mtn_ M3)), .int (nI (mrd_ M3)), .int (nI (msm_ M3)), .ref (r 20), .int (mhi_ M3), .int (0), .int (nI (41 * 2 + 41)), .int (nI (mbk_ M3)), .ref (r 25), .ref (r 26), .int (mlw_ M3), .int (mhg_ M3), .int (msl_ M3), .ref (r 30), .int (nI (mrm_ M3)), .ref (r 32), .int (mlo_ M3)])), (r 1, .inl (cI, 7, .inl (mrf_ M3))), (r 2, .inl (cI, 7, .inl (kd_ (mkp_ M3 2)))), (r 3, .inl (cI, 7, .inl (fg_ (mkp_ M3 2)))), (r 4, .inl (cI, 7, .inl (pl_ (mkp_ M3 2)))), (r 5, .inl (cI, 7, .inl (pw_ (mkp_ M3 2)))), (r 6, .inl (cI, 7, .inl (jy_ (mkp_ M3 2)))), (r 13, .inl (cI, 96, .inl (mtp_ M3))), (r 14, .inl (cI, 48, .inl (mlt_ M3))), (r 15, .inl (cI, 48, .inl (mla_ M3))), (r 16, .inl (cI, 144, .inl (mtd_ M3))), (r 20, .inl (cI, 451, .inl (flatK (mkp_ M3)))), (r 25, .inl (cI, 7, .inl (mof_ M3))), (r 26, .inl (cI, 7, .inl (mfa_ M3))), (r 30, .inl (cI, 12, .inl (mrw_ M3))), (r 32, .inl (cI, 8, .inl (mhb_ M3)))]) H := hP
                      replace hD : va_D A ([(r 0, .inr (5, [.ref (r 1), .ref (r 2), .ref (r 3), .ref (r 4), .ref (r 5), .ref (r 6), .int (nI (sn_ (mkp_ M3 2))), .int (qt_ (mkp_ M3 2)), .int (il_ (mkp_ M3 2)), .int (pa_ (mkp_ M3 2)), .int (ho_ (mkp_ M3 2)), .int (dy_ (mkp_ M3 2)), .ref (r 13), .ref (r 14), .ref (r 15), .ref (r 16), .int (nI (mtn_ M3)), .int (nI (mrd_ M3)), .int (nI (msm_ M3)), .ref (r 20), .int (mhi_ M3), .int (0), .int (nI (41 * 2 + 41)), .int (nI (mbk_ M3)), .ref (r 25), .ref (r 26), .int (mlw_ M3), .int (mhg_ M3), .int (msl_ M3), .ref (r 30), .int (nI (mrm_ M3)), .ref (r 32), .int (mlo_ M3)])), (r 1, .inl (cI, 7, .inl (mrf_ M3))), (r 2, .inl (cI, 7, .inl (kd_ (mkp_ M3 2)))), (r 3, .inl (cI, 7, .inl (fg_ (mkp_ M3 2)))), (r 4, .inl (cI, 7, .inl (pl_ (mkp_ M3 2)))), (r 5, .inl (cI, 7, .inl (pw_ (mkp_ M3 2)))), (r 6, .inl (cI, 7, .inl (jy_ (mkp_ M3 2)))), (r 13, .inl (cI, 96, .inl (mtp_ M3))), (r 14, .inl (cI, 48, .inl (mlt_ M3))), (r 15, .inl (cI, 48, .inl (mla_ M3))), (r 16, .inl (cI, 144, .inl (mtd_ M3))), (r 20, .inl (cI, 451, .inl (flatK (mkp_ M3)))), (r 25, .inl (cI, 7, .inl (mof_ M3))), (r 26, .inl (cI, 7, .inl (mfa_ M3))), (r 30, .inl (cI, 12, .inl (mrw_ M3))), (r 32, .inl (cI, 8, .inl (mhb_ M3)))]) := hD
                      rw [hk3] at hP hD
                      replace hP : va_P D vwCl ([(r 0, .inr (5, [.ref (r 1), .ref (r 2), .ref (r 3), .ref (r 4), .ref (r 5), .ref (r 6), .int (nI (sn_ B)), .int (qt_ B), .int (il_ B), .int (pa_ B), .int (ho_ B), .int (dy_ B), .ref (r 13), .ref (r 14), .ref (r 15), .ref (r 16), .int (nI (mtn_ M3)), .int (nI (mrd_ M3)), .int (nI (msm_ M3)), .ref (r 20), .int (mhi_ M3), .int (0), .int (nI (41 * 2 + 41)), .int (nI (mbk_ M3)), .ref (r 25), .ref (r 26), .int (mlw_ M3), .int (mhg_ M3), .int (msl_ M3), .ref (r 30), .int (nI (mrm_ M3)), .ref (r 32), .int (mlo_ M3)])), (r 1, .inl (cI, 7, .inl (mrf_ M3))), (r 2, .inl (cI, 7, .inl (kd_ B))), (r 3, .inl (cI, 7, .inl (fg_ B))), (r 4, .inl (cI, 7, .inl (pl_ B))), (r 5, .inl (cI, 7, .inl (pw_ B))), (r 6, .inl (cI, 7, .inl (jy_ B))), (r 13, .inl (cI, 96, .inl (mtp_ M3))), (r 14, .inl (cI, 48, .inl (mlt_ M3))), (r 15, .inl (cI, 48, .inl (mla_ M3))), (r 16, .inl (cI, 144, .inl (mtd_ M3))), (r 20, .inl (cI, 451, .inl (flatK (mkp_ M3)))), (r 25, .inl (cI, 7, .inl (mof_ M3))), (r 26, .inl (cI, 7, .inl (mfa_ M3))), (r 30, .inl (cI, 12, .inl (mrw_ M3))), (r 32, .inl (cI, 8, .inl (mhb_ M3)))]) H := hP
                      replace hD : va_D A ([(r 0, .inr (5, [.ref (r 1), .ref (r 2), .ref (r 3), .ref (r 4), .ref (r 5), .ref (r 6), .int (nI (sn_ B)), .int (qt_ B), .int (il_ B), .int (pa_ B), .int (ho_ B), .int (dy_ B), .ref (r 13), .ref (r 14), .ref (r 15), .ref (r 16), .int (nI (mtn_ M3)), .int (nI (mrd_ M3)), .int (nI (msm_ M3)), .ref (r 20), .int (mhi_ M3), .int (0), .int (nI (41 * 2 + 41)), .int (nI (mbk_ M3)), .ref (r 25), .ref (r 26), .int (mlw_ M3), .int (mhg_ M3), .int (msl_ M3), .ref (r 30), .int (nI (mrm_ M3)), .ref (r 32), .int (mlo_ M3)])), (r 1, .inl (cI, 7, .inl (mrf_ M3))), (r 2, .inl (cI, 7, .inl (kd_ B))), (r 3, .inl (cI, 7, .inl (fg_ B))), (r 4, .inl (cI, 7, .inl (pl_ B))), (r 5, .inl (cI, 7, .inl (pw_ B))), (r 6, .inl (cI, 7, .inl (jy_ B))), (r 13, .inl (cI, 96, .inl (mtp_ M3))), (r 14, .inl (cI, 48, .inl (mlt_ M3))), (r 15, .inl (cI, 48, .inl (mla_ M3))), (r 16, .inl (cI, 144, .inl (mtd_ M3))), (r 20, .inl (cI, 451, .inl (flatK (mkp_ M3)))), (r 25, .inl (cI, 7, .inl (mof_ M3))), (r 26, .inl (cI, 7, .inl (mfa_ M3))), (r 30, .inl (cI, 12, .inl (mrw_ M3))), (r 32, .inl (cI, 8, .inl (mhb_ M3)))]) := hD
                      refine lv_iinc (v := (nI i) + 1) (lv' := [(8, .int ((nI i) + 1)), (6, .int (((dlz_ B z i).2.2) + 0)), (5, .int (((dlz_ B z i).2.1) + ((su_ (jy_ (hs_ 24 (layz_ B (dlz_ B z i).1 (sn_ B)))) (sn_ (hs_ 24 (layz_ B (dlz_ B z i).1 (sn_ B))))) - (su_ (jy_ B) (sn_ B))))), (9, .int (nI (sn_ B))), (7, .int (su_ (jy_ B) (sn_ B))), (4, .int (f2_ (ob_ (nI v_) 1 20) (uk_ q 1))), (0, .ref (r 0)), (1, .int (nI v_)), (2, .int z), (3, .int q)]) hx hb dX5_lots_154 hl (k := 3) rfl (by first | rfl | decide) (by decide) rfl (fun ls hl => ?_)
                      refine lv_goto (tgt := 59) hx hb dX5_lots_157 (by decide) ?_
                      exact ih_59 (i + 1) (((dlz_ B z i).2.1) + ((su_ (jy_ (hs_ 24 (layz_ B (dlz_ B z i).1 (sn_ B)))) (sn_ (hs_ 24 (layz_ B (dlz_ B z i).1 (sn_ B))))) - (su_ (jy_ B) (sn_ B)))) (((dlz_ B z i).2.2) + 0) ((nI i) + 1) (mkM (mrf_ M3) (mtp_ M3) (mlt_ M3) (mla_ M3) (mtd_ M3) (mkp_ M3) (mof_ M3) (mfa_ M3) (mrw_ M3) (mhb_ M3) (mtn_ M3) (mrd_ M3) (msm_ M3) (41 * 2 + 41) (mbk_ M3) (mrm_ M3) (mhi_ M3) 0 (mlw_ M3) (mhg_ M3) (msl_ M3) (mlo_ M3)) (dlz_j (by rw [sn_hs]; rfl)) (by first | exact dlz_a c_139 | exact dlz_b c_139) (by first | rfl | exact nI_1 _) (by omega) (oN_.tr hM (oN_.tr hM3 ⟨rfl, rfl, rfl, rfl, rfl, rfl, rfl, fun _ _ => rfl⟩)) (hlo3) (by omega) _ _ hP hD hS ls (lv_sub hl [0, 4, 1, 2, 5, 6, 7, 8, 9] rfl)
                    · rw [oI_lt0 (sa_b (by rw [sn_hs]; exact hn7))] at c_139
                      refine lv_iconst (v := 1) hx hb dX5_lots_142 (by decide) ?_
                      refine lv_goto (tgt := 147) hx hb dX5_lots_143 (by decide) ?_
                      refine lv_iadd hx hb dX5_lots_147 ?_
                      refine lv_istore (lv' := [(6, .int (((dlz_ B z i).2.2) + 1)), (5, .int (((dlz_ B z i).2.1) + ((su_ (jy_ (hs_ 24 (layz_ B (dlz_ B z i).1 (sn_ B)))) (sn_ (hs_ 24 (layz_ B (dlz_ B z i).1 (sn_ B))))) - (su_ (jy_ B) (sn_ B))))), (9, .int (nI (sn_ B))), (8, .int (nI i)), (7, .int (su_ (jy_ B) (sn_ B))), (4, .int (f2_ (ob_ (nI v_) 1 20) (uk_ q 1))), (0, .ref (r 0)), (1, .int (nI v_)), (2, .int z), (3, .int q)]) hx hb dX5_lots_148 hl (by decide) rfl (fun ls hl => ?_)
                      refine lv_aload_n hx hb dX5_lots_150 rfl (lv_at hl 6 rfl) ?_
                      refine kMvV hx hb hml hown hts hK hP hD hA hS gX5_lots_X5_forgets okX5_forgets (qX5_forgetsE l D cI cB r (hs_ 24 (layz_ B (dlz_ B z i).1 (sn_ B))) M3 ) [0, 1, 2, 3, 4, 5, 6, 7, 8, 9, 10, 11, 12, 13, 14, 15] rfl (by decide) (fun _ => mW_adE rfl) rfl rfl rfl (by decide) hl.1 rfl rfl (Nat.le_of_ble_eq_true rfl) dX5_lots_151 (by decide) (fun u_23 H locs hw_24 hP hD hS => ?_)
                      replace hP : va_P D vwCl ([(r 0, .inr (5, [.ref (r 1), .ref (r 2), .ref (r 3), .ref (r 4), .ref (r 5), .ref (r 6), .int (nI (sn_ (mkp_ M3 2))), .int (qt_ (mkp_ M3 2)), .int (il_ (mkp_ M3 2)), .int (pa_ (mkp_ M3 2)), .int (ho_ (mkp_ M3 2)), .int (dy_ (mkp_ M3 2)), .ref (r 13), .ref (r 14), .ref (r 15), .ref (r 16), .int (nI (mtn_ M3)), .int (nI (mrd_ M3)), .int (nI (msm_ M3)), .ref (r 20), .int (mhi_ M3), .int (0), .int (nI (41 * 2 + 41)), .int (nI (mbk_ M3)), .ref (r 25), .ref (r 26), .int (mlw_ M3), .int (mhg_ M3), .int (msl_ M3), .ref (r 30), .int (nI (mrm_ M3)), .ref (r 32), .int (mlo_ M3)])), (r 1, .inl (cI, 7, .inl (mrf_ M3))), (r 2, .inl (cI, 7, .inl (kd_ (mkp_ M3 2)))), (r 3, .inl (cI, 7, .inl (fg_ (mkp_ M3 2)))), (r 4, .inl (cI, 7, .inl (pl_ (mkp_ M3 2)))), (r 5, .inl (cI, 7, .inl (pw_ (mkp_ M3 2)))), (r 6, .inl (cI, 7, .inl (jy_ (mkp_ M3 2)))), (r 13, .inl (cI, 96, .inl (mtp_ M3))), (r 14, .inl (cI, 48, .inl (mlt_ M3))), (r 15, .inl (cI, 48, .inl (mla_ M3))), (r 16, .inl (cI, 144, .inl (mtd_ M3))), (r 20, .inl (cI, 451, .inl (flatK (mkp_ M3)))), (r 25, .inl (cI, 7, .inl (mof_ M3))), (r 26, .inl (cI, 7, .inl (mfa_ M3))), (r 30, .inl (cI, 12, .inl (mrw_ M3))), (r 32, .inl (cI, 8, .inl (mhb_ M3)))]) H := hP
                      replace hD : va_D A ([(r 0, .inr (5, [.ref (r 1), .ref (r 2), .ref (r 3), .ref (r 4), .ref (r 5), .ref (r 6), .int (nI (sn_ (mkp_ M3 2))), .int (qt_ (mkp_ M3 2)), .int (il_ (mkp_ M3 2)), .int (pa_ (mkp_ M3 2)), .int (ho_ (mkp_ M3 2)), .int (dy_ (mkp_ M3 2)), .ref (r 13), .ref (r 14), .ref (r 15), .ref (r 16), .int (nI (mtn_ M3)), .int (nI (mrd_ M3)), .int (nI (msm_ M3)), .ref (r 20), .int (mhi_ M3), .int (0), .int (nI (41 * 2 + 41)), .int (nI (mbk_ M3)), .ref (r 25), .ref (r 26), .int (mlw_ M3), .int (mhg_ M3), .int (msl_ M3), .ref (r 30), .int (nI (mrm_ M3)), .ref (r 32), .int (mlo_ M3)])), (r 1, .inl (cI, 7, .inl (mrf_ M3))), (r 2, .inl (cI, 7, .inl (kd_ (mkp_ M3 2)))), (r 3, .inl (cI, 7, .inl (fg_ (mkp_ M3 2)))), (r 4, .inl (cI, 7, .inl (pl_ (mkp_ M3 2)))), (r 5, .inl (cI, 7, .inl (pw_ (mkp_ M3 2)))), (r 6, .inl (cI, 7, .inl (jy_ (mkp_ M3 2)))), (r 13, .inl (cI, 96, .inl (mtp_ M3))), (r 14, .inl (cI, 48, .inl (mlt_ M3))), (r 15, .inl (cI, 48, .inl (mla_ M3))), (r 16, .inl (cI, 144, .inl (mtd_ M3))), (r 20, .inl (cI, 451, .inl (flatK (mkp_ M3)))), (r 25, .inl (cI, 7, .inl (mof_ M3))), (r 26, .inl (cI, 7, .inl (mfa_ M3))), (r 30, .inl (cI, 12, .inl (mrw_ M3))), (r 32, .inl (cI, 8, .inl (mhb_ M3)))]) := hD
                      rw [hk3] at hP hD
                      replace hP : va_P D vwCl ([(r 0, .inr (5, [.ref (r 1), .ref (r 2), .ref (r 3), .ref (r 4), .ref (r 5), .ref (r 6), .int (nI (sn_ B)), .int (qt_ B), .int (il_ B), .int (pa_ B), .int (ho_ B), .int (dy_ B), .ref (r 13), .ref (r 14), .ref (r 15), .ref (r 16), .int (nI (mtn_ M3)), .int (nI (mrd_ M3)), .int (nI (msm_ M3)), .ref (r 20), .int (mhi_ M3), .int (0), .int (nI (41 * 2 + 41)), .int (nI (mbk_ M3)), .ref (r 25), .ref (r 26), .int (mlw_ M3), .int (mhg_ M3), .int (msl_ M3), .ref (r 30), .int (nI (mrm_ M3)), .ref (r 32), .int (mlo_ M3)])), (r 1, .inl (cI, 7, .inl (mrf_ M3))), (r 2, .inl (cI, 7, .inl (kd_ B))), (r 3, .inl (cI, 7, .inl (fg_ B))), (r 4, .inl (cI, 7, .inl (pl_ B))), (r 5, .inl (cI, 7, .inl (pw_ B))), (r 6, .inl (cI, 7, .inl (jy_ B))), (r 13, .inl (cI, 96, .inl (mtp_ M3))), (r 14, .inl (cI, 48, .inl (mlt_ M3))), (r 15, .inl (cI, 48, .inl (mla_ M3))), (r 16, .inl (cI, 144, .inl (mtd_ M3))), (r 20, .inl (cI, 451, .inl (flatK (mkp_ M3)))), (r 25, .inl (cI, 7, .inl (mof_ M3))), (r 26, .inl (cI, 7, .inl (mfa_ M3))), (r 30, .inl (cI, 12, .inl (mrw_ M3))), (r 32, .inl (cI, 8, .inl (mhb_ M3)))]) H := hP
                      replace hD : va_D A ([(r 0, .inr (5, [.ref (r 1), .ref (r 2), .ref (r 3), .ref (r 4), .ref (r 5), .ref (r 6), .int (nI (sn_ B)), .int (qt_ B), .int (il_ B), .int (pa_ B), .int (ho_ B), .int (dy_ B), .ref (r 13), .ref (r 14), .ref (r 15), .ref (r 16), .int (nI (mtn_ M3)), .int (nI (mrd_ M3)), .int (nI (msm_ M3)), .ref (r 20), .int (mhi_ M3), .int (0), .int (nI (41 * 2 + 41)), .int (nI (mbk_ M3)), .ref (r 25), .ref (r 26), .int (mlw_ M3), .int (mhg_ M3), .int (msl_ M3), .ref (r 30), .int (nI (mrm_ M3)), .ref (r 32), .int (mlo_ M3)])), (r 1, .inl (cI, 7, .inl (mrf_ M3))), (r 2, .inl (cI, 7, .inl (kd_ B))), (r 3, .inl (cI, 7, .inl (fg_ B))), (r 4, .inl (cI, 7, .inl (pl_ B))), (r 5, .inl (cI, 7, .inl (pw_ B))), (r 6, .inl (cI, 7, .inl (jy_ B))), (r 13, .inl (cI, 96, .inl (mtp_ M3))), (r 14, .inl (cI, 48, .inl (mlt_ M3))), (r 15, .inl (cI, 48, .inl (mla_ M3))), (r 16, .inl (cI, 144, .inl (mtd_ M3))), (r 20, .inl (cI, 451, .inl (flatK (mkp_ M3)))), (r 25, .inl (cI, 7, .inl (mof_ M3))), (r 26, .inl (cI, 7, .inl (mfa_ M3))), (r 30, .inl (cI, 12, .inl (mrw_ M3))), (r 32, .inl (cI, 8, .inl (mhb_ M3)))]) := hD
                      refine lv_iinc (v := (nI i) + 1) (lv' := [(8, .int ((nI i) + 1)), (6, .int (((dlz_ B z i).2.2) + 1)), (5, .int (((dlz_ B z i).2.1) + ((su_ (jy_ (hs_ 24 (layz_ B (dlz_ B z i).1 (sn_ B)))) (sn_ (hs_ 24 (layz_ B (dlz_ B z i).1 (sn_ B))))) - (su_ (jy_ B) (sn_ B))))), (9, .int (nI (sn_ B))), (7, .int (su_ (jy_ B) (sn_ B))), (4, .int (f2_ (ob_ (nI v_) 1 20) (uk_ q 1))), (0, .ref (r 0)), (1, .int (nI v_)), (2, .int z), (3, .int q)]) hx hb dX5_lots_154 hl (k := 3) rfl (by first | rfl | decide) (by decide) rfl (fun ls hl => ?_)
                      refine lv_goto (tgt := 59) hx hb dX5_lots_157 (by decide) ?_
                      exact ih_59 (i + 1) (((dlz_ B z i).2.1) + ((su_ (jy_ (hs_ 24 (layz_ B (dlz_ B z i).1 (sn_ B)))) (sn_ (hs_ 24 (layz_ B (dlz_ B z i).1 (sn_ B))))) - (su_ (jy_ B) (sn_ B)))) (((dlz_ B z i).2.2) + 1) ((nI i) + 1) (mkM (mrf_ M3) (mtp_ M3) (mlt_ M3) (mla_ M3) (mtd_ M3) (mkp_ M3) (mof_ M3) (mfa_ M3) (mrw_ M3) (mhb_ M3) (mtn_ M3) (mrd_ M3) (msm_ M3) (41 * 2 + 41) (mbk_ M3) (mrm_ M3) (mhi_ M3) 0 (mlw_ M3) (mhg_ M3) (msl_ M3) (mlo_ M3)) (dlz_j (by rw [sn_hs]; rfl)) (by first | exact dlz_a c_139 | exact dlz_b c_139) (by first | rfl | exact nI_1 _) (by omega) (oN_.tr hM (oN_.tr hM3 ⟨rfl, rfl, rfl, rfl, rfl, rfl, rfl, fun _ _ => rfl⟩)) (hlo3) (by omega) _ _ hP hD hS ls (lv_sub hl [0, 4, 1, 2, 5, 6, 7, 8, 9] rfl)
                  · replace c_88 : ¬ nI (sn_ B) ≤ nI j := c_88
                    rw [jle (by omega) (by omega)] at c_88
                    refine lv_aload_n hx hb dX5_lots_91 rfl (lv_at hl 6 rfl) ?_
                    refine lv_aload_n hx hb dX5_lots_92 rfl (lv_at hl 6 rfl) ?_
                    refine va_get (ci := 5) (C := RX5) (T := TX5) (N := 33) hx hb hts hinX5 hown hK.1 hP 0 rfl rfl 7 (by decide) (hts _ (List.mem_of_getElem? (i := 4) rfl)) (fun _ h9 => h9) rfl dX5_lots_93 ?_
                    refine lv_iload hx hb dX5_lots_96 (lv_at hl 0 rfl) ?_
                    refine lv_aload_n hx hb dX5_lots_98 rfl (lv_at hl 6 rfl) ?_
                    refine lv_iconst (v := 4) hx hb dX5_lots_99 (by decide) ?_
                    refine kMiV hx hb hml hown hts hK hP hD hA hS gX5_lots_X5_draw okX5_draw (qX5_draw l D cI cB r (layz_ B (dlz_ B z i).1 j) M3 4 (by decide)) [0, 1, 2, 3, 4, 5, 6, 7, 8, 9, 10, 11, 12, 13, 14, 15] rfl (by decide) (fun _ => mW_adr _ _ _ _ _ _) rfl rfl rfl (by decide) hl.1 rfl rfl (Nat.le_of_ble_eq_true rfl) dX5_lots_100 (by decide) (fun r_25 u_26 H locs hw_27 hP hD hS => ?_)
                    replace hw_27 : r_25 = dz_ (nz_ (mlo_ M3)) 4 := hw_27
                    subst r_25
                    replace hP : va_P D vwCl ([(r 0, .inr (5, [.ref (r 1), .ref (r 2), .ref (r 3), .ref (r 4), .ref (r 5), .ref (r 6), .int (nI (sn_ B)), .int ((lqz_ B (dlz_ B z i).1 j).2), .int (dz_ (nz_ (dlz_ B z i).1) 31), .int (pa_ B), .int (ho_ B), .int (dy_ B), .ref (r 13), .ref (r 14), .ref (r 15), .ref (r 16), .int (nI (mtn_ M3)), .int (nI (mrd_ M3)), .int (nI (msm_ M3)), .ref (r 20), .int (mhi_ M3), .int (mik_ M3), .int (nI (mcu_ M3)), .int (nI (mbk_ M3)), .ref (r 25), .ref (r 26), .int (mlw_ M3), .int (mhg_ M3), .int (msl_ M3), .ref (r 30), .int (nI (mrm_ M3)), .ref (r 32), .int ((nz_ (mlo_ M3)))])), (r 1, .inl (cI, 7, .inl (mrf_ M3))), (r 2, .inl (cI, 7, .inl (kd_ B))), (r 3, .inl (cI, 7, .inl (fg_ B))), (r 4, .inl (cI, 7, .inl (pl_ B))), (r 5, .inl (cI, 7, .inl (pw_ B))), (r 6, .inl (cI, 7, .inl (jy_ B))), (r 13, .inl (cI, 96, .inl (mtp_ M3))), (r 14, .inl (cI, 48, .inl (mlt_ M3))), (r 15, .inl (cI, 48, .inl (mla_ M3))), (r 16, .inl (cI, 144, .inl (mtd_ M3))), (r 20, .inl (cI, 451, .inl (flatK (mkp_ M3)))), (r 25, .inl (cI, 7, .inl (mof_ M3))), (r 26, .inl (cI, 7, .inl (mfa_ M3))), (r 30, .inl (cI, 12, .inl (mrw_ M3))), (r 32, .inl (cI, 8, .inl (mhb_ M3)))]) H := hP
                    replace hD : va_D A ([(r 0, .inr (5, [.ref (r 1), .ref (r 2), .ref (r 3), .ref (r 4), .ref (r 5), .ref (r 6), .int (nI (sn_ B)), .int ((lqz_ B (dlz_ B z i).1 j).2), .int (dz_ (nz_ (dlz_ B z i).1) 31), .int (pa_ B), .int (ho_ B), .int (dy_ B), .ref (r 13), .ref (r 14), .ref (r 15), .ref (r 16), .int (nI (mtn_ M3)), .int (nI (mrd_ M3)), .int (nI (msm_ M3)), .ref (r 20), .int (mhi_ M3), .int (mik_ M3), .int (nI (mcu_ M3)), .int (nI (mbk_ M3)), .ref (r 25), .ref (r 26), .int (mlw_ M3), .int (mhg_ M3), .int (msl_ M3), .ref (r 30), .int (nI (mrm_ M3)), .ref (r 32), .int ((nz_ (mlo_ M3)))])), (r 1, .inl (cI, 7, .inl (mrf_ M3))), (r 2, .inl (cI, 7, .inl (kd_ B))), (r 3, .inl (cI, 7, .inl (fg_ B))), (r 4, .inl (cI, 7, .inl (pl_ B))), (r 5, .inl (cI, 7, .inl (pw_ B))), (r 6, .inl (cI, 7, .inl (jy_ B))), (r 13, .inl (cI, 96, .inl (mtp_ M3))), (r 14, .inl (cI, 48, .inl (mlt_ M3))), (r 15, .inl (cI, 48, .inl (mla_ M3))), (r 16, .inl (cI, 144, .inl (mtd_ M3))), (r 20, .inl (cI, 451, .inl (flatK (mkp_ M3)))), (r 25, .inl (cI, 7, .inl (mof_ M3))), (r 26, .inl (cI, 7, .inl (mfa_ M3))), (r 30, .inl (cI, 12, .inl (mrw_ M3))), (r 32, .inl (cI, 8, .inl (mhb_ M3)))]) := hD
                    refine kSiS hx hb hml hown hts hK hP gX5_lots_X5_hushed okX5_hushed (qX5_hushed l D cI cB ((lqz_ B (dlz_ B z i).1 j).2) j (dz_ (nz_ (mlo_ M3)) 4) ) [] rfl (by decide) hl.1 rfl rfl (Nat.le_of_ble_eq_true rfl) dX5_lots_103 (by decide) (fun r_28 hr_29 => ?_)
                    replace hr_29 : r_28 = sq_ ((dz_ (nz_ (mlo_ M3)) 4) = 0) ((lqz_ B (dlz_ B z i).1 j).2) j := hr_29
                    subst r_28
                    refine lv_topi (fun y_30 ey_30 => ?_)
                    replace ey_30 : y_30 = sq_ ((dz_ (nz_ (mlo_ M3)) 4) = 0) ((lqz_ B (dlz_ B z i).1 j).2) j := ey_30
                    refine va_put (ci := 5) (ty := .int) (C := RX5) (T := TX5) (N := 33) hx hb hts hinX5 tyX5 tyX5_ok nmX5 hown hK.1 hP hD hS 0 rfl rfl 7 (by decide) (hts _ (List.mem_of_getElem? (i := 4) rfl)) (fun _ h9 => h9) rfl (by decide +kernel) (rfl) (rfl) (Nat.le_of_ble_eq_true rfl) dX5_lots_106 (fun H locs hP hD hS => ?_)
                    replace hP : va_P D vwCl ([(r 0, .inr (5, [.ref (r 1), .ref (r 2), .ref (r 3), .ref (r 4), .ref (r 5), .ref (r 6), .int (nI (sn_ B)), .int (y_30), .int (dz_ (nz_ (dlz_ B z i).1) 31), .int (pa_ B), .int (ho_ B), .int (dy_ B), .ref (r 13), .ref (r 14), .ref (r 15), .ref (r 16), .int (nI (mtn_ M3)), .int (nI (mrd_ M3)), .int (nI (msm_ M3)), .ref (r 20), .int (mhi_ M3), .int (mik_ M3), .int (nI (mcu_ M3)), .int (nI (mbk_ M3)), .ref (r 25), .ref (r 26), .int (mlw_ M3), .int (mhg_ M3), .int (msl_ M3), .ref (r 30), .int (nI (mrm_ M3)), .ref (r 32), .int ((nz_ (mlo_ M3)))])), (r 1, .inl (cI, 7, .inl (mrf_ M3))), (r 2, .inl (cI, 7, .inl (kd_ B))), (r 3, .inl (cI, 7, .inl (fg_ B))), (r 4, .inl (cI, 7, .inl (pl_ B))), (r 5, .inl (cI, 7, .inl (pw_ B))), (r 6, .inl (cI, 7, .inl (jy_ B))), (r 13, .inl (cI, 96, .inl (mtp_ M3))), (r 14, .inl (cI, 48, .inl (mlt_ M3))), (r 15, .inl (cI, 48, .inl (mla_ M3))), (r 16, .inl (cI, 144, .inl (mtd_ M3))), (r 20, .inl (cI, 451, .inl (flatK (mkp_ M3)))), (r 25, .inl (cI, 7, .inl (mof_ M3))), (r 26, .inl (cI, 7, .inl (mfa_ M3))), (r 30, .inl (cI, 12, .inl (mrw_ M3))), (r 32, .inl (cI, 8, .inl (mhb_ M3)))]) H := hP
                    replace hD : va_D A ([(r 0, .inr (5, [.ref (r 1), .ref (r 2), .ref (r 3), .ref (r 4), .ref (r 5), .ref (r 6), .int (nI (sn_ B)), .int (y_30), .int (dz_ (nz_ (dlz_ B z i).1) 31), .int (pa_ B), .int (ho_ B), .int (dy_ B), .ref (r 13), .ref (r 14), .ref (r 15), .ref (r 16), .int (nI (mtn_ M3)), .int (nI (mrd_ M3)), .int (nI (msm_ M3)), .ref (r 20), .int (mhi_ M3), .int (mik_ M3), .int (nI (mcu_ M3)), .int (nI (mbk_ M3)), .ref (r 25), .ref (r 26), .int (mlw_ M3), .int (mhg_ M3), .int (msl_ M3), .ref (r 30), .int (nI (mrm_ M3)), .ref (r 32), .int ((nz_ (mlo_ M3)))])), (r 1, .inl (cI, 7, .inl (mrf_ M3))), (r 2, .inl (cI, 7, .inl (kd_ B))), (r 3, .inl (cI, 7, .inl (fg_ B))), (r 4, .inl (cI, 7, .inl (pl_ B))), (r 5, .inl (cI, 7, .inl (pw_ B))), (r 6, .inl (cI, 7, .inl (jy_ B))), (r 13, .inl (cI, 96, .inl (mtp_ M3))), (r 14, .inl (cI, 48, .inl (mlt_ M3))), (r 15, .inl (cI, 48, .inl (mla_ M3))), (r 16, .inl (cI, 144, .inl (mtd_ M3))), (r 20, .inl (cI, 451, .inl (flatK (mkp_ M3)))), (r 25, .inl (cI, 7, .inl (mof_ M3))), (r 26, .inl (cI, 7, .inl (mfa_ M3))), (r 30, .inl (cI, 12, .inl (mrw_ M3))), (r 32, .inl (cI, 8, .inl (mhb_ M3)))]) := hD
                    refine lv_iinc (v := (nI j) + 1) (lv' := [(9, .int ((nI j) + 1)), (8, .int (nI i)), (7, .int (su_ (jy_ B) (sn_ B))), (6, .int ((dlz_ B z i).2.2)), (5, .int ((dlz_ B z i).2.1)), (4, .int (f2_ (ob_ (nI v_) 1 20) (uk_ q 1))), (0, .ref (r 0)), (1, .int (nI v_)), (2, .int z), (3, .int q)]) hx hb dX5_lots_109 hl (k := 0) rfl (by first | rfl | decide) (by decide) rfl (fun ls hl => ?_)
                    refine lv_goto (tgt := 82) hx hb dX5_lots_112 (by decide) ?_
                    (try rw [ey_30] at hP); (try rw [ey_30] at hD); (try rw [ey_30] at hl); (try rw [ey_30] at c_88); (try rw [ey_30])
                    exact ih_82 (j + 1) ((nI j) + 1) (mkB (kd_ B) (fg_ B) (pl_ B) (pw_ B) (jy_ B) (sq_ ((dz_ (nz_ (mlo_ M3)) 4) = 0) ((lqz_ B (dlz_ B z i).1 j).2) j) (sn_ B) (dz_ (nz_ (dlz_ B z i).1) 31) (pa_ B) (ho_ B) (dy_ B)) (ulo_ M3 (nz_ (mlo_ M3))) (by first | rfl | exact nI_1 _) (by first | (rw [hlo3]; exact layz_s _ Iff.rfl) | (rw [hlo3]; rfl)) (by omega) (hM3) (by show nz_ (mlo_ M3) = _; rw [hlo3]; rfl) (hk3) (by omega) _ _ hP hD hS ls (lv_sub hl [0, 1, 2, 3, 4, 5, 6, 7, 8, 9] rfl)
              exact lp_82 ((sn_ B) + 1) 0 0 (mkB (kd_ B) (fg_ B) (pl_ B) (pw_ B) (jy_ B) (qt_ B) (sn_ B) (dz_ (nz_ (mlo_ M2)) 31) (pa_ B) (ho_ B) (dy_ B)) (ulo_ (mkM (mrf_ M2) (mtp_ M2) (mlt_ M2) (mla_ M2) (mtd_ M2) (va_up (mkp_ M2) 2 B) (mof_ M2) (mfa_ M2) (mrw_ M2) (mhb_ M2) (mtn_ M2) (mrd_ M2) (msm_ M2) (41 * 2 + 41) (mbk_ M2) (mrm_ M2) (mhi_ M2) 1 (mlw_ M2) (mhg_ M2) (msl_ M2) (mlo_ M2)) (nz_ (mlo_ M2))) (by first | rfl | exact nI_0.symm) (by rw [hlo]; rfl) (by omega) (⟨rfl, rfl, rfl, rfl, rfl, rfl, rfl, fun j hj => va_up_ne _ _ hj⟩) (by rw [← hlo]; rfl) (va_up_self _ _ _) (by omega) _ _ hP hD hS ls (lv_sub hl [0, 1, 2, 3, 4, 5, 6, 7, 8, 9] rfl)
        exact lp_59 (v_ + 1) 0 0 0 0 (mkM (mrf_ M) (mtp_ M) (mlt_ M) (mla_ M) (mtd_ M) (mkp_ M) (mof_ M) (mfa_ M) (mrw_ M) (mhb_ M) (mtn_ M) (mrd_ M) (msm_ M) (mcu_ M) (mbk_ M) (mrm_ M) (mhi_ M) (mik_ M) (mlw_ M) (mhg_ M) (msl_ M) z) (rfl) (rfl) (by first | rfl | exact nI_0.symm) (by omega) (oN_lo M z) (rfl) (by omega) _ _ hP hD hS ls (lv_sub hl [0, 1, 2, 3, 4, 5, 6, 7, 8] rfl)
      · skip
        refine lv_aload_n hx hb dX5_lots_32 rfl (lv_at hl 1 rfl) ?_
        refine lv_iload hx hb dX5_lots_33 (lv_at hl 0 rfl) ?_
        refine kMiV hx hb hml hown hts hK hP hD hA hS gX5_lots_X5_no okX5_no (qX5_no l D cI cB r B M (f2_ (ob_ v 1 20) (uk_ q 1)) (rc0_n (by first | exact rc0_wS _ _ | exact rc0_wSN _ _ _ | exact rc0_wSNW _ _ _ _ | exact rc0_wNW _ _ | exact rc0_wTh _ _ _ _ _ | exact rc0_wTr _ _ _ _ | exact rc0_nb _ _ | exact rc0_uk _ _ | exact rc0_ob _ _ _ | exact rc0_f2 (rc0_nb _ _) (rc0_nb _ _) | exact rc0_f2 (rc0_nb _ _) (rc0_uk _ _) | exact rc0_f2 (rc0_ob _ _ _) (rc0_uk _ _) | exact rc0_f2 (rc0_uk _ _) (rc0_f2 (rc0_uk _ _) (rc0_ob _ _ _))) c_29)) [0, 1, 2, 3, 4, 5, 6, 7, 8, 9, 10, 11, 12, 13, 14, 15] rfl (by decide) (fun _ => mW_adr _ _ _ _ _ _) rfl rfl rfl (by decide) hl.1 rfl rfl (Nat.le_of_ble_eq_true rfl) dX5_lots_35 (by decide) (fun r_31 u_32 H locs hw_33 hP hD hS => ?_)
        replace hw_33 : r_31 = f2_ (ob_ v 1 20) (uk_ q 1) ∧ u_32 = (rfm_ M (f2_ (ob_ v 1 20) (uk_ q 1))) := hw_33
        obtain ⟨hw_33a, hw_33b⟩ := hw_33
        subst r_31
        subst u_32
        replace hP : va_P D vwCl ([(r 0, .inr (5, [.ref (r 1), .ref (r 2), .ref (r 3), .ref (r 4), .ref (r 5), .ref (r 6), .int (nI (sn_ B)), .int (qt_ B), .int (il_ B), .int (pa_ B), .int (ho_ B), .int (dy_ B), .ref (r 13), .ref (r 14), .ref (r 15), .ref (r 16), .int (nI (mtn_ M)), .int (nI (mrd_ M)), .int (nI (msm_ M)), .ref (r 20), .int (mhi_ M), .int (mik_ M), .int (nI (mcu_ M)), .int (nI (mbk_ M)), .ref (r 25), .ref (r 26), .int (mlw_ M), .int (mhg_ M), .int (msl_ M), .ref (r 30), .int (nI (mrm_ M)), .ref (r 32), .int (mlo_ M)])), (r 1, .inl (cI, 7, .inl (rfx_ (mrf_ M) (f2_ (ob_ v 1 20) (uk_ q 1))))), (r 2, .inl (cI, 7, .inl (kd_ B))), (r 3, .inl (cI, 7, .inl (fg_ B))), (r 4, .inl (cI, 7, .inl (pl_ B))), (r 5, .inl (cI, 7, .inl (pw_ B))), (r 6, .inl (cI, 7, .inl (jy_ B))), (r 13, .inl (cI, 96, .inl (mtp_ M))), (r 14, .inl (cI, 48, .inl (mlt_ M))), (r 15, .inl (cI, 48, .inl (mla_ M))), (r 16, .inl (cI, 144, .inl (mtd_ M))), (r 20, .inl (cI, 451, .inl (flatK (mkp_ M)))), (r 25, .inl (cI, 7, .inl (mof_ M))), (r 26, .inl (cI, 7, .inl (mfa_ M))), (r 30, .inl (cI, 12, .inl (mrw_ M))), (r 32, .inl (cI, 8, .inl (mhb_ M)))]) H := hP
        replace hD : va_D A ([(r 0, .inr (5, [.ref (r 1), .ref (r 2), .ref (r 3), .ref (r 4), .ref (r 5), .ref (r 6), .int (nI (sn_ B)), .int (qt_ B), .int (il_ B), .int (pa_ B), .int (ho_ B), .int (dy_ B), .ref (r 13), .ref (r 14), .ref (r 15), .ref (r 16), .int (nI (mtn_ M)), .int (nI (mrd_ M)), .int (nI (msm_ M)), .ref (r 20), .int (mhi_ M), .int (mik_ M), .int (nI (mcu_ M)), .int (nI (mbk_ M)), .ref (r 25), .ref (r 26), .int (mlw_ M), .int (mhg_ M), .int (msl_ M), .ref (r 30), .int (nI (mrm_ M)), .ref (r 32), .int (mlo_ M)])), (r 1, .inl (cI, 7, .inl (rfx_ (mrf_ M) (f2_ (ob_ v 1 20) (uk_ q 1))))), (r 2, .inl (cI, 7, .inl (kd_ B))), (r 3, .inl (cI, 7, .inl (fg_ B))), (r 4, .inl (cI, 7, .inl (pl_ B))), (r 5, .inl (cI, 7, .inl (pw_ B))), (r 6, .inl (cI, 7, .inl (jy_ B))), (r 13, .inl (cI, 96, .inl (mtp_ M))), (r 14, .inl (cI, 48, .inl (mlt_ M))), (r 15, .inl (cI, 48, .inl (mla_ M))), (r 16, .inl (cI, 144, .inl (mtd_ M))), (r 20, .inl (cI, 451, .inl (flatK (mkp_ M)))), (r 25, .inl (cI, 7, .inl (mof_ M))), (r 26, .inl (cI, 7, .inl (mfa_ M))), (r 30, .inl (cI, 12, .inl (mrw_ M))), (r 32, .inl (cI, 8, .inl (mhb_ M)))]) := hD
        refine rMi hx hb hr hlk hS (rfm_ M (f2_ (ob_ v 1 20) (uk_ q 1))) hP ?_ dX5_lots_38
        first | exact ⟨(if_neg c_29).symm, oQ_n _ _⟩ | (refine ⟨?_, oQ_0 c_29 ?_⟩; · (rw [if_pos c_29]; simp only [tn_n (show v_ < 2147483648 by omega)]; have e9 : i = v_ := by omega; subst e9; first | (rw [if_pos c_161]; done) | (rw [if_neg c_161]; done) | (rw [if_pos c_161]; rfl) | (rw [if_neg c_161]; rfl)); · (first | exact (oN_mk (by assumption)).m | exact oM_.rf _ | exact (oN_pp _ _).m | exact (oN_fo _ _ _ _).m | assumption | (apply oN_.m; assumption) | exact oM_.tr (by assumption) (by assumption)))
  refine lv_iload hx hb dX5_lots_9 (lv_at hl 0 rfl) ?_
  refine lv_if_ne (tgt := 27) hx hb dX5_lots_11 (by decide) (fun c_11 => ?_) (fun c_11 => ?_)
  · skip
    exact jn_27  (ob_ v 1 20)  (by first | exact (f2_a c_11).symm | exact c_11.trans ((f2_b c_11).trans (uk_i c_20)).symm | exact ((f2_b c_11).trans (uk_o c_20)).symm)   _ _ hP hD hS ls (lv_sub hl [0, 1, 2, 3, 4] rfl)
  · skip
    refine lv_iload_n hx hb dX5_lots_14 rfl (lv_at hl 4 rfl) ?_
    refine lv_iconst (v := 0) hx hb dX5_lots_15 (by decide) ?_
    refine lv_iconst (v := 1) hx hb dX5_lots_16 (by decide) ?_
    refine kSiS hx hb hml hown hts hK hP gX5_lots_X5_isIn okX5_isIn (qX5_isIn l D cI cB q 0 1 ) [] rfl (by decide) hl.1 rfl rfl (Nat.le_of_ble_eq_true rfl) dX5_lots_17 (by decide) (fun r_34 hr_35 => ?_)
    replace hr_35 : r_34 = b1 (0 ≤ q ∧ q ≤ 1) := hr_35
    subst r_34
    refine lv_if_ne (tgt := 27) hx hb dX5_lots_20 (by decide) (fun c_20 => ?_) (fun c_20 => ?_)
    · replace c_20 := b1_n c_20
      exact jn_27  (ob_ v 1 20)  (by first | exact (f2_a c_11).symm | exact c_11.trans ((f2_b c_11).trans (uk_i c_20)).symm | exact ((f2_b c_11).trans (uk_o c_20)).symm)   _ _ hP hD hS ls (lv_sub hl [0, 1, 2, 3, 4] rfl)
    · replace c_20 := b1_z c_20
      refine lv_bipush (v := (-2)) hx hb dX5_lots_23 (by decide) ?_
      refine lv_istore (lv' := [(4, .int (-2)), (0, .ref (r 0)), (1, .int v), (2, .int z), (3, .int q)]) hx hb dX5_lots_25 hl (by decide) rfl (fun ls hl => ?_)
      exact jn_27  (-2)  (by first | exact (f2_a c_11).symm | exact c_11.trans ((f2_b c_11).trans (uk_i c_20)).symm | exact ((f2_b c_11).trans (uk_o c_20)).symm)   _ _ hP hD hS ls (lv_sub hl [0, 1, 2, 3, 4] rfl)

theorem okX5_count : jok yX5_count wsX5_count cX5_count 2 (some .int) 1 := ⟨⟨_, rfl⟩, by decide +kernel, by decide +kernel⟩
set_option maxHeartbeats 2000000 in
set_option maxRecDepth 100000 in
theorem qX5_count (l : Launch) (D : va_G) (cI cB : ClassId) (r : Nat → Nat) (B : BayT) (M : MT) (q : Int32) (hn7 : sn_ B ≤ 7) : jSi D cI cB l yX5_count wsX5_count 1 [.ref (r 0), .int q] (mW cI r B M) (fun r => r = cnX_ B (mtn_ M) (mrm_ M) (mbk_ M) (mrf_ M) q) := by
  refine jSi.of (cc := cX5_count) (maxL := 2) (ret := (some .int)) okX5_count (Nat.le_of_ble_eq_true rfl) ?_
  intro p e s m below meth c ls hx hb hr hts hown hlk hml hP hK hl
  replace hown : s.vm.findClass RX5 = some m.cls := hown
  replace hl : lv_has ls 2 [(0, .ref (r 0)), (1, .int q)] := hl
  have hinX5 : ∀ w ∈ wsX50, w ∈ wsX5_count := by decide +kernel
  refine lv_iload_n hx hb dX5_count_0 rfl (lv_at hl 1 rfl) ?_
  refine lv_bipush (v := 11) hx hb dX5_count_1 (by decide) ?_
  refine lv_bipush (v := 16) hx hb dX5_count_3 (by decide) ?_
  refine kSiS hx hb hml hown hts hK hP gX5_count_X5_isIn okX5_isIn (qX5_isIn l D cI cB q 11 16 ) [] rfl (by decide) hl.1 rfl rfl (Nat.le_of_ble_eq_true rfl) dX5_count_5 (by decide) (fun r_1 hr_2 => ?_)
  replace hr_2 : r_1 = b1 (11 ≤ q ∧ q ≤ 16) := hr_2
  subst r_1
  refine lv_if_eq (tgt := 21) hx hb dX5_count_8 (by decide) (fun c_8 => ?_) (fun c_8 => ?_)
  · replace c_8 := b1_z c_8
    refine lv_iload_n hx hb dX5_count_21 rfl (lv_at hl 1 rfl) ?_
    by_cases c_22_0 : q = 0
    · refine lv_tableIn (off := 50) (tgt := 72) hx hb dX5_count_22 (by rw [c_22_0]; decide) (by rw [c_22_0]; decide) (by rw [c_22_0]; rfl) (by decide) ?_
      refine lv_aload_n hx hb dX5_count_72 rfl (lv_at hl 0 rfl) ?_
      refine va_get (ci := 5) (C := RX5) (T := TX5) (N := 33) hx hb hts hinX5 hown hK.1 hP 0 rfl rfl 6 (by decide) (hts _ (List.mem_of_getElem? (i := 2) rfl)) (fun _ h9 => h9) rfl dX5_count_73 ?_
      refine rSi hx hb hr hlk ?_ dX5_count_76
      show (nI (sn_ B)) = _
      first | (rw [c_22_0]; rfl) | (rw [c_22_1]; rfl) | (rw [c_22_2]; rfl) | (rw [c_22_3]; rfl) | (rw [c_22_4]; rfl) | (rw [c_22_5]; rfl) | (rw [c_22_6]; rfl) | (rw [c_22_7]; rfl) | (rw [c_22_8]; rfl) | (unfold cnX_; rw [if_neg c_22_0, if_neg c_22_1, if_neg c_22_2, if_neg c_22_3, if_neg c_22_4, if_neg c_22_5, if_neg c_22_6, if_neg c_22_7, if_neg c_22_8, if_neg c_8]) | exact (cn_in c_8).symm
    by_cases c_22_1 : q = 1
    · refine lv_tableIn (off := 55) (tgt := 77) hx hb dX5_count_22 (by rw [c_22_1]; decide) (by rw [c_22_1]; decide) (by rw [c_22_1]; rfl) (by decide) ?_
      refine lv_aload_n hx hb dX5_count_77 rfl (lv_at hl 0 rfl) ?_
      refine va_get (ci := 5) (C := RX5) (T := TX5) (N := 33) hx hb hts hinX5 hown hK.1 hP 0 rfl rfl 10 (by decide) (hts _ (List.mem_of_getElem? (i := 3) rfl)) (fun _ h9 => h9) rfl dX5_count_78 ?_
      refine rSi hx hb hr hlk ?_ dX5_count_81
      show (ho_ B) = _
      first | (rw [c_22_0]; rfl) | (rw [c_22_1]; rfl) | (rw [c_22_2]; rfl) | (rw [c_22_3]; rfl) | (rw [c_22_4]; rfl) | (rw [c_22_5]; rfl) | (rw [c_22_6]; rfl) | (rw [c_22_7]; rfl) | (rw [c_22_8]; rfl) | (unfold cnX_; rw [if_neg c_22_0, if_neg c_22_1, if_neg c_22_2, if_neg c_22_3, if_neg c_22_4, if_neg c_22_5, if_neg c_22_6, if_neg c_22_7, if_neg c_22_8, if_neg c_8]) | exact (cn_in c_8).symm
    by_cases c_22_2 : q = 2
    · refine lv_tableIn (off := 60) (tgt := 82) hx hb dX5_count_22 (by rw [c_22_2]; decide) (by rw [c_22_2]; decide) (by rw [c_22_2]; rfl) (by decide) ?_
      refine lv_aload_n hx hb dX5_count_82 rfl (lv_at hl 0 rfl) ?_
      refine va_get (ci := 5) (C := RX5) (T := TX5) (N := 33) hx hb hts hinX5 hown hK.1 hP 0 rfl rfl 11 (by decide) (hts _ (List.mem_of_getElem? (i := 4) rfl)) (fun _ h9 => h9) rfl dX5_count_83 ?_
      refine rSi hx hb hr hlk ?_ dX5_count_86
      show (dy_ B) = _
      first | (rw [c_22_0]; rfl) | (rw [c_22_1]; rfl) | (rw [c_22_2]; rfl) | (rw [c_22_3]; rfl) | (rw [c_22_4]; rfl) | (rw [c_22_5]; rfl) | (rw [c_22_6]; rfl) | (rw [c_22_7]; rfl) | (rw [c_22_8]; rfl) | (unfold cnX_; rw [if_neg c_22_0, if_neg c_22_1, if_neg c_22_2, if_neg c_22_3, if_neg c_22_4, if_neg c_22_5, if_neg c_22_6, if_neg c_22_7, if_neg c_22_8, if_neg c_8]) | exact (cn_in c_8).symm
    by_cases c_22_3 : q = 3
    · refine lv_tableIn (off := 65) (tgt := 87) hx hb dX5_count_22 (by rw [c_22_3]; decide) (by rw [c_22_3]; decide) (by rw [c_22_3]; rfl) (by decide) ?_
      refine lv_aload_n hx hb dX5_count_87 rfl (lv_at hl 0 rfl) ?_
      refine va_get (ci := 5) (C := RX5) (T := TX5) (N := 33) hx hb hts hinX5 hown hK.1 hP 0 rfl rfl 7 (by decide) (hts _ (List.mem_of_getElem? (i := 5) rfl)) (fun _ h9 => h9) rfl dX5_count_88 ?_
      refine rSi hx hb hr hlk ?_ dX5_count_91
      show (qt_ B) = _
      first | (rw [c_22_0]; rfl) | (rw [c_22_1]; rfl) | (rw [c_22_2]; rfl) | (rw [c_22_3]; rfl) | (rw [c_22_4]; rfl) | (rw [c_22_5]; rfl) | (rw [c_22_6]; rfl) | (rw [c_22_7]; rfl) | (rw [c_22_8]; rfl) | (unfold cnX_; rw [if_neg c_22_0, if_neg c_22_1, if_neg c_22_2, if_neg c_22_3, if_neg c_22_4, if_neg c_22_5, if_neg c_22_6, if_neg c_22_7, if_neg c_22_8, if_neg c_8]) | exact (cn_in c_8).symm
    by_cases c_22_4 : q = 4
    · refine lv_tableIn (off := 70) (tgt := 92) hx hb dX5_count_22 (by rw [c_22_4]; decide) (by rw [c_22_4]; decide) (by rw [c_22_4]; rfl) (by decide) ?_
      refine lv_aload_n hx hb dX5_count_92 rfl (lv_at hl 0 rfl) ?_
      refine kSiV hx hb hml hown hts hK hP gX5_count_X5_allJoy okX5_allJoy (qX5_allJoy l D cI cB r B M (by show sn_ B ≤ 7; omega)) [0, 1, 2, 3, 4, 5, 6, 7, 8, 9, 10, 11, 12, 13, 14, 15] rfl rfl rfl rfl (by decide) hl.1 rfl rfl (Nat.le_of_ble_eq_true rfl) dX5_count_93 (by decide) (fun r_3 hr_4 => ?_)
      replace hr_4 : r_3 = su_ (jy_ B) (sn_ B) := hr_4
      subst r_3
      refine rSi hx hb hr hlk ?_ dX5_count_96
      show (su_ (jy_ B) (sn_ B)) = _
      first | (rw [c_22_0]; rfl) | (rw [c_22_1]; rfl) | (rw [c_22_2]; rfl) | (rw [c_22_3]; rfl) | (rw [c_22_4]; rfl) | (rw [c_22_5]; rfl) | (rw [c_22_6]; rfl) | (rw [c_22_7]; rfl) | (rw [c_22_8]; rfl) | (unfold cnX_; rw [if_neg c_22_0, if_neg c_22_1, if_neg c_22_2, if_neg c_22_3, if_neg c_22_4, if_neg c_22_5, if_neg c_22_6, if_neg c_22_7, if_neg c_22_8, if_neg c_8]) | exact (cn_in c_8).symm
    by_cases c_22_5 : q = 5
    · refine lv_tableIn (off := 75) (tgt := 97) hx hb dX5_count_22 (by rw [c_22_5]; decide) (by rw [c_22_5]; decide) (by rw [c_22_5]; rfl) (by decide) ?_
      refine lv_aload_n hx hb dX5_count_97 rfl (lv_at hl 0 rfl) ?_
      refine kSiV hx hb hml hown hts hK hP gX5_count_X5_allPowder okX5_allPowder (qX5_allPowder l D cI cB r B M (by show sn_ B ≤ 7; omega)) [0, 1, 2, 3, 4, 5, 6, 7, 8, 9, 10, 11, 12, 13, 14, 15] rfl rfl rfl rfl (by decide) hl.1 rfl rfl (Nat.le_of_ble_eq_true rfl) dX5_count_98 (by decide) (fun r_5 hr_6 => ?_)
      replace hr_6 : r_5 = su_ (pw_ B) (sn_ B) := hr_6
      subst r_5
      refine rSi hx hb hr hlk ?_ dX5_count_101
      show (su_ (pw_ B) (sn_ B)) = _
      first | (rw [c_22_0]; rfl) | (rw [c_22_1]; rfl) | (rw [c_22_2]; rfl) | (rw [c_22_3]; rfl) | (rw [c_22_4]; rfl) | (rw [c_22_5]; rfl) | (rw [c_22_6]; rfl) | (rw [c_22_7]; rfl) | (rw [c_22_8]; rfl) | (unfold cnX_; rw [if_neg c_22_0, if_neg c_22_1, if_neg c_22_2, if_neg c_22_3, if_neg c_22_4, if_neg c_22_5, if_neg c_22_6, if_neg c_22_7, if_neg c_22_8, if_neg c_8]) | exact (cn_in c_8).symm
    by_cases c_22_6 : q = 6
    · refine lv_tableIn (off := 80) (tgt := 102) hx hb dX5_count_22 (by rw [c_22_6]; decide) (by rw [c_22_6]; decide) (by rw [c_22_6]; rfl) (by decide) ?_
      refine lv_aload_n hx hb dX5_count_102 rfl (lv_at hl 0 rfl) ?_
      refine va_get (ci := 5) (C := RX5) (T := TX5) (N := 33) hx hb hts hinX5 hown hK.1 hP 0 rfl rfl 16 (by decide) (hts _ (List.mem_of_getElem? (i := 6) rfl)) (fun _ h9 => h9) rfl dX5_count_103 ?_
      refine rSi hx hb hr hlk ?_ dX5_count_106
      show (nI (mtn_ M)) = _
      first | (rw [c_22_0]; rfl) | (rw [c_22_1]; rfl) | (rw [c_22_2]; rfl) | (rw [c_22_3]; rfl) | (rw [c_22_4]; rfl) | (rw [c_22_5]; rfl) | (rw [c_22_6]; rfl) | (rw [c_22_7]; rfl) | (rw [c_22_8]; rfl) | (unfold cnX_; rw [if_neg c_22_0, if_neg c_22_1, if_neg c_22_2, if_neg c_22_3, if_neg c_22_4, if_neg c_22_5, if_neg c_22_6, if_neg c_22_7, if_neg c_22_8, if_neg c_8]) | exact (cn_in c_8).symm
    by_cases c_22_7 : q = 7
    · refine lv_tableIn (off := 85) (tgt := 107) hx hb dX5_count_22 (by rw [c_22_7]; decide) (by rw [c_22_7]; decide) (by rw [c_22_7]; rfl) (by decide) ?_
      refine lv_aload_n hx hb dX5_count_107 rfl (lv_at hl 0 rfl) ?_
      refine va_get (ci := 5) (C := RX5) (T := TX5) (N := 33) hx hb hts hinX5 hown hK.1 hP 0 rfl rfl 30 (by decide) (hts _ (List.mem_of_getElem? (i := 7) rfl)) (fun _ h9 => h9) rfl dX5_count_108 ?_
      refine rSi hx hb hr hlk ?_ dX5_count_111
      show (nI (mrm_ M)) = _
      first | (rw [c_22_0]; rfl) | (rw [c_22_1]; rfl) | (rw [c_22_2]; rfl) | (rw [c_22_3]; rfl) | (rw [c_22_4]; rfl) | (rw [c_22_5]; rfl) | (rw [c_22_6]; rfl) | (rw [c_22_7]; rfl) | (rw [c_22_8]; rfl) | (unfold cnX_; rw [if_neg c_22_0, if_neg c_22_1, if_neg c_22_2, if_neg c_22_3, if_neg c_22_4, if_neg c_22_5, if_neg c_22_6, if_neg c_22_7, if_neg c_22_8, if_neg c_8]) | exact (cn_in c_8).symm
    by_cases c_22_8 : q = 8
    · refine lv_tableIn (off := 90) (tgt := 112) hx hb dX5_count_22 (by rw [c_22_8]; decide) (by rw [c_22_8]; decide) (by rw [c_22_8]; rfl) (by decide) ?_
      refine lv_aload_n hx hb dX5_count_112 rfl (lv_at hl 0 rfl) ?_
      refine va_get (ci := 5) (C := RX5) (T := TX5) (N := 33) hx hb hts hinX5 hown hK.1 hP 0 rfl rfl 23 (by decide) (hts _ (List.mem_of_getElem? (i := 8) rfl)) (fun _ h9 => h9) rfl dX5_count_113 ?_
      refine rSi hx hb hr hlk ?_ dX5_count_116
      show (nI (mbk_ M)) = _
      first | (rw [c_22_0]; rfl) | (rw [c_22_1]; rfl) | (rw [c_22_2]; rfl) | (rw [c_22_3]; rfl) | (rw [c_22_4]; rfl) | (rw [c_22_5]; rfl) | (rw [c_22_6]; rfl) | (rw [c_22_7]; rfl) | (rw [c_22_8]; rfl) | (unfold cnX_; rw [if_neg c_22_0, if_neg c_22_1, if_neg c_22_2, if_neg c_22_3, if_neg c_22_4, if_neg c_22_5, if_neg c_22_6, if_neg c_22_7, if_neg c_22_8, if_neg c_8]) | exact (cn_in c_8).symm
    refine lv_tableOut (tgt := 117) hx hb dX5_count_22 (by have t0 := lv_neT c_22_0 (a := 0) (by decide); have t1 := lv_neT c_22_1 (a := 1) (by decide); have t2 := lv_neT c_22_2 (a := 2) (by decide); have t3 := lv_neT c_22_3 (a := 3) (by decide); have t4 := lv_neT c_22_4 (a := 4) (by decide); have t5 := lv_neT c_22_5 (a := 5) (by decide); have t6 := lv_neT c_22_6 (a := 6) (by decide); have t7 := lv_neT c_22_7 (a := 7) (by decide); have t8 := lv_neT c_22_8 (a := 8) (by decide); omega) (by decide) ?_
    refine lv_bipush (v := (-9)) hx hb dX5_count_117 (by decide) ?_
    refine rSi hx hb hr hlk ?_ dX5_count_119
    show (-9) = _
    first | (rw [c_22_0]; rfl) | (rw [c_22_1]; rfl) | (rw [c_22_2]; rfl) | (rw [c_22_3]; rfl) | (rw [c_22_4]; rfl) | (rw [c_22_5]; rfl) | (rw [c_22_6]; rfl) | (rw [c_22_7]; rfl) | (rw [c_22_8]; rfl) | (unfold cnX_; rw [if_neg c_22_0, if_neg c_22_1, if_neg c_22_2, if_neg c_22_3, if_neg c_22_4, if_neg c_22_5, if_neg c_22_6, if_neg c_22_7, if_neg c_22_8, if_neg c_8]) | exact (cn_in c_8).symm
  · replace c_8 := b1_n c_8
    refine lv_aload_n hx hb dX5_count_11 rfl (lv_at hl 0 rfl) ?_
    refine va_get (ci := 5) (C := RX5) (T := TX5) (N := 33) hx hb hts hinX5 hown hK.1 hP 0 rfl rfl 0 (by decide) (hts _ (List.mem_of_getElem? (i := 1) rfl)) (fun _ h9 => h9) rfl dX5_count_12 ?_
    refine lv_iload_n hx hb dX5_count_15 rfl (lv_at hl 1 rfl) ?_
    refine lv_bipush (v := 10) hx hb dX5_count_16 (by decide) ?_
    refine lv_isub hx hb dX5_count_18 ?_
    refine jald hx hb hK.1 hP 1 0 (tn_ q - 10) rfl rfl (cn_i c_8.1 c_8.2).1 (cn_i c_8.1 c_8.2).2 (Nat.le_of_ble_eq_true rfl) dX5_count_19 ?_
    refine rSi hx hb hr hlk ?_ dX5_count_20
    show ((mrf_ M) (tn_ q - 10)) = _
    first | (rw [c_22_0]; rfl) | (rw [c_22_1]; rfl) | (rw [c_22_2]; rfl) | (rw [c_22_3]; rfl) | (rw [c_22_4]; rfl) | (rw [c_22_5]; rfl) | (rw [c_22_6]; rfl) | (rw [c_22_7]; rfl) | (rw [c_22_8]; rfl) | (unfold cnX_; rw [if_neg c_22_0, if_neg c_22_1, if_neg c_22_2, if_neg c_22_3, if_neg c_22_4, if_neg c_22_5, if_neg c_22_6, if_neg c_22_7, if_neg c_22_8, if_neg c_8]) | exact (cn_in c_8).symm
