theorem okX5_back : jok yX5_back wsX5_back cX5_back 1 (some .int) 0 := ⟨⟨_, rfl⟩, by decide +kernel, by decide +kernel⟩
set_option maxHeartbeats 2000000 in
set_option maxRecDepth 100000 in
theorem qX5_back (l : Launch) (D : va_G) (cI cB : ClassId) (r : Nat → Nat) (B : BayT) (M : MT) (hI : bI_ B) (hbk : mbk_ M ≤ 8) : jMi D cI cB l yX5_back wsX5_back 2 [.ref (r 0)] (mW cI r B M) (S := BayT × MT) (fun r u => ((if mbk_ M = 0 then (-3 : Int32) else 0) = 0 ∧ r = nI (mbk_ M - 1) ∧ u = (mkp_ M (2 + mbk_ M), pu_ (ubk_ M (mbk_ M - 1)) (2 + mbk_ M))) ∨ (¬ (if mbk_ M = 0 then (-3 : Int32) else 0) = 0 ∧ r = -3 ∧ u = (B, rfm_ M (-3)))) (fun u => mW cI r u.1 u.2) := by
  refine jMi.of (cc := cX5_back) (maxL := 1) (ret := (some .int)) okX5_back (Nat.le_of_ble_eq_true rfl) ?_
  intro p e s m below meth c ls A hx hb hr hts hown hlk hml hP hK hD hA hS hl
  replace hown : s.vm.findClass RX5 = some m.cls := hown
  replace hl : lv_has ls 1 [(0, .ref (r 0))] := hl
  have hD0 := hD
  have hn7 := hI.1
  have hinX5 : ∀ w ∈ wsX50, w ∈ wsX5_back := by decide +kernel
  refine lv_aload_n hx hb dX5_back_0 rfl (lv_at hl 0 rfl) ?_
  refine va_get (ci := 5) (C := RX5) (T := TX5) (N := 33) hx hb hts hinX5 hown hK.1 hP 0 rfl rfl 23 (by decide) (hts _ (List.mem_of_getElem? (i := 1) rfl)) (fun _ h9 => h9) rfl dX5_back_1 ?_
  refine lv_if_ne (tgt := 14) hx hb dX5_back_4 (by decide) (fun c_4 => ?_) (fun c_4 => ?_)
  · replace c_4 : ¬ nI (mbk_ M) = nI 0 := c_4
    rw [jeq (by omega) (by omega)] at c_4
    refine lv_aload_n hx hb dX5_back_14 rfl (lv_at hl 0 rfl) ?_
    refine lv_dup hx hb dX5_back_15 rfl ?_
    refine va_get (ci := 5) (C := RX5) (T := TX5) (N := 33) hx hb hts hinX5 hown hK.1 hP 0 rfl rfl 23 (by decide) (hts _ (List.mem_of_getElem? (i := 1) rfl)) (fun _ h9 => h9) rfl dX5_back_16 ?_
    refine lv_iconst (v := 1) hx hb dX5_back_19 (by decide) ?_
    refine lv_isub hx hb dX5_back_20 ?_
    refine sti (x := (nI (mbk_ M)) - 1) (y := nI (mbk_ M - 1)) (pd1 (by omega)) ?_
    refine va_put (ci := 5) (ty := .int) (C := RX5) (T := TX5) (N := 33) hx hb hts hinX5 tyX5 tyX5_ok nmX5 hown hK.1 hP (va_D.adr hD0 (mW_adE rfl)) hS 0 rfl rfl 23 (by decide) (hts _ (List.mem_of_getElem? (i := 1) rfl)) (fun _ h9 => h9) rfl (by decide +kernel) (rfl) (rfl) (Nat.le_of_ble_eq_true rfl) dX5_back_21 (fun H locs hP hD hS => ?_)
    replace hP : va_P D vwCl ([(r 0, .inr (5, [.ref (r 1), .ref (r 2), .ref (r 3), .ref (r 4), .ref (r 5), .ref (r 6), .int (nI (sn_ B)), .int (qt_ B), .int (il_ B), .int (pa_ B), .int (ho_ B), .int (dy_ B), .ref (r 13), .ref (r 14), .ref (r 15), .ref (r 16), .int (nI (mtn_ M)), .int (nI (mrd_ M)), .int (nI (msm_ M)), .ref (r 20), .int (mhi_ M), .int (mik_ M), .int (nI (mcu_ M)), .int (nI (mbk_ M - 1)), .ref (r 25), .ref (r 26), .int (mlw_ M), .int (mhg_ M), .int (msl_ M), .ref (r 30), .int (nI (mrm_ M)), .ref (r 32), .int (mlo_ M)])), (r 1, .inl (cI, 7, .inl (mrf_ M))), (r 2, .inl (cI, 7, .inl (kd_ B))), (r 3, .inl (cI, 7, .inl (fg_ B))), (r 4, .inl (cI, 7, .inl (pl_ B))), (r 5, .inl (cI, 7, .inl (pw_ B))), (r 6, .inl (cI, 7, .inl (jy_ B))), (r 13, .inl (cI, 96, .inl (mtp_ M))), (r 14, .inl (cI, 48, .inl (mlt_ M))), (r 15, .inl (cI, 48, .inl (mla_ M))), (r 16, .inl (cI, 144, .inl (mtd_ M))), (r 20, .inl (cI, 451, .inl (flatK (mkp_ M)))), (r 25, .inl (cI, 7, .inl (mof_ M))), (r 26, .inl (cI, 7, .inl (mfa_ M))), (r 30, .inl (cI, 12, .inl (mrw_ M))), (r 32, .inl (cI, 8, .inl (mhb_ M)))]) H := hP
    refine lv_aload_n hx hb dX5_back_24 rfl (lv_at hl 0 rfl) ?_
    refine lv_iconst (v := 3) hx hb dX5_back_25 (by decide) ?_
    refine lv_aload_n hx hb dX5_back_26 rfl (lv_at hl 0 rfl) ?_
    refine va_get (ci := 5) (C := RX5) (T := TX5) (N := 33) hx hb hts hinX5 hown hK.1 hP 0 rfl rfl 23 (by decide) (hts _ (List.mem_of_getElem? (i := 1) rfl)) (fun _ h9 => h9) rfl dX5_back_27 ?_
    refine lv_iadd hx hb dX5_back_30 ?_
    refine sti (x := 3 + (nI (mbk_ M - 1))) (y := nI (2 + mbk_ M)) (by rw [show (3 : Int32) = nI 3 from rfl, nI_add, show 3 + (mbk_ M - 1) = 2 + mbk_ M by omega]) ?_
    refine lv_iconst (v := 0) hx hb dX5_back_31 (by decide) ?_
    refine kMvV hx hb hml hown hts hK hP (va_D.adr hD0 (mW_adE rfl)) hA hS gX5_back_X5_passesAll okX5_passesAll (qX5_passesAllP l D cI cB r B (mkM (mrf_ M) (mtp_ M) (mlt_ M) (mla_ M) (mtd_ M) (mkp_ M) (mof_ M) (mfa_ M) (mrw_ M) (mhb_ M) (mtn_ M) (mrd_ M) (msm_ M) (mcu_ M) (mbk_ M - 1) (mrm_ M) (mhi_ M) (mik_ M) (mlw_ M) (mhg_ M) (msl_ M) (mlo_ M)) (2 + mbk_ M) (by omega)) [0, 1, 2, 3, 4, 5, 6, 7, 8, 9, 10, 11, 12, 13, 14, 15] rfl (by decide) (fun _ => mW_adr _ _ _ _ _ _) rfl rfl rfl (by decide) hl.1 rfl rfl (Nat.le_of_ble_eq_true rfl) dX5_back_32 (by decide) (fun u_2 H locs hw_3 hP hD hS => ?_)
    replace hP : va_P D vwCl ([(r 0, .inr (5, [.ref (r 1), .ref (r 2), .ref (r 3), .ref (r 4), .ref (r 5), .ref (r 6), .int (nI (sn_ (mkp_ M (2 + mbk_ M)))), .int (qt_ (mkp_ M (2 + mbk_ M))), .int (il_ (mkp_ M (2 + mbk_ M))), .int (pa_ (mkp_ M (2 + mbk_ M))), .int (ho_ (mkp_ M (2 + mbk_ M))), .int (dy_ (mkp_ M (2 + mbk_ M))), .ref (r 13), .ref (r 14), .ref (r 15), .ref (r 16), .int (nI (mtn_ M)), .int (nI (mrd_ M)), .int (nI (msm_ M)), .ref (r 20), .int ((mhi_ M)), .int (0), .int (nI (41 * (2 + mbk_ M) + 41)), .int (nI (mbk_ M - 1)), .ref (r 25), .ref (r 26), .int ((mlw_ M)), .int ((mhg_ M)), .int ((msl_ M)), .ref (r 30), .int (nI (mrm_ M)), .ref (r 32), .int ((mlo_ M))])), (r 1, .inl (cI, 7, .inl (mrf_ M))), (r 2, .inl (cI, 7, .inl (kd_ (mkp_ M (2 + mbk_ M))))), (r 3, .inl (cI, 7, .inl (fg_ (mkp_ M (2 + mbk_ M))))), (r 4, .inl (cI, 7, .inl (pl_ (mkp_ M (2 + mbk_ M))))), (r 5, .inl (cI, 7, .inl (pw_ (mkp_ M (2 + mbk_ M))))), (r 6, .inl (cI, 7, .inl (jy_ (mkp_ M (2 + mbk_ M))))), (r 13, .inl (cI, 96, .inl (mtp_ M))), (r 14, .inl (cI, 48, .inl (mlt_ M))), (r 15, .inl (cI, 48, .inl (mla_ M))), (r 16, .inl (cI, 144, .inl (mtd_ M))), (r 20, .inl (cI, 451, .inl (flatK (mkp_ M)))), (r 25, .inl (cI, 7, .inl (mof_ M))), (r 26, .inl (cI, 7, .inl (mfa_ M))), (r 30, .inl (cI, 12, .inl (mrw_ M))), (r 32, .inl (cI, 8, .inl (mhb_ M)))]) H := (va_P.m [true, true, true, true, true, true, true, true, true, true, true, true, true, true, true, true] [] hP)
    refine lv_aload_n hx hb dX5_back_35 rfl (lv_at hl 0 rfl) ?_
    refine va_get (ci := 5) (C := RX5) (T := TX5) (N := 33) hx hb hts hinX5 hown hK.1 hP 0 rfl rfl 23 (by decide) (hts _ (List.mem_of_getElem? (i := 1) rfl)) (fun _ h9 => h9) rfl dX5_back_36 ?_
    refine rMi hx hb hr hlk hS ((mkp_ M (2 + mbk_ M)), (pu_ (mkM (mrf_ M) (mtp_ M) (mlt_ M) (mla_ M) (mtd_ M) (mkp_ M) (mof_ M) (mfa_ M) (mrw_ M) (mhb_ M) (mtn_ M) (mrd_ M) (msm_ M) (mcu_ M) (mbk_ M - 1) (mrm_ M) (mhi_ M) (mik_ M) (mlw_ M) (mhg_ M) (msl_ M) (mlo_ M)) (2 + mbk_ M))) hP ?_ dX5_back_39
    first | exact Or.inr ⟨by rw [if_pos c_4]; decide, rfl, rfl⟩ | exact Or.inl ⟨if_neg c_4, rfl, rfl⟩
  · replace c_4 : nI (mbk_ M) = nI 0 := c_4
    rw [jeq (by omega) (by omega)] at c_4
    refine lv_aload_n hx hb dX5_back_7 rfl (lv_at hl 0 rfl) ?_
    refine lv_bipush (v := (-3)) hx hb dX5_back_8 (by decide) ?_
    refine kMiV hx hb hml hown hts hK hP (va_D.adr hD0 (mW_adE rfl)) hA hS gX5_back_X5_no okX5_no (qX5_no l D cI cB r B M (-3) (Or.inr (Or.inr (Or.inl rfl)))) [0, 1, 2, 3, 4, 5, 6, 7, 8, 9, 10, 11, 12, 13, 14, 15] rfl (by decide) (fun _ => mW_adr _ _ _ _ _ _) rfl rfl rfl (by decide) hl.1 rfl rfl (Nat.le_of_ble_eq_true rfl) dX5_back_10 (by decide) (fun r_4 u_5 H locs hw_6 hP hD hS => ?_)
    replace hw_6 : r_4 = (-3) ∧ u_5 = (rfm_ M (-3)) := hw_6
    obtain ⟨hw_6a, hw_6b⟩ := hw_6
    subst r_4
    subst u_5
    replace hP : va_P D vwCl ([(r 0, .inr (5, [.ref (r 1), .ref (r 2), .ref (r 3), .ref (r 4), .ref (r 5), .ref (r 6), .int (nI (sn_ B)), .int (qt_ B), .int (il_ B), .int (pa_ B), .int (ho_ B), .int (dy_ B), .ref (r 13), .ref (r 14), .ref (r 15), .ref (r 16), .int (nI (mtn_ M)), .int (nI (mrd_ M)), .int (nI (msm_ M)), .ref (r 20), .int (mhi_ M), .int (mik_ M), .int (nI (mcu_ M)), .int (nI (mbk_ M)), .ref (r 25), .ref (r 26), .int (mlw_ M), .int (mhg_ M), .int (msl_ M), .ref (r 30), .int (nI (mrm_ M)), .ref (r 32), .int (mlo_ M)])), (r 1, .inl (cI, 7, .inl (rfx_ (mrf_ M) (-3)))), (r 2, .inl (cI, 7, .inl (kd_ B))), (r 3, .inl (cI, 7, .inl (fg_ B))), (r 4, .inl (cI, 7, .inl (pl_ B))), (r 5, .inl (cI, 7, .inl (pw_ B))), (r 6, .inl (cI, 7, .inl (jy_ B))), (r 13, .inl (cI, 96, .inl (mtp_ M))), (r 14, .inl (cI, 48, .inl (mlt_ M))), (r 15, .inl (cI, 48, .inl (mla_ M))), (r 16, .inl (cI, 144, .inl (mtd_ M))), (r 20, .inl (cI, 451, .inl (flatK (mkp_ M)))), (r 25, .inl (cI, 7, .inl (mof_ M))), (r 26, .inl (cI, 7, .inl (mfa_ M))), (r 30, .inl (cI, 12, .inl (mrw_ M))), (r 32, .inl (cI, 8, .inl (mhb_ M)))]) H := (va_P.m [true, true, true, true, true, true, true, true, true, true, true, true, true, true, true, true] [] hP)
    refine rMi hx hb hr hlk hS (B, (rfm_ M (-3))) hP ?_ dX5_back_13
    first | exact Or.inr ⟨by rw [if_pos c_4]; decide, rfl, rfl⟩ | exact Or.inl ⟨if_neg c_4, rfl, rfl⟩

theorem okX5_image : jok yX5_image wsX5_image cX5_image 1 (some .int) 0 := ⟨⟨_, rfl⟩, by decide +kernel, by decide +kernel⟩
set_option maxHeartbeats 2000000 in
set_option maxRecDepth 100000 in
theorem qX5_image (l : Launch) (D : va_G) (cI cB : ClassId) (r : Nat → Nat) (B : BayT) (M : MT)  : jMi D cI cB l yX5_image wsX5_image 2 [.ref (r 0)] (mW cI r B M) (S := MT) (fun r u => r = dy_ B ∧ u = pk_ (uhi_ M 1) 0 B) (fun u => mW cI r B u) := by
  refine jMi.of (cc := cX5_image) (maxL := 1) (ret := (some .int)) okX5_image (Nat.le_of_ble_eq_true rfl) ?_
  intro p e s m below meth c ls A hx hb hr hts hown hlk hml hP hK hD hA hS hl
  replace hown : s.vm.findClass RX5 = some m.cls := hown
  replace hl : lv_has ls 1 [(0, .ref (r 0))] := hl
  have hD0 := hD
  have hinX5 : ∀ w ∈ wsX50, w ∈ wsX5_image := by decide +kernel
  refine lv_aload_n hx hb dX5_image_0 rfl (lv_at hl 0 rfl) ?_
  refine lv_iconst (v := 1) hx hb dX5_image_1 (by decide) ?_
  refine va_put (ci := 5) (ty := .boolean) (C := RX5) (T := TX5) (N := 33) hx hb hts hinX5 tyX5 tyX5_ok nmX5 hown hK.1 hP (va_D.adr hD0 (mW_adE rfl)) hS 0 rfl rfl 20 (by decide) (hts _ (List.mem_of_getElem? (i := 1) rfl)) (fun _ h9 => h9) rfl (by decide +kernel) (rfl) (rfl) (Nat.le_of_ble_eq_true rfl) dX5_image_2 (fun H locs hP hD hS => ?_)
  replace hP : va_P D vwCl ([(r 0, .inr (5, [.ref (r 1), .ref (r 2), .ref (r 3), .ref (r 4), .ref (r 5), .ref (r 6), .int (nI (sn_ B)), .int (qt_ B), .int (il_ B), .int (pa_ B), .int (ho_ B), .int (dy_ B), .ref (r 13), .ref (r 14), .ref (r 15), .ref (r 16), .int (nI (mtn_ M)), .int (nI (mrd_ M)), .int (nI (msm_ M)), .ref (r 20), .int (1), .int (mik_ M), .int (nI (mcu_ M)), .int (nI (mbk_ M)), .ref (r 25), .ref (r 26), .int (mlw_ M), .int (mhg_ M), .int (msl_ M), .ref (r 30), .int (nI (mrm_ M)), .ref (r 32), .int (mlo_ M)])), (r 1, .inl (cI, 7, .inl (mrf_ M))), (r 2, .inl (cI, 7, .inl (kd_ B))), (r 3, .inl (cI, 7, .inl (fg_ B))), (r 4, .inl (cI, 7, .inl (pl_ B))), (r 5, .inl (cI, 7, .inl (pw_ B))), (r 6, .inl (cI, 7, .inl (jy_ B))), (r 13, .inl (cI, 96, .inl (mtp_ M))), (r 14, .inl (cI, 48, .inl (mlt_ M))), (r 15, .inl (cI, 48, .inl (mla_ M))), (r 16, .inl (cI, 144, .inl (mtd_ M))), (r 20, .inl (cI, 451, .inl (flatK (mkp_ M)))), (r 25, .inl (cI, 7, .inl (mof_ M))), (r 26, .inl (cI, 7, .inl (mfa_ M))), (r 30, .inl (cI, 12, .inl (mrw_ M))), (r 32, .inl (cI, 8, .inl (mhb_ M)))]) H := hP
  refine lv_aload_n hx hb dX5_image_5 rfl (lv_at hl 0 rfl) ?_
  refine lv_iconst (v := 0) hx hb dX5_image_6 (by decide) ?_
  refine lv_iconst (v := 1) hx hb dX5_image_7 (by decide) ?_
  refine kMvV hx hb hml hown hts hK hP (va_D.adr hD0 (mW_adE rfl)) hA hS gX5_image_X5_passesAll okX5_passesAll (qX5_passesAllK l D cI cB r B (mkM (mrf_ M) (mtp_ M) (mlt_ M) (mla_ M) (mtd_ M) (mkp_ M) (mof_ M) (mfa_ M) (mrw_ M) (mhb_ M) (mtn_ M) (mrd_ M) (msm_ M) (mcu_ M) (mbk_ M) (mrm_ M) 1 (mik_ M) (mlw_ M) (mhg_ M) (msl_ M) (mlo_ M)) 0 (by omega)) [0, 1, 2, 3, 4, 5, 6, 7, 8, 9, 10, 11, 12, 13, 14, 15] rfl (by decide) (fun _ => mW_adr _ _ _ _ _ _) rfl rfl rfl (by decide) hl.1 rfl rfl (Nat.le_of_ble_eq_true rfl) dX5_image_8 (by decide) (fun u_2 H locs hw_3 hP hD hS => ?_)
  replace hP : va_P D vwCl ([(r 0, .inr (5, [.ref (r 1), .ref (r 2), .ref (r 3), .ref (r 4), .ref (r 5), .ref (r 6), .int (nI (sn_ B)), .int (qt_ B), .int (il_ B), .int (pa_ B), .int (ho_ B), .int (dy_ B), .ref (r 13), .ref (r 14), .ref (r 15), .ref (r 16), .int (nI (mtn_ M)), .int (nI (mrd_ M)), .int (nI (msm_ M)), .ref (r 20), .int (1), .int (1), .int (nI (41 * 0 + 41)), .int (nI (mbk_ M)), .ref (r 25), .ref (r 26), .int ((mlw_ M)), .int ((mhg_ M)), .int ((msl_ M)), .ref (r 30), .int (nI (mrm_ M)), .ref (r 32), .int ((mlo_ M))])), (r 1, .inl (cI, 7, .inl (mrf_ M))), (r 2, .inl (cI, 7, .inl (kd_ B))), (r 3, .inl (cI, 7, .inl (fg_ B))), (r 4, .inl (cI, 7, .inl (pl_ B))), (r 5, .inl (cI, 7, .inl (pw_ B))), (r 6, .inl (cI, 7, .inl (jy_ B))), (r 13, .inl (cI, 96, .inl (mtp_ M))), (r 14, .inl (cI, 48, .inl (mlt_ M))), (r 15, .inl (cI, 48, .inl (mla_ M))), (r 16, .inl (cI, 144, .inl (mtd_ M))), (r 20, .inl (cI, 451, .inl (flatK (va_up (mkp_ M) 0 B)))), (r 25, .inl (cI, 7, .inl (mof_ M))), (r 26, .inl (cI, 7, .inl (mfa_ M))), (r 30, .inl (cI, 12, .inl (mrw_ M))), (r 32, .inl (cI, 8, .inl (mhb_ M)))]) H := (va_P.m [true, true, true, true, true, true, true, true, true, true, true, true, true, true, true, true] [] hP)
  refine lv_aload_n hx hb dX5_image_11 rfl (lv_at hl 0 rfl) ?_
  refine va_get (ci := 5) (C := RX5) (T := TX5) (N := 33) hx hb hts hinX5 hown hK.1 hP 0 rfl rfl 11 (by decide) (hts _ (List.mem_of_getElem? (i := 2) rfl)) (fun _ h9 => h9) rfl dX5_image_12 ?_
  refine rMi hx hb hr hlk hS (pk_ (mkM (mrf_ M) (mtp_ M) (mlt_ M) (mla_ M) (mtd_ M) (mkp_ M) (mof_ M) (mfa_ M) (mrw_ M) (mhb_ M) (mtn_ M) (mrd_ M) (msm_ M) (mcu_ M) (mbk_ M) (mrm_ M) 1 (mik_ M) (mlw_ M) (mhg_ M) (msl_ M) (mlo_ M)) 0 B) hP ?_ dX5_image_15
  exact ⟨rfl, rfl⟩

theorem okX5_restore : jok yX5_restore wsX5_restore cX5_restore 1 (some .int) 0 := ⟨⟨_, rfl⟩, by decide +kernel, by decide +kernel⟩
set_option maxHeartbeats 2000000 in
set_option maxRecDepth 100000 in
theorem qX5_restore (l : Launch) (D : va_G) (cI cB : ClassId) (r : Nat → Nat) (B : BayT) (M : MT) (hI : bI_ B) : jMi D cI cB l yX5_restore wsX5_restore 2 [.ref (r 0)] (mW cI r B M) (S := BayT × MT) (fun r u => ((if mhi_ M = 0 then (-3 : Int32) else 0) = 0 ∧ r = dy_ (mkp_ M 0) ∧ u = (mkp_ M 0, ubk_ (pu_ M 0) 0)) ∨ (¬ (if mhi_ M = 0 then (-3 : Int32) else 0) = 0 ∧ r = -3 ∧ u = (B, rfm_ M (-3)))) (fun u => mW cI r u.1 u.2) := by
  refine jMi.of (cc := cX5_restore) (maxL := 1) (ret := (some .int)) okX5_restore (Nat.le_of_ble_eq_true rfl) ?_
  intro p e s m below meth c ls A hx hb hr hts hown hlk hml hP hK hD hA hS hl
  replace hown : s.vm.findClass RX5 = some m.cls := hown
  replace hl : lv_has ls 1 [(0, .ref (r 0))] := hl
  have hD0 := hD
  have hn7 := hI.1
  have hinX5 : ∀ w ∈ wsX50, w ∈ wsX5_restore := by decide +kernel
  refine lv_aload_n hx hb dX5_restore_0 rfl (lv_at hl 0 rfl) ?_
  refine va_get (ci := 5) (C := RX5) (T := TX5) (N := 33) hx hb hts hinX5 hown hK.1 hP 0 rfl rfl 20 (by decide) (hts _ (List.mem_of_getElem? (i := 1) rfl)) (fun _ h9 => h9) rfl dX5_restore_1 ?_
  refine lv_if_ne (tgt := 14) hx hb dX5_restore_4 (by decide) (fun c_4 => ?_) (fun c_4 => ?_)
  · skip
    refine lv_aload_n hx hb dX5_restore_14 rfl (lv_at hl 0 rfl) ?_
    refine lv_iconst (v := 0) hx hb dX5_restore_15 (by decide) ?_
    refine lv_iconst (v := 0) hx hb dX5_restore_16 (by decide) ?_
    refine kMvV hx hb hml hown hts hK hP (va_D.adr hD0 (mW_adE rfl)) hA hS gX5_restore_X5_passesAll okX5_passesAll (qX5_passesAllP l D cI cB r B M 0 (by omega)) [0, 1, 2, 3, 4, 5, 6, 7, 8, 9, 10, 11, 12, 13, 14, 15] rfl (by decide) (fun _ => mW_adr _ _ _ _ _ _) rfl rfl rfl (by decide) hl.1 rfl rfl (Nat.le_of_ble_eq_true rfl) dX5_restore_17 (by decide) (fun u_2 H locs hw_3 hP hD hS => ?_)
    replace hP : va_P D vwCl ([(r 0, .inr (5, [.ref (r 1), .ref (r 2), .ref (r 3), .ref (r 4), .ref (r 5), .ref (r 6), .int (nI (sn_ (mkp_ M 0))), .int (qt_ (mkp_ M 0)), .int (il_ (mkp_ M 0)), .int (pa_ (mkp_ M 0)), .int (ho_ (mkp_ M 0)), .int (dy_ (mkp_ M 0)), .ref (r 13), .ref (r 14), .ref (r 15), .ref (r 16), .int (nI (mtn_ M)), .int (nI (mrd_ M)), .int (nI (msm_ M)), .ref (r 20), .int (mhi_ M), .int (0), .int (nI (41 * 0 + 41)), .int (nI (mbk_ M)), .ref (r 25), .ref (r 26), .int (mlw_ M), .int (mhg_ M), .int (msl_ M), .ref (r 30), .int (nI (mrm_ M)), .ref (r 32), .int (mlo_ M)])), (r 1, .inl (cI, 7, .inl (mrf_ M))), (r 2, .inl (cI, 7, .inl (kd_ (mkp_ M 0)))), (r 3, .inl (cI, 7, .inl (fg_ (mkp_ M 0)))), (r 4, .inl (cI, 7, .inl (pl_ (mkp_ M 0)))), (r 5, .inl (cI, 7, .inl (pw_ (mkp_ M 0)))), (r 6, .inl (cI, 7, .inl (jy_ (mkp_ M 0)))), (r 13, .inl (cI, 96, .inl (mtp_ M))), (r 14, .inl (cI, 48, .inl (mlt_ M))), (r 15, .inl (cI, 48, .inl (mla_ M))), (r 16, .inl (cI, 144, .inl (mtd_ M))), (r 20, .inl (cI, 451, .inl (flatK (mkp_ M)))), (r 25, .inl (cI, 7, .inl (mof_ M))), (r 26, .inl (cI, 7, .inl (mfa_ M))), (r 30, .inl (cI, 12, .inl (mrw_ M))), (r 32, .inl (cI, 8, .inl (mhb_ M)))]) H := (va_P.m [true, true, true, true, true, true, true, true, true, true, true, true, true, true, true, true] [] hP)
    refine lv_aload_n hx hb dX5_restore_20 rfl (lv_at hl 0 rfl) ?_
    refine lv_iconst (v := 0) hx hb dX5_restore_21 (by decide) ?_
    refine sti (x := 0) (y := nI 0) (rfl) ?_
    refine va_put (ci := 5) (ty := .int) (C := RX5) (T := TX5) (N := 33) hx hb hts hinX5 tyX5 tyX5_ok nmX5 hown hK.1 hP (va_D.adr hD0 (mW_adE rfl)) hS 0 rfl rfl 23 (by decide) (hts _ (List.mem_of_getElem? (i := 2) rfl)) (fun _ h9 => h9) rfl (by decide +kernel) (rfl) (rfl) (Nat.le_of_ble_eq_true rfl) dX5_restore_22 (fun H locs hP hD hS => ?_)
    replace hP : va_P D vwCl ([(r 0, .inr (5, [.ref (r 1), .ref (r 2), .ref (r 3), .ref (r 4), .ref (r 5), .ref (r 6), .int (nI (sn_ (mkp_ M 0))), .int (qt_ (mkp_ M 0)), .int (il_ (mkp_ M 0)), .int (pa_ (mkp_ M 0)), .int (ho_ (mkp_ M 0)), .int (dy_ (mkp_ M 0)), .ref (r 13), .ref (r 14), .ref (r 15), .ref (r 16), .int (nI (mtn_ M)), .int (nI (mrd_ M)), .int (nI (msm_ M)), .ref (r 20), .int (mhi_ M), .int (0), .int (nI (41 * 0 + 41)), .int (nI 0), .ref (r 25), .ref (r 26), .int (mlw_ M), .int (mhg_ M), .int (msl_ M), .ref (r 30), .int (nI (mrm_ M)), .ref (r 32), .int (mlo_ M)])), (r 1, .inl (cI, 7, .inl (mrf_ M))), (r 2, .inl (cI, 7, .inl (kd_ (mkp_ M 0)))), (r 3, .inl (cI, 7, .inl (fg_ (mkp_ M 0)))), (r 4, .inl (cI, 7, .inl (pl_ (mkp_ M 0)))), (r 5, .inl (cI, 7, .inl (pw_ (mkp_ M 0)))), (r 6, .inl (cI, 7, .inl (jy_ (mkp_ M 0)))), (r 13, .inl (cI, 96, .inl (mtp_ M))), (r 14, .inl (cI, 48, .inl (mlt_ M))), (r 15, .inl (cI, 48, .inl (mla_ M))), (r 16, .inl (cI, 144, .inl (mtd_ M))), (r 20, .inl (cI, 451, .inl (flatK (mkp_ M)))), (r 25, .inl (cI, 7, .inl (mof_ M))), (r 26, .inl (cI, 7, .inl (mfa_ M))), (r 30, .inl (cI, 12, .inl (mrw_ M))), (r 32, .inl (cI, 8, .inl (mhb_ M)))]) H := hP
    refine lv_aload_n hx hb dX5_restore_25 rfl (lv_at hl 0 rfl) ?_
    refine va_get (ci := 5) (C := RX5) (T := TX5) (N := 33) hx hb hts hinX5 hown hK.1 hP 0 rfl rfl 11 (by decide) (hts _ (List.mem_of_getElem? (i := 3) rfl)) (fun _ h9 => h9) rfl dX5_restore_26 ?_
    refine rMi hx hb hr hlk hS ((mkp_ M 0), (mkM (mrf_ M) (mtp_ M) (mlt_ M) (mla_ M) (mtd_ M) (mkp_ M) (mof_ M) (mfa_ M) (mrw_ M) (mhb_ M) (mtn_ M) (mrd_ M) (msm_ M) (41 * 0 + 41) 0 (mrm_ M) (mhi_ M) 0 (mlw_ M) (mhg_ M) (msl_ M) (mlo_ M))) hP ?_ dX5_restore_29
    first | exact Or.inr ⟨by rw [if_pos c_4]; decide, rfl, rfl⟩ | exact Or.inl ⟨if_neg c_4, rfl, rfl⟩
  · skip
    refine lv_aload_n hx hb dX5_restore_7 rfl (lv_at hl 0 rfl) ?_
    refine lv_bipush (v := (-3)) hx hb dX5_restore_8 (by decide) ?_
    refine kMiV hx hb hml hown hts hK hP (va_D.adr hD0 (mW_adE rfl)) hA hS gX5_restore_X5_no okX5_no (qX5_no l D cI cB r B M (-3) (Or.inr (Or.inr (Or.inl rfl)))) [0, 1, 2, 3, 4, 5, 6, 7, 8, 9, 10, 11, 12, 13, 14, 15] rfl (by decide) (fun _ => mW_adr _ _ _ _ _ _) rfl rfl rfl (by decide) hl.1 rfl rfl (Nat.le_of_ble_eq_true rfl) dX5_restore_10 (by decide) (fun r_4 u_5 H locs hw_6 hP hD hS => ?_)
    replace hw_6 : r_4 = (-3) ∧ u_5 = (rfm_ M (-3)) := hw_6
    obtain ⟨hw_6a, hw_6b⟩ := hw_6
    subst r_4
    subst u_5
    replace hP : va_P D vwCl ([(r 0, .inr (5, [.ref (r 1), .ref (r 2), .ref (r 3), .ref (r 4), .ref (r 5), .ref (r 6), .int (nI (sn_ B)), .int (qt_ B), .int (il_ B), .int (pa_ B), .int (ho_ B), .int (dy_ B), .ref (r 13), .ref (r 14), .ref (r 15), .ref (r 16), .int (nI (mtn_ M)), .int (nI (mrd_ M)), .int (nI (msm_ M)), .ref (r 20), .int (mhi_ M), .int (mik_ M), .int (nI (mcu_ M)), .int (nI (mbk_ M)), .ref (r 25), .ref (r 26), .int (mlw_ M), .int (mhg_ M), .int (msl_ M), .ref (r 30), .int (nI (mrm_ M)), .ref (r 32), .int (mlo_ M)])), (r 1, .inl (cI, 7, .inl (rfx_ (mrf_ M) (-3)))), (r 2, .inl (cI, 7, .inl (kd_ B))), (r 3, .inl (cI, 7, .inl (fg_ B))), (r 4, .inl (cI, 7, .inl (pl_ B))), (r 5, .inl (cI, 7, .inl (pw_ B))), (r 6, .inl (cI, 7, .inl (jy_ B))), (r 13, .inl (cI, 96, .inl (mtp_ M))), (r 14, .inl (cI, 48, .inl (mlt_ M))), (r 15, .inl (cI, 48, .inl (mla_ M))), (r 16, .inl (cI, 144, .inl (mtd_ M))), (r 20, .inl (cI, 451, .inl (flatK (mkp_ M)))), (r 25, .inl (cI, 7, .inl (mof_ M))), (r 26, .inl (cI, 7, .inl (mfa_ M))), (r 30, .inl (cI, 12, .inl (mrw_ M))), (r 32, .inl (cI, 8, .inl (mhb_ M)))]) H := (va_P.m [true, true, true, true, true, true, true, true, true, true, true, true, true, true, true, true] [] hP)
    refine rMi hx hb hr hlk hS (B, (rfm_ M (-3))) hP ?_ dX5_restore_13
    first | exact Or.inr ⟨by rw [if_pos c_4]; decide, rfl, rfl⟩ | exact Or.inl ⟨if_neg c_4, rfl, rfl⟩

theorem okX5_feed : jok yX5_feed wsX5_feed cX5_feed 3 (some .int) 1 := ⟨⟨_, rfl⟩, by decide +kernel, by decide +kernel⟩
set_option maxHeartbeats 2000000 in
set_option maxRecDepth 100000 in
theorem qX5_feed (l : Launch) (D : va_G) (cI cB : ClassId) (r : Nat → Nat) (B : BayT) (M : MT) (v : Int32) (htn : mtn_ M ≤ 96) : jMi D cI cB l yX5_feed wsX5_feed 1 [.ref (r 0), .int v] (mW cI r B M) (S := MT) (fun r u => (f2_ (ob_ v 0 255) (if 96 ≤ mtn_ M then -6 else 0) = 0 ∧ r = nI (mtn_ M + 1) ∧ u = utp_ M v) ∨ (¬ f2_ (ob_ v 0 255) (if 96 ≤ mtn_ M then -6 else 0) = 0 ∧ r = f2_ (ob_ v 0 255) (if 96 ≤ mtn_ M then -6 else 0) ∧ u = rfm_ M (f2_ (ob_ v 0 255) (if 96 ≤ mtn_ M then -6 else 0)))) (fun u => mW cI r B u) := by
  refine jMi.of (cc := cX5_feed) (maxL := 3) (ret := (some .int)) okX5_feed (Nat.le_of_ble_eq_true rfl) ?_
  intro p e s m below meth c ls A hx hb hr hts hown hlk hml hP hK hD hA hS hl
  replace hown : s.vm.findClass RX5 = some m.cls := hown
  replace hl : lv_has ls 3 [(0, .ref (r 0)), (1, .int v)] := hl
  have hD0 := hD
  have hinX5 : ∀ w ∈ wsX50, w ∈ wsX5_feed := by decide +kernel
  refine lv_iload_n hx hb dX5_feed_0 rfl (lv_at hl 1 rfl) ?_
  refine lv_iconst (v := 0) hx hb dX5_feed_1 (by decide) ?_
  refine lv_sipush (v := 255) hx hb dX5_feed_2 (by decide) ?_
  refine kSiS hx hb hml hown hts hK hP gX5_feed_X5_bound okX5_bound (qX5_bound l D cI cB v 0 255 ) [] rfl (by decide) hl.1 rfl rfl (Nat.le_of_ble_eq_true rfl) dX5_feed_5 (by decide) (fun r_1 hr_2 => ?_)
  replace hr_2 : r_1 = ob_ v 0 255 := hr_2
  subst r_1
  refine lv_istore_n (lv' := [(2, .int (ob_ v 0 255)), (0, .ref (r 0)), (1, .int v)]) hx hb dX5_feed_8 rfl hl (by decide) rfl (fun ls hl => ?_)
  have jn_25 : ∀  (x2_25 : Int32) , (x2_25 = f2_ (ob_ v 0 255) (if 96 ≤ mtn_ M then -6 else 0)) → ∀ (H : Heap) (locs : List Loc), va_P D vwCl (mW cI r B M) H → va_D A (mW cI r B M) → va_S A s.heap H locs → ∀ ls : Array Slot, lv_has ls 3 [(2, .int x2_25), (0, .ref (r 0)), (1, .int v)] → W p l e (jR 1) s m ([.ref (r 0), .int v] : List Value).toArray below meth c H locs 0 0 (MQ below (va_Qi (S := MT) (fun r u => (f2_ (ob_ v 0 255) (if 96 ≤ mtn_ M then -6 else 0) = 0 ∧ r = nI (mtn_ M + 1) ∧ u = utp_ M v) ∨ (¬ f2_ (ob_ v 0 255) (if 96 ≤ mtn_ M then -6 else 0) = 0 ∧ r = f2_ (ob_ v 0 255) (if 96 ≤ mtn_ M then -6 else 0) ∧ u = rfm_ M (f2_ (ob_ v 0 255) (if 96 ≤ mtn_ M then -6 else 0)))) (fun u t => va_P D vwCl ((fun u => mW cI r B u) u) t.heap) A) ([.ref (r 0), .int v] : List Value).toArray s 0 0 A) (F0 m 25 ls []) := by
      intro x2_25 hx2_25 H locs hP hD hS ls hl
      subst x2_25
      replace hl : lv_has ls 3 [(2, .int (f2_ (ob_ v 0 255) (if 96 ≤ mtn_ M then -6 else 0))), (0, .ref (r 0)), (1, .int v)] := hl
      replace hP : va_P D vwCl (mW cI r B M) H := hP
      refine lv_iload_n hx hb dX5_feed_25 rfl (lv_at hl 0 rfl) ?_
      refine lv_if_eq (tgt := 35) hx hb dX5_feed_26 (by decide) (fun c_26 => ?_) (fun c_26 => ?_)
      · skip
        have hf : mtn_ M < 96 := by
          rw [f2_0] at c_26
          by_cases z : 96 ≤ mtn_ M
          · rw [if_pos z] at c_26; exact absurd c_26.2 (by decide)
          · omega
        refine lv_aload_n hx hb dX5_feed_35 rfl (lv_at hl 1 rfl) ?_
        refine va_get (ci := 5) (C := RX5) (T := TX5) (N := 33) hx hb hts hinX5 hown hK.1 hP 0 rfl rfl 12 (by decide) (hts _ (List.mem_of_getElem? (i := 2) rfl)) (fun _ h9 => h9) rfl dX5_feed_36 ?_
        refine lv_aload_n hx hb dX5_feed_39 rfl (lv_at hl 1 rfl) ?_
        refine va_get (ci := 5) (C := RX5) (T := TX5) (N := 33) hx hb hts hinX5 hown hK.1 hP 0 rfl rfl 16 (by decide) (hts _ (List.mem_of_getElem? (i := 1) rfl)) (fun _ h9 => h9) rfl dX5_feed_40 ?_
        refine lv_iload_n hx hb dX5_feed_43 rfl (lv_at hl 2 rfl) ?_
        refine jast hx hb hK.1 hP (va_D.adr hD0 (mW_adE rfl)) hS 7 0 (mtn_ M) rfl rfl rfl (by omega) (Nat.le_of_ble_eq_true rfl) dX5_feed_44 (fun f_3 ef_3 H locs hP hD hS => ?_)
        replace ef_3 : f_3 = upd (mtp_ M) (mtn_ M) v := ef_3
        replace hP : va_P D vwCl ([(r 0, .inr (5, [.ref (r 1), .ref (r 2), .ref (r 3), .ref (r 4), .ref (r 5), .ref (r 6), .int (nI (sn_ B)), .int (qt_ B), .int (il_ B), .int (pa_ B), .int (ho_ B), .int (dy_ B), .ref (r 13), .ref (r 14), .ref (r 15), .ref (r 16), .int (nI (mtn_ M)), .int (nI (mrd_ M)), .int (nI (msm_ M)), .ref (r 20), .int (mhi_ M), .int (mik_ M), .int (nI (mcu_ M)), .int (nI (mbk_ M)), .ref (r 25), .ref (r 26), .int (mlw_ M), .int (mhg_ M), .int (msl_ M), .ref (r 30), .int (nI (mrm_ M)), .ref (r 32), .int (mlo_ M)])), (r 1, .inl (cI, 7, .inl (mrf_ M))), (r 2, .inl (cI, 7, .inl (kd_ B))), (r 3, .inl (cI, 7, .inl (fg_ B))), (r 4, .inl (cI, 7, .inl (pl_ B))), (r 5, .inl (cI, 7, .inl (pw_ B))), (r 6, .inl (cI, 7, .inl (jy_ B))), (r 13, .inl (cI, 96, .inl f_3)), (r 14, .inl (cI, 48, .inl (mlt_ M))), (r 15, .inl (cI, 48, .inl (mla_ M))), (r 16, .inl (cI, 144, .inl (mtd_ M))), (r 20, .inl (cI, 451, .inl (flatK (mkp_ M)))), (r 25, .inl (cI, 7, .inl (mof_ M))), (r 26, .inl (cI, 7, .inl (mfa_ M))), (r 30, .inl (cI, 12, .inl (mrw_ M))), (r 32, .inl (cI, 8, .inl (mhb_ M)))]) H := hP
        refine lv_aload_n hx hb dX5_feed_45 rfl (lv_at hl 1 rfl) ?_
        refine lv_dup hx hb dX5_feed_46 rfl ?_
        refine va_get (ci := 5) (C := RX5) (T := TX5) (N := 33) hx hb hts hinX5 hown hK.1 hP 0 rfl rfl 16 (by decide) (hts _ (List.mem_of_getElem? (i := 1) rfl)) (fun _ h9 => h9) rfl dX5_feed_47 ?_
        refine lv_iconst (v := 1) hx hb dX5_feed_50 (by decide) ?_
        refine lv_iadd hx hb dX5_feed_51 ?_
        refine sti (x := (nI (mtn_ M)) + 1) (y := nI (mtn_ M + 1)) (nI_1 _) ?_
        refine va_put (ci := 5) (ty := .int) (C := RX5) (T := TX5) (N := 33) hx hb hts hinX5 tyX5 tyX5_ok nmX5 hown hK.1 hP (va_D.adr hD0 (mW_adE rfl)) hS 0 rfl rfl 16 (by decide) (hts _ (List.mem_of_getElem? (i := 1) rfl)) (fun _ h9 => h9) rfl (by decide +kernel) (rfl) (rfl) (Nat.le_of_ble_eq_true rfl) dX5_feed_52 (fun H locs hP hD hS => ?_)
        replace hP : va_P D vwCl ([(r 0, .inr (5, [.ref (r 1), .ref (r 2), .ref (r 3), .ref (r 4), .ref (r 5), .ref (r 6), .int (nI (sn_ B)), .int (qt_ B), .int (il_ B), .int (pa_ B), .int (ho_ B), .int (dy_ B), .ref (r 13), .ref (r 14), .ref (r 15), .ref (r 16), .int (nI (mtn_ M + 1)), .int (nI (mrd_ M)), .int (nI (msm_ M)), .ref (r 20), .int (mhi_ M), .int (mik_ M), .int (nI (mcu_ M)), .int (nI (mbk_ M)), .ref (r 25), .ref (r 26), .int (mlw_ M), .int (mhg_ M), .int (msl_ M), .ref (r 30), .int (nI (mrm_ M)), .ref (r 32), .int (mlo_ M)])), (r 1, .inl (cI, 7, .inl (mrf_ M))), (r 2, .inl (cI, 7, .inl (kd_ B))), (r 3, .inl (cI, 7, .inl (fg_ B))), (r 4, .inl (cI, 7, .inl (pl_ B))), (r 5, .inl (cI, 7, .inl (pw_ B))), (r 6, .inl (cI, 7, .inl (jy_ B))), (r 13, .inl (cI, 96, .inl f_3)), (r 14, .inl (cI, 48, .inl (mlt_ M))), (r 15, .inl (cI, 48, .inl (mla_ M))), (r 16, .inl (cI, 144, .inl (mtd_ M))), (r 20, .inl (cI, 451, .inl (flatK (mkp_ M)))), (r 25, .inl (cI, 7, .inl (mof_ M))), (r 26, .inl (cI, 7, .inl (mfa_ M))), (r 30, .inl (cI, 12, .inl (mrw_ M))), (r 32, .inl (cI, 8, .inl (mhb_ M)))]) H := hP
        refine lv_aload_n hx hb dX5_feed_55 rfl (lv_at hl 1 rfl) ?_
        refine va_get (ci := 5) (C := RX5) (T := TX5) (N := 33) hx hb hts hinX5 hown hK.1 hP 0 rfl rfl 16 (by decide) (hts _ (List.mem_of_getElem? (i := 1) rfl)) (fun _ h9 => h9) rfl dX5_feed_56 ?_
        (try rw [ef_3] at hP); (try rw [ef_3] at hD); (try rw [ef_3] at hl); (try rw [ef_3] at c_26); (try rw [ef_3])
        refine rMi hx hb hr hlk hS (mkM (mrf_ M) (upd (mtp_ M) (mtn_ M) v) (mlt_ M) (mla_ M) (mtd_ M) (mkp_ M) (mof_ M) (mfa_ M) (mrw_ M) (mhb_ M) (mtn_ M + 1) (mrd_ M) (msm_ M) (mcu_ M) (mbk_ M) (mrm_ M) (mhi_ M) (mik_ M) (mlw_ M) (mhg_ M) (msl_ M) (mlo_ M)) hP ?_ dX5_feed_59
        first | exact Or.inr ⟨c_26, rfl, rfl⟩ | exact Or.inl ⟨c_26, rfl, rfl⟩
      · skip
        refine lv_aload_n hx hb dX5_feed_29 rfl (lv_at hl 1 rfl) ?_
        refine lv_iload_n hx hb dX5_feed_30 rfl (lv_at hl 0 rfl) ?_
        refine kMiV hx hb hml hown hts hK hP (va_D.adr hD0 (mW_adE rfl)) hA hS gX5_feed_X5_no okX5_no (qX5_no l D cI cB r B M (f2_ (ob_ v 0 255) (if 96 ≤ mtn_ M then -6 else 0)) (rc0_n (rc0_f2 (rc0_ob _ _ _) (rc0_if (Or.inr (Or.inr (Or.inr (Or.inr (Or.inr rfl))))) (Or.inl rfl))) c_26)) [0, 1, 2, 3, 4, 5, 6, 7, 8, 9, 10, 11, 12, 13, 14, 15] rfl (by decide) (fun _ => mW_adr _ _ _ _ _ _) rfl rfl rfl (by decide) hl.1 rfl rfl (Nat.le_of_ble_eq_true rfl) dX5_feed_31 (by decide) (fun r_4 u_5 H locs hw_6 hP hD hS => ?_)
        replace hw_6 : r_4 = f2_ (ob_ v 0 255) (if 96 ≤ mtn_ M then -6 else 0) ∧ u_5 = (rfm_ M (f2_ (ob_ v 0 255) (if 96 ≤ mtn_ M then -6 else 0))) := hw_6
        obtain ⟨hw_6a, hw_6b⟩ := hw_6
        subst r_4
        subst u_5
        replace hP : va_P D vwCl ([(r 0, .inr (5, [.ref (r 1), .ref (r 2), .ref (r 3), .ref (r 4), .ref (r 5), .ref (r 6), .int (nI (sn_ B)), .int (qt_ B), .int (il_ B), .int (pa_ B), .int (ho_ B), .int (dy_ B), .ref (r 13), .ref (r 14), .ref (r 15), .ref (r 16), .int (nI (mtn_ M)), .int (nI (mrd_ M)), .int (nI (msm_ M)), .ref (r 20), .int (mhi_ M), .int (mik_ M), .int (nI (mcu_ M)), .int (nI (mbk_ M)), .ref (r 25), .ref (r 26), .int (mlw_ M), .int (mhg_ M), .int (msl_ M), .ref (r 30), .int (nI (mrm_ M)), .ref (r 32), .int (mlo_ M)])), (r 1, .inl (cI, 7, .inl (rfx_ (mrf_ M) (f2_ (ob_ v 0 255) (if 96 ≤ mtn_ M then -6 else 0))))), (r 2, .inl (cI, 7, .inl (kd_ B))), (r 3, .inl (cI, 7, .inl (fg_ B))), (r 4, .inl (cI, 7, .inl (pl_ B))), (r 5, .inl (cI, 7, .inl (pw_ B))), (r 6, .inl (cI, 7, .inl (jy_ B))), (r 13, .inl (cI, 96, .inl (mtp_ M))), (r 14, .inl (cI, 48, .inl (mlt_ M))), (r 15, .inl (cI, 48, .inl (mla_ M))), (r 16, .inl (cI, 144, .inl (mtd_ M))), (r 20, .inl (cI, 451, .inl (flatK (mkp_ M)))), (r 25, .inl (cI, 7, .inl (mof_ M))), (r 26, .inl (cI, 7, .inl (mfa_ M))), (r 30, .inl (cI, 12, .inl (mrw_ M))), (r 32, .inl (cI, 8, .inl (mhb_ M)))]) H := (va_P.m [true, true, true, true, true, true, true, true, true, true, true, true, true, true, true, true] [] hP)
        refine rMi hx hb hr hlk hS (rfm_ M (f2_ (ob_ v 0 255) (if 96 ≤ mtn_ M then -6 else 0))) hP ?_ dX5_feed_34
        first | exact Or.inr ⟨c_26, rfl, rfl⟩ | exact Or.inl ⟨c_26, rfl, rfl⟩
  refine lv_iload_n hx hb dX5_feed_9 rfl (lv_at hl 0 rfl) ?_
  refine lv_if_ne (tgt := 25) hx hb dX5_feed_10 (by decide) (fun c_10 => ?_) (fun c_10 => ?_)
  · skip
    exact jn_25  (ob_ v 0 255)  (by first | exact (f2_a c_10).symm | exact (by rw [f2_b c_10, if_neg (by omega)]; exact c_10) | exact (by rw [f2_b c_10, if_pos (by omega)]))   _ _ hP (va_D.adr hD0 (mW_adE rfl)) hS ls (lv_sub hl [0, 1, 2] rfl)
  · skip
    refine lv_aload_n hx hb dX5_feed_13 rfl (lv_at hl 1 rfl) ?_
    refine va_get (ci := 5) (C := RX5) (T := TX5) (N := 33) hx hb hts hinX5 hown hK.1 hP 0 rfl rfl 16 (by decide) (hts _ (List.mem_of_getElem? (i := 1) rfl)) (fun _ h9 => h9) rfl dX5_feed_14 ?_
    refine lv_bipush (v := 96) hx hb dX5_feed_17 (by decide) ?_
    refine lv_icmp_ne (tgt := 25) hx hb dX5_feed_19 (by decide) (fun c_19 => ?_) (fun c_19 => ?_)
    · replace c_19 : ¬ nI (mtn_ M) = nI 96 := c_19
      rw [jeq (by omega) (by omega)] at c_19
      exact jn_25  (ob_ v 0 255)  (by first | exact (f2_a c_10).symm | exact (by rw [f2_b c_10, if_neg (by omega)]; exact c_10) | exact (by rw [f2_b c_10, if_pos (by omega)]))   _ _ hP (va_D.adr hD0 (mW_adE rfl)) hS ls (lv_sub hl [0, 1, 2] rfl)
    · replace c_19 : nI (mtn_ M) = nI 96 := c_19
      rw [jeq (by omega) (by omega)] at c_19
      refine lv_bipush (v := (-6)) hx hb dX5_feed_22 (by decide) ?_
      refine lv_istore_n (lv' := [(2, .int (-6)), (0, .ref (r 0)), (1, .int v)]) hx hb dX5_feed_24 rfl hl (by decide) rfl (fun ls hl => ?_)
      exact jn_25  (-6)  (by first | exact (f2_a c_10).symm | exact (by rw [f2_b c_10, if_neg (by omega)]; exact c_10) | exact (by rw [f2_b c_10, if_pos (by omega)]))   _ _ hP (va_D.adr hD0 (mW_adE rfl)) hS ls (lv_sub hl [0, 1, 2] rfl)

