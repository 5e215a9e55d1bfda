theorem okX5_shore : jok yX5_shore wsX5_shore cX5_shore 5 (some .int) 3 := ⟨⟨_, rfl⟩, by decide +kernel, by decide +kernel⟩
set_option maxHeartbeats 2000000 in
set_option maxRecDepth 100000 in
theorem qX5_shore (l : Launch) (D : va_G) (cI cB : ClassId) (r : Nat → Nat) (B : BayT) (M : MT) (w : Int32) (f : Int32) (v : Int32) (hI : bI_ B) : jMi D cI cB l yX5_shore wsX5_shore 1 [.ref (r 0), .int w, .int f, .int v] (mW cI r B M) (S := BayT × MT) (fun r u => (rs_ B w f v = 0 ∧ r = nI (sn_ B) ∧ u = (ad_ B w f v, ubk_ M 0)) ∨ (¬ rs_ B w f v = 0 ∧ r = rs_ B w f v ∧ u = (B, rfm_ M (rs_ B w f v)))) (fun u => mW cI r u.1 u.2) := by
  refine jMi.of (cc := cX5_shore) (maxL := 5) (ret := (some .int)) okX5_shore (Nat.le_of_ble_eq_true rfl) ?_
  intro p e s m below meth c ls A hx hb hr hts hown hlk hml hP hK hD hA hS hl
  replace hown : s.vm.findClass RX5 = some m.cls := hown
  replace hl : lv_has ls 5 [(0, .ref (r 0)), (1, .int w), (2, .int f), (3, .int v)] := hl
  have hD0 := hD
  have hn7 := hI.1
  have hinX5 : ∀ w ∈ wsX50, w ∈ wsX5_shore := by decide +kernel
  have jn_73 : ∀  (x4_73 : Int32) , (x4_73 = rs_ B w f v) → ∀ (H : Heap) (locs : List Loc), va_P D vwCl (mW cI r B M) H → va_D A (mW cI r B M) → va_S A s.heap H locs → ∀ ls : Array Slot, lv_has ls 5 [(4, .int x4_73), (0, .ref (r 0)), (1, .int w), (2, .int f), (3, .int v)] → W p l e (jR 1) s m ([.ref (r 0), .int w, .int f, .int v] : List Value).toArray below meth c H locs 0 0 (MQ below (va_Qi (S := BayT × MT) (fun r u => (rs_ B w f v = 0 ∧ r = nI (sn_ B) ∧ u = (ad_ B w f v, ubk_ M 0)) ∨ (¬ rs_ B w f v = 0 ∧ r = rs_ B w f v ∧ u = (B, rfm_ M (rs_ B w f v)))) (fun u t => va_P D vwCl ((fun u => mW cI r u.1 u.2) u) t.heap) A) ([.ref (r 0), .int w, .int f, .int v] : List Value).toArray s 0 0 A) (F0 m 73 ls []) := by
      intro x4_73 hx4_73 H locs hP hD hS ls hl
      subst x4_73
      replace hl : lv_has ls 5 [(4, .int (rs_ B w f v)), (0, .ref (r 0)), (1, .int w), (2, .int f), (3, .int v)] := hl
      replace hP : va_P D vwCl (mW cI r B M) H := hP
      refine lv_iload hx hb dX5_shore_73 (lv_at hl 0 rfl) ?_
      refine lv_if_eq (tgt := 85) hx hb dX5_shore_75 (by decide) (fun c_75 => ?_) (fun c_75 => ?_)
      · skip
        refine lv_aload_n hx hb dX5_shore_85 rfl (lv_at hl 1 rfl) ?_
        refine lv_iconst (v := 0) hx hb dX5_shore_86 (by decide) ?_
        refine sti (x := 0) (y := nI 0) (rfl) ?_
        refine va_put (ci := 5) (ty := .int) (C := RX5) (T := TX5) (N := 33) hx hb hts hinX5 tyX5 tyX5_ok nmX5 hown hK.1 hP (va_D.adr hD0 (mW_adE rfl)) hS 0 rfl rfl 23 (by decide) (hts _ (List.mem_of_getElem? (i := 2) rfl)) (fun _ h9 => h9) rfl (by decide +kernel) (rfl) (rfl) (Nat.le_of_ble_eq_true rfl) dX5_shore_87 (fun H locs hP hD hS => ?_)
        replace hP : va_P D vwCl ([(r 0, .inr (5, [.ref (r 1), .ref (r 2), .ref (r 3), .ref (r 4), .ref (r 5), .ref (r 6), .int (nI (sn_ B)), .int (qt_ B), .int (il_ B), .int (pa_ B), .int (ho_ B), .int (dy_ B), .ref (r 13), .ref (r 14), .ref (r 15), .ref (r 16), .int (nI (mtn_ M)), .int (nI (mrd_ M)), .int (nI (msm_ M)), .ref (r 20), .int (mhi_ M), .int (mik_ M), .int (nI (mcu_ M)), .int (nI 0), .ref (r 25), .ref (r 26), .int (mlw_ M), .int (mhg_ M), .int (msl_ M), .ref (r 30), .int (nI (mrm_ M)), .ref (r 32), .int (mlo_ M)])), (r 1, .inl (cI, 7, .inl (mrf_ M))), (r 2, .inl (cI, 7, .inl (kd_ B))), (r 3, .inl (cI, 7, .inl (fg_ B))), (r 4, .inl (cI, 7, .inl (pl_ B))), (r 5, .inl (cI, 7, .inl (pw_ B))), (r 6, .inl (cI, 7, .inl (jy_ B))), (r 13, .inl (cI, 96, .inl (mtp_ M))), (r 14, .inl (cI, 48, .inl (mlt_ M))), (r 15, .inl (cI, 48, .inl (mla_ M))), (r 16, .inl (cI, 144, .inl (mtd_ M))), (r 20, .inl (cI, 451, .inl (flatK (mkp_ M)))), (r 25, .inl (cI, 7, .inl (mof_ M))), (r 26, .inl (cI, 7, .inl (mfa_ M))), (r 30, .inl (cI, 12, .inl (mrw_ M))), (r 32, .inl (cI, 8, .inl (mhb_ M)))]) H := hP
        refine lv_aload_n hx hb dX5_shore_90 rfl (lv_at hl 1 rfl) ?_
        refine lv_iload_n hx hb dX5_shore_91 rfl (lv_at hl 2 rfl) ?_
        refine lv_iload_n hx hb dX5_shore_92 rfl (lv_at hl 3 rfl) ?_
        refine lv_iload_n hx hb dX5_shore_93 rfl (lv_at hl 4 rfl) ?_
        refine kMvV hx hb hml hown hts hK hP (va_D.adr hD0 (mW_adE rfl)) hA hS gX5_shore_X5_adds okX5_adds (qX5_adds l D cI cB r B (mkM (mrf_ M) (mtp_ M) (mlt_ M) (mla_ M) (mtd_ M) (mkp_ M) (mof_ M) (mfa_ M) (mrw_ M) (mhb_ M) (mtn_ M) (mrd_ M) (msm_ M) (mcu_ M) 0 (mrm_ M) (mhi_ M) (mik_ M) (mlw_ M) (mhg_ M) (msl_ M) (mlo_ M)) w f v hI (rs_k c_75).2.2.1) [0, 1, 2, 3, 4, 5, 6, 7, 8, 9, 10, 11, 12, 13, 14, 15] rfl (by decide) (fun _ => mW_adr _ _ _ _ _ _) rfl rfl rfl (by decide) hl.1 rfl rfl (Nat.le_of_ble_eq_true rfl) dX5_shore_94 (by decide) (fun u_2 H locs hw_3 hP hD hS => ?_)
        replace hw_3 : u_2 = ad_ B w f v := hw_3
        subst u_2
        replace hP : va_P D vwCl ([(r 0, .inr (5, [.ref (r 1), .ref (r 2), .ref (r 3), .ref (r 4), .ref (r 5), .ref (r 6), .int (nI (sn_ (ad_ B w f v))), .int (qt_ (ad_ B w f v)), .int (il_ (ad_ B w f v)), .int (pa_ (ad_ B w f v)), .int (ho_ (ad_ B w f v)), .int (dy_ (ad_ B w f v)), .ref (r 13), .ref (r 14), .ref (r 15), .ref (r 16), .int (nI (mtn_ M)), .int (nI (mrd_ M)), .int (nI (msm_ M)), .ref (r 20), .int (mhi_ M), .int (mik_ M), .int (nI (mcu_ M)), .int (nI 0), .ref (r 25), .ref (r 26), .int (mlw_ M), .int (mhg_ M), .int (msl_ M), .ref (r 30), .int (nI (mrm_ M)), .ref (r 32), .int (mlo_ M)])), (r 1, .inl (cI, 7, .inl (mrf_ M))), (r 2, .inl (cI, 7, .inl (kd_ (ad_ B w f v)))), (r 3, .inl (cI, 7, .inl (fg_ (ad_ B w f v)))), (r 4, .inl (cI, 7, .inl (pl_ (ad_ B w f v)))), (r 5, .inl (cI, 7, .inl (pw_ (ad_ B w f v)))), (r 6, .inl (cI, 7, .inl (jy_ (ad_ B w f v)))), (r 13, .inl (cI, 96, .inl (mtp_ M))), (r 14, .inl (cI, 48, .inl (mlt_ M))), (r 15, .inl (cI, 48, .inl (mla_ M))), (r 16, .inl (cI, 144, .inl (mtd_ M))), (r 20, .inl (cI, 451, .inl (flatK (mkp_ M)))), (r 25, .inl (cI, 7, .inl (mof_ M))), (r 26, .inl (cI, 7, .inl (mfa_ M))), (r 30, .inl (cI, 12, .inl (mrw_ M))), (r 32, .inl (cI, 8, .inl (mhb_ M)))]) H := (va_P.m [true, true, true, true, true, true, true, true, true, true, true, true, true, true, true, true] [] hP)
        refine lv_aload_n hx hb dX5_shore_97 rfl (lv_at hl 1 rfl) ?_
        refine va_get (ci := 5) (C := RX5) (T := TX5) (N := 33) hx hb hts hinX5 hown hK.1 hP 0 rfl rfl 6 (by decide) (hts _ (List.mem_of_getElem? (i := 1) rfl)) (fun _ h9 => h9) rfl dX5_shore_98 ?_
        refine lv_iconst (v := 1) hx hb dX5_shore_101 (by decide) ?_
        refine lv_isub hx hb dX5_shore_102 ?_
        refine rMi hx hb hr hlk hS ((ad_ B w f v), (mkM (mrf_ M) (mtp_ M) (mlt_ M) (mla_ M) (mtd_ M) (mkp_ M) (mof_ M) (mfa_ M) (mrw_ M) (mhb_ M) (mtn_ M) (mrd_ M) (msm_ M) (mcu_ M) 0 (mrm_ M) (mhi_ M) (mik_ M) (mlw_ M) (mhg_ M) (msl_ M) (mlo_ M))) hP ?_ dX5_shore_103
        first | exact Or.inr ⟨c_75, rfl, rfl⟩ | exact Or.inl ⟨c_75, by rw [sn_ad (rs_k c_75).2.2.1]; exact nI_pred _, rfl⟩
      · skip
        refine lv_aload_n hx hb dX5_shore_78 rfl (lv_at hl 1 rfl) ?_
        refine lv_iload hx hb dX5_shore_79 (lv_at hl 0 rfl) ?_
        refine kMiV hx hb hml hown hts hK hP (va_D.adr hD0 (mW_adE rfl)) hA hS gX5_shore_X5_no okX5_no (qX5_no l D cI cB r B M (rs_ B w f v) (rc0_n (by first | exact rc0_rs _ _ _ _ | exact rc0_rh _ _ | exact rc0_nb _ _ | exact rc0_f2 (rc0_nb _ _) (rc0_ob _ _ _) | exact rc0_f2 (rc0_uk _ _) (rc0_if (rc0_ob _ _ _) (rc0_ob _ _ _)) | exact rc0_f2 (rc0_ob _ _ _) (rc0_if (Or.inr (Or.inr (Or.inr (Or.inr (Or.inr rfl))))) (Or.inl rfl))) c_75)) [0, 1, 2, 3, 4, 5, 6, 7, 8, 9, 10, 11, 12, 13, 14, 15] rfl (by decide) (fun _ => mW_adr _ _ _ _ _ _) rfl rfl rfl (by decide) hl.1 rfl rfl (Nat.le_of_ble_eq_true rfl) dX5_shore_81 (by decide) (fun r_4 u_5 H locs hw_6 hP hD hS => ?_)
        replace hw_6 : r_4 = rs_ B w f v ∧ u_5 = (rfm_ M (rs_ B w f v)) := hw_6
        obtain ⟨hw_6a, hw_6b⟩ := hw_6
        subst r_4
        subst u_5
        replace hP : va_P D vwCl ([(r 0, .inr (5, [.ref (r 1), .ref (r 2), .ref (r 3), .ref (r 4), .ref (r 5), .ref (r 6), .int (nI (sn_ B)), .int (qt_ B), .int (il_ B), .int (pa_ B), .int (ho_ B), .int (dy_ B), .ref (r 13), .ref (r 14), .ref (r 15), .ref (r 16), .int (nI (mtn_ M)), .int (nI (mrd_ M)), .int (nI (msm_ M)), .ref (r 20), .int (mhi_ M), .int (mik_ M), .int (nI (mcu_ M)), .int (nI (mbk_ M)), .ref (r 25), .ref (r 26), .int (mlw_ M), .int (mhg_ M), .int (msl_ M), .ref (r 30), .int (nI (mrm_ M)), .ref (r 32), .int (mlo_ M)])), (r 1, .inl (cI, 7, .inl (rfx_ (mrf_ M) (rs_ B w f v)))), (r 2, .inl (cI, 7, .inl (kd_ B))), (r 3, .inl (cI, 7, .inl (fg_ B))), (r 4, .inl (cI, 7, .inl (pl_ B))), (r 5, .inl (cI, 7, .inl (pw_ B))), (r 6, .inl (cI, 7, .inl (jy_ B))), (r 13, .inl (cI, 96, .inl (mtp_ M))), (r 14, .inl (cI, 48, .inl (mlt_ M))), (r 15, .inl (cI, 48, .inl (mla_ M))), (r 16, .inl (cI, 144, .inl (mtd_ M))), (r 20, .inl (cI, 451, .inl (flatK (mkp_ M)))), (r 25, .inl (cI, 7, .inl (mof_ M))), (r 26, .inl (cI, 7, .inl (mfa_ M))), (r 30, .inl (cI, 12, .inl (mrw_ M))), (r 32, .inl (cI, 8, .inl (mhb_ M)))]) H := (va_P.m [true, true, true, true, true, true, true, true, true, true, true, true, true, true, true, true] [] hP)
        refine rMi hx hb hr hlk hS (B, (rfm_ M (rs_ B w f v))) hP ?_ dX5_shore_84
        first | exact Or.inr ⟨c_75, rfl, rfl⟩ | exact Or.inl ⟨c_75, by rw [sn_ad (rs_k c_75).2.2.1]; exact nI_pred _, rfl⟩
  refine lv_iload_n hx hb dX5_shore_0 rfl (lv_at hl 1 rfl) ?_
  refine lv_iconst (v := 0) hx hb dX5_shore_1 (by decide) ?_
  refine lv_iconst (v := 5) hx hb dX5_shore_2 (by decide) ?_
  refine kSiS hx hb hml hown hts hK hP gX5_shore_X5_isIn okX5_isIn (qX5_isIn l D cI cB w 0 5 ) [] rfl (by decide) hl.1 rfl rfl (Nat.le_of_ble_eq_true rfl) dX5_shore_3 (by decide) (fun r_7 hr_8 => ?_)
  replace hr_8 : r_7 = b1 (0 ≤ w ∧ w ≤ 5) := hr_8
  subst r_7
  refine lv_if_ne (tgt := 14) hx hb dX5_shore_6 (by decide) (fun c_6 => ?_) (fun c_6 => ?_)
  · replace c_6 := b1_n c_6
    refine lv_iload_n hx hb dX5_shore_14 rfl (lv_at hl 2 rfl) ?_
    refine lv_iconst (v := 0) hx hb dX5_shore_15 (by decide) ?_
    refine lv_bipush (v := 9) hx hb dX5_shore_16 (by decide) ?_
    refine kSiS hx hb hml hown hts hK hP gX5_shore_X5_bound okX5_bound (qX5_bound l D cI cB f 0 9 ) [] rfl (by decide) hl.1 rfl rfl (Nat.le_of_ble_eq_true rfl) dX5_shore_18 (by decide) (fun r_9 hr_10 => ?_)
    replace hr_10 : r_9 = ob_ f 0 9 := hr_10
    subst r_9
    refine lv_istore (lv' := [(4, .int (ob_ f 0 9)), (0, .ref (r 0)), (1, .int w), (2, .int f), (3, .int v)]) hx hb dX5_shore_21 hl (by decide) rfl (fun ls hl => ?_)
    refine lv_iload hx hb dX5_shore_23 (lv_at hl 0 rfl) ?_
    refine lv_if_ne (tgt := 41) hx hb dX5_shore_25 (by decide) (fun c_25 => ?_) (fun c_25 => ?_)
    · skip
      refine lv_iload hx hb dX5_shore_41 (lv_at hl 0 rfl) ?_
      refine lv_if_ne (tgt := 73) hx hb dX5_shore_43 (by decide) (fun c_43 => ?_) (fun c_43 => ?_)
      · skip
        exact jn_73  (ob_ f 0 9)  (by first | exact (rs_1 c_6).symm | exact (rs_2 c_6 c_25).symm | exact (rs_3 c_6 c_25 c_34).symm | exact (rs_4 hn7 c_6 c_25 c_34 c_50).symm | exact ((rs_5 hn7 c_6 c_25 c_34 c_50).trans (if_pos c_62)).symm | exact ((rs_5 hn7 c_6 c_25 c_34 c_50).trans (if_neg c_62)).symm | exact absurd c_25 c_43 | exact absurd c_43 c_25)   _ _ hP (va_D.adr hD0 (mW_adE rfl)) hS ls (lv_sub hl [0, 1, 2, 3, 4] rfl)
      · skip
        refine lv_iload_n hx hb dX5_shore_46 rfl (lv_at hl 4 rfl) ?_
        refine kSiS hx hb hml hown hts hK hP gX5_shore_X5_isPlace okX5_isPlace (qX5_isPlace l D cI cB v ) [] rfl (by decide) hl.1 rfl rfl (Nat.le_of_ble_eq_true rfl) dX5_shore_47 (by decide) (fun r_11 hr_12 => ?_)
        replace hr_12 : r_11 = b1 (0 ≤ v ∧ v ≤ 30) := hr_12
        subst r_11
        refine lv_if_ne (tgt := 57) hx hb dX5_shore_50 (by decide) (fun c_50 => ?_) (fun c_50 => ?_)
        · replace c_50 := b1_n c_50
          refine lv_aload_n hx hb dX5_shore_57 rfl (lv_at hl 1 rfl) ?_
          refine lv_iload_n hx hb dX5_shore_58 rfl (lv_at hl 4 rfl) ?_
          refine kSiV hx hb hml hown hts hK hP gX5_shore_X5_shoreAt okX5_shoreAt (qX5_shoreAt l D cI cB r B M v (by show sn_ B ≤ 7; omega)) [0, 1, 2, 3, 4, 5, 6, 7, 8, 9, 10, 11, 12, 13, 14, 15] rfl rfl rfl rfl (by decide) hl.1 rfl rfl (Nat.le_of_ble_eq_true rfl) dX5_shore_59 (by decide) (fun r_13 hr_14 => ?_)
          replace hr_14 : r_13 = oI_ (sa_ B v) := hr_14
          subst r_13
          refine lv_if_lt (tgt := 70) hx hb dX5_shore_62 (by decide) (fun c_62 => ?_) (fun c_62 => ?_)
          · rw [oI_lt0 (sa_b hn7)] at c_62
            refine lv_iconst (v := 0) hx hb dX5_shore_70 (by decide) ?_
            refine lv_istore (lv' := [(4, .int 0), (0, .ref (r 0)), (1, .int w), (2, .int f), (3, .int v)]) hx hb dX5_shore_71 hl (by decide) rfl (fun ls hl => ?_)
            exact jn_73  0  (by first | exact (rs_1 c_6).symm | exact (rs_2 c_6 c_25).symm | exact (rs_3 c_6 c_25 c_34).symm | exact (rs_4 hn7 c_6 c_25 c_34 c_50).symm | exact ((rs_5 hn7 c_6 c_25 c_34 c_50).trans (if_pos c_62)).symm | exact ((rs_5 hn7 c_6 c_25 c_34 c_50).trans (if_neg c_62)).symm | exact absurd c_25 c_43 | exact absurd c_43 c_25)   _ _ hP (va_D.adr hD0 (mW_adE rfl)) hS ls (lv_sub hl [0, 1, 2, 3, 4] rfl)
          · rw [oI_lt0 (sa_b hn7)] at c_62
            refine lv_bipush (v := (-3)) hx hb dX5_shore_65 (by decide) ?_
            refine lv_goto (tgt := 71) hx hb dX5_shore_67 (by decide) ?_
            refine lv_istore (lv' := [(4, .int (-3)), (0, .ref (r 0)), (1, .int w), (2, .int f), (3, .int v)]) hx hb dX5_shore_71 hl (by decide) rfl (fun ls hl => ?_)
            exact jn_73  (-3)  (by first | exact (rs_1 c_6).symm | exact (rs_2 c_6 c_25).symm | exact (rs_3 c_6 c_25 c_34).symm | exact (rs_4 hn7 c_6 c_25 c_34 c_50).symm | exact ((rs_5 hn7 c_6 c_25 c_34 c_50).trans (if_pos c_62)).symm | exact ((rs_5 hn7 c_6 c_25 c_34 c_50).trans (if_neg c_62)).symm | exact absurd c_25 c_43 | exact absurd c_43 c_25)   _ _ hP (va_D.adr hD0 (mW_adE rfl)) hS ls (lv_sub hl [0, 1, 2, 3, 4] rfl)
        · replace c_50 := b1_z c_50
          refine lv_iconst (v := (-1)) hx hb dX5_shore_53 (by decide) ?_
          refine lv_goto (tgt := 71) hx hb dX5_shore_54 (by decide) ?_
          refine lv_istore (lv' := [(4, .int (-1)), (0, .ref (r 0)), (1, .int w), (2, .int f), (3, .int v)]) hx hb dX5_shore_71 hl (by decide) rfl (fun ls hl => ?_)
          exact jn_73  (-1)  (by first | exact (rs_1 c_6).symm | exact (rs_2 c_6 c_25).symm | exact (rs_3 c_6 c_25 c_34).symm | exact (rs_4 hn7 c_6 c_25 c_34 c_50).symm | exact ((rs_5 hn7 c_6 c_25 c_34 c_50).trans (if_pos c_62)).symm | exact ((rs_5 hn7 c_6 c_25 c_34 c_50).trans (if_neg c_62)).symm | exact absurd c_25 c_43 | exact absurd c_43 c_25)   _ _ hP (va_D.adr hD0 (mW_adE rfl)) hS ls (lv_sub hl [0, 1, 2, 3, 4] rfl)
    · skip
      refine lv_aload_n hx hb dX5_shore_28 rfl (lv_at hl 1 rfl) ?_
      refine va_get (ci := 5) (C := RX5) (T := TX5) (N := 33) hx hb hts hinX5 hown hK.1 hP 0 rfl rfl 6 (by decide) (hts _ (List.mem_of_getElem? (i := 1) rfl)) (fun _ h9 => h9) rfl dX5_shore_29 ?_
      refine lv_bipush (v := 7) hx hb dX5_shore_32 (by decide) ?_
      refine lv_icmp_ne (tgt := 41) hx hb dX5_shore_34 (by decide) (fun c_34 => ?_) (fun c_34 => ?_)
      · replace c_34 : ¬ nI (sn_ B) = nI 7 := c_34
        rw [jeq (by omega) (by omega)] at c_34
        refine lv_iload hx hb dX5_shore_41 (lv_at hl 0 rfl) ?_
        refine lv_if_ne (tgt := 73) hx hb dX5_shore_43 (by decide) (fun c_43 => ?_) (fun c_43 => ?_)
        · skip
          exact jn_73  (ob_ f 0 9)  (by first | exact (rs_1 c_6).symm | exact (rs_2 c_6 c_25).symm | exact (rs_3 c_6 c_25 c_34).symm | exact (rs_4 hn7 c_6 c_25 c_34 c_50).symm | exact ((rs_5 hn7 c_6 c_25 c_34 c_50).trans (if_pos c_62)).symm | exact ((rs_5 hn7 c_6 c_25 c_34 c_50).trans (if_neg c_62)).symm | exact absurd c_25 c_43 | exact absurd c_43 c_25)   _ _ hP (va_D.adr hD0 (mW_adE rfl)) hS ls (lv_sub hl [0, 1, 2, 3, 4] rfl)
        · skip
          refine lv_iload_n hx hb dX5_shore_46 rfl (lv_at hl 4 rfl) ?_
          refine kSiS hx hb hml hown hts hK hP gX5_shore_X5_isPlace okX5_isPlace (qX5_isPlace l D cI cB v ) [] rfl (by decide) hl.1 rfl rfl (Nat.le_of_ble_eq_true rfl) dX5_shore_47 (by decide) (fun r_15 hr_16 => ?_)
          replace hr_16 : r_15 = b1 (0 ≤ v ∧ v ≤ 30) := hr_16
          subst r_15
          refine lv_if_ne (tgt := 57) hx hb dX5_shore_50 (by decide) (fun c_50 => ?_) (fun c_50 => ?_)
          · replace c_50 := b1_n c_50
            refine lv_aload_n hx hb dX5_shore_57 rfl (lv_at hl 1 rfl) ?_
            refine lv_iload_n hx hb dX5_shore_58 rfl (lv_at hl 4 rfl) ?_
            refine kSiV hx hb hml hown hts hK hP gX5_shore_X5_shoreAt okX5_shoreAt (qX5_shoreAt l D cI cB r B M v (by show sn_ B ≤ 7; omega)) [0, 1, 2, 3, 4, 5, 6, 7, 8, 9, 10, 11, 12, 13, 14, 15] rfl rfl rfl rfl (by decide) hl.1 rfl rfl (Nat.le_of_ble_eq_true rfl) dX5_shore_59 (by decide) (fun r_17 hr_18 => ?_)
            replace hr_18 : r_17 = oI_ (sa_ B v) := hr_18
            subst r_17
            refine lv_if_lt (tgt := 70) hx hb dX5_shore_62 (by decide) (fun c_62 => ?_) (fun c_62 => ?_)
            · rw [oI_lt0 (sa_b hn7)] at c_62
              refine lv_iconst (v := 0) hx hb dX5_shore_70 (by decide) ?_
              refine lv_istore (lv' := [(4, .int 0), (0, .ref (r 0)), (1, .int w), (2, .int f), (3, .int v)]) hx hb dX5_shore_71 hl (by decide) rfl (fun ls hl => ?_)
              exact jn_73  0  (by first | exact (rs_1 c_6).symm | exact (rs_2 c_6 c_25).symm | exact (rs_3 c_6 c_25 c_34).symm | exact (rs_4 hn7 c_6 c_25 c_34 c_50).symm | exact ((rs_5 hn7 c_6 c_25 c_34 c_50).trans (if_pos c_62)).symm | exact ((rs_5 hn7 c_6 c_25 c_34 c_50).trans (if_neg c_62)).symm | exact absurd c_25 c_43 | exact absurd c_43 c_25)   _ _ hP (va_D.adr hD0 (mW_adE rfl)) hS ls (lv_sub hl [0, 1, 2, 3, 4] rfl)
            · rw [oI_lt0 (sa_b hn7)] at c_62
              refine lv_bipush (v := (-3)) hx hb dX5_shore_65 (by decide) ?_
              refine lv_goto (tgt := 71) hx hb dX5_shore_67 (by decide) ?_
              refine lv_istore (lv' := [(4, .int (-3)), (0, .ref (r 0)), (1, .int w), (2, .int f), (3, .int v)]) hx hb dX5_shore_71 hl (by decide) rfl (fun ls hl => ?_)
              exact jn_73  (-3)  (by first | exact (rs_1 c_6).symm | exact (rs_2 c_6 c_25).symm | exact (rs_3 c_6 c_25 c_34).symm | exact (rs_4 hn7 c_6 c_25 c_34 c_50).symm | exact ((rs_5 hn7 c_6 c_25 c_34 c_50).trans (if_pos c_62)).symm | exact ((rs_5 hn7 c_6 c_25 c_34 c_50).trans (if_neg c_62)).symm | exact absurd c_25 c_43 | exact absurd c_43 c_25)   _ _ hP (va_D.adr hD0 (mW_adE rfl)) hS ls (lv_sub hl [0, 1, 2, 3, 4] rfl)
          · replace c_50 := b1_z c_50
            refine lv_iconst (v := (-1)) hx hb dX5_shore_53 (by decide) ?_
            refine lv_goto (tgt := 71) hx hb dX5_shore_54 (by decide) ?_
            refine lv_istore (lv' := [(4, .int (-1)), (0, .ref (r 0)), (1, .int w), (2, .int f), (3, .int v)]) hx hb dX5_shore_71 hl (by decide) rfl (fun ls hl => ?_)
            exact jn_73  (-1)  (by first | exact (rs_1 c_6).symm | exact (rs_2 c_6 c_25).symm | exact (rs_3 c_6 c_25 c_34).symm | exact (rs_4 hn7 c_6 c_25 c_34 c_50).symm | exact ((rs_5 hn7 c_6 c_25 c_34 c_50).trans (if_pos c_62)).symm | exact ((rs_5 hn7 c_6 c_25 c_34 c_50).trans (if_neg c_62)).symm | exact absurd c_25 c_43 | exact absurd c_43 c_25)   _ _ hP (va_D.adr hD0 (mW_adE rfl)) hS ls (lv_sub hl [0, 1, 2, 3, 4] rfl)
      · replace c_34 : nI (sn_ B) = nI 7 := c_34
        rw [jeq (by omega) (by omega)] at c_34
        refine lv_bipush (v := (-6)) hx hb dX5_shore_37 (by decide) ?_
        refine lv_istore (lv' := [(4, .int (-6)), (0, .ref (r 0)), (1, .int w), (2, .int f), (3, .int v)]) hx hb dX5_shore_39 hl (by decide) rfl (fun ls hl => ?_)
        refine lv_iload hx hb dX5_shore_41 (lv_at hl 0 rfl) ?_
        refine lv_if_ne (tgt := 73) hx hb dX5_shore_43 (by decide) (fun _ => ?_) (fun q => absurd q (by decide))
        exact jn_73  (-6)  (by first | exact (rs_1 c_6).symm | exact (rs_2 c_6 c_25).symm | exact (rs_3 c_6 c_25 c_34).symm | exact (rs_4 hn7 c_6 c_25 c_34 c_50).symm | exact ((rs_5 hn7 c_6 c_25 c_34 c_50).trans (if_pos c_62)).symm | exact ((rs_5 hn7 c_6 c_25 c_34 c_50).trans (if_neg c_62)).symm | exact absurd c_25 c_43 | exact absurd c_43 c_25)   _ _ hP (va_D.adr hD0 (mW_adE rfl)) hS ls (lv_sub hl [0, 1, 2, 3, 4] rfl)
  · replace c_6 := b1_z c_6
    refine lv_bipush (v := (-2)) hx hb dX5_shore_9 (by decide) ?_
    refine lv_goto (tgt := 21) hx hb dX5_shore_11 (by decide) ?_
    refine lv_istore (lv' := [(4, .int (-2)), (0, .ref (r 0)), (1, .int w), (2, .int f), (3, .int v)]) hx hb dX5_shore_21 hl (by decide) rfl (fun ls hl => ?_)
    refine lv_iload hx hb dX5_shore_23 (lv_at hl 0 rfl) ?_
    refine lv_if_ne (tgt := 41) hx hb dX5_shore_25 (by decide) (fun _ => ?_) (fun q => absurd q (by decide))
    refine lv_iload hx hb dX5_shore_41 (lv_at hl 0 rfl) ?_
    refine lv_if_ne (tgt := 73) hx hb dX5_shore_43 (by decide) (fun _ => ?_) (fun q => absurd q (by decide))
    exact jn_73  (-2)  (by first | exact (rs_1 c_6).symm | exact (rs_2 c_6 c_25).symm | exact (rs_3 c_6 c_25 c_34).symm | exact (rs_4 hn7 c_6 c_25 c_34 c_50).symm | exact ((rs_5 hn7 c_6 c_25 c_34 c_50).trans (if_pos c_62)).symm | exact ((rs_5 hn7 c_6 c_25 c_34 c_50).trans (if_neg c_62)).symm | exact absurd c_25 c_43 | exact absurd c_43 c_25)   _ _ hP (va_D.adr hD0 (mW_adE rfl)) hS ls (lv_sub hl [0, 1, 2, 3, 4] rfl)

theorem okX5_powders : jok yX5_powders wsX5_powders cX5_powders 5 (some .int) 2 := ⟨⟨_, rfl⟩, by decide +kernel, by decide +kernel⟩
set_option maxHeartbeats 2000000 in
set_option maxRecDepth 100000 in
theorem qX5_powders (l : Launch) (D : va_G) (cI cB : ClassId) (r : Nat → Nat) (B : BayT) (M : MT) (a : Int32) (v : Int32) (hI : bI_ B) (hbk : mbk_ M ≤ 8) : jMi D cI cB l yX5_powders wsX5_powders 3 [.ref (r 0), .int a, .int v] (mW cI r B M) (S := BayT × MT) (fun r u => (f2_ (nb_ a (nI (sn_ B))) (ob_ v 0 99) = 0 ∧ r = pw_ B (tn_ a) ∧ u = (uw_ B (tn_ a) v, kb_ M B)) ∨ (¬ f2_ (nb_ a (nI (sn_ B))) (ob_ v 0 99) = 0 ∧ r = f2_ (nb_ a (nI (sn_ B))) (ob_ v 0 99) ∧ u = (B, rfm_ M (f2_ (nb_ a (nI (sn_ B))) (ob_ v 0 99))))) (fun u => mW cI r u.1 u.2) := by
  refine jMi.of (cc := cX5_powders) (maxL := 5) (ret := (some .int)) okX5_powders (Nat.le_of_ble_eq_true rfl) ?_
  intro p e s m below meth c ls A hx hb hr hts hown hlk hml hP hK hD hA hS hl
  replace hown : s.vm.findClass RX5 = some m.cls := hown
  replace hl : lv_has ls 5 [(0, .ref (r 0)), (1, .int a), (2, .int v)] := hl
  have hD0 := hD
  have hn7 := hI.1
  have hinX5 : ∀ w ∈ wsX50, w ∈ wsX5_powders := by decide +kernel
  have jn_20 : ∀  (x3_20 : Int32) , (x3_20 = f2_ (nb_ a (nI (sn_ B))) (ob_ v 0 99)) → ∀ (H : Heap) (locs : List Loc), va_P D vwCl (mW cI r B M) H → va_D A (mW cI r B M) → va_S A s.heap H locs → ∀ ls : Array Slot, lv_has ls 5 [(3, .int x3_20), (0, .ref (r 0)), (1, .int a), (2, .int v)] → W p l e (jR 3) s m ([.ref (r 0), .int a, .int v] : List Value).toArray below meth c H locs 0 0 (MQ below (va_Qi (S := BayT × MT) (fun r u => (f2_ (nb_ a (nI (sn_ B))) (ob_ v 0 99) = 0 ∧ r = pw_ B (tn_ a) ∧ u = (uw_ B (tn_ a) v, kb_ M B)) ∨ (¬ f2_ (nb_ a (nI (sn_ B))) (ob_ v 0 99) = 0 ∧ r = f2_ (nb_ a (nI (sn_ B))) (ob_ v 0 99) ∧ u = (B, rfm_ M (f2_ (nb_ a (nI (sn_ B))) (ob_ v 0 99))))) (fun u t => va_P D vwCl ((fun u => mW cI r u.1 u.2) u) t.heap) A) ([.ref (r 0), .int a, .int v] : List Value).toArray s 0 0 A) (F0 m 20 ls []) := by
      intro x3_20 hx3_20 H locs hP hD hS ls hl
      subst x3_20
      replace hl : lv_has ls 5 [(3, .int (f2_ (nb_ a (nI (sn_ B))) (ob_ v 0 99))), (0, .ref (r 0)), (1, .int a), (2, .int v)] := hl
      replace hP : va_P D vwCl (mW cI r B M) H := hP
      refine lv_iload_n hx hb dX5_powders_20 rfl (lv_at hl 0 rfl) ?_
      refine lv_if_eq (tgt := 30) hx hb dX5_powders_21 (by decide) (fun c_21 => ?_) (fun c_21 => ?_)
      · skip
        have w0 := c_21
        (try simp only [wS_, wSN_, wSNW_, wNW_, wTh_, wTr_, f2_0, nb_0, ob_0, uk_0, lo_0, hi_0] at w0)
        obtain ⟨a_, ha_, rfl⟩ := pl_lt (n := sn_ B) (by omega) w0.1
        replace hl : lv_has ls 5 [(3, .int (f2_ (nb_ (nI a_) (nI (sn_ B))) (ob_ v 0 99))), (0, .ref (r 0)), (1, .int (nI a_)), (2, .int v)] := hl
        refine lv_aload_n hx hb dX5_powders_30 rfl (lv_at hl 1 rfl) ?_
        refine kMvV hx hb hml hown hts hK hP (va_D.adr hD0 (mW_adE rfl)) hA hS gX5_powders_X5_keepsBack okX5_keepsBack (qX5_keepsBack l D cI cB r B M (by omega)) [0, 1, 2, 3, 4, 5, 6, 7, 8, 9, 10, 11, 12, 13, 14, 15] rfl (by decide) (fun _ => mW_adr _ _ _ _ _ _) rfl rfl rfl (by decide) hl.1 rfl rfl (Nat.le_of_ble_eq_true rfl) dX5_powders_31 (by decide) (fun u_2 H locs hw_3 hP hD hS => ?_)
        replace hw_3 : u_2 = (kb_ M B) := hw_3
        subst u_2
        replace hP : va_P D vwCl ([(r 0, .inr (5, [.ref (r 1), .ref (r 2), .ref (r 3), .ref (r 4), .ref (r 5), .ref (r 6), .int (nI (sn_ B)), .int (qt_ B), .int (il_ B), .int (pa_ B), .int (ho_ B), .int (dy_ B), .ref (r 13), .ref (r 14), .ref (r 15), .ref (r 16), .int (nI (mtn_ M)), .int (nI (mrd_ M)), .int (nI (msm_ M)), .ref (r 20), .int (mhi_ M), .int (1), .int (nI (mcu_ (kb_ M B))), .int (nI (mc8 (mbk_ M))), .ref (r 25), .ref (r 26), .int (mlw_ M), .int (mhg_ M), .int (msl_ M), .ref (r 30), .int (nI (mrm_ M)), .ref (r 32), .int (mlo_ M)])), (r 1, .inl (cI, 7, .inl (mrf_ M))), (r 2, .inl (cI, 7, .inl (kd_ B))), (r 3, .inl (cI, 7, .inl (fg_ B))), (r 4, .inl (cI, 7, .inl (pl_ B))), (r 5, .inl (cI, 7, .inl (pw_ B))), (r 6, .inl (cI, 7, .inl (jy_ B))), (r 13, .inl (cI, 96, .inl (mtp_ M))), (r 14, .inl (cI, 48, .inl (mlt_ M))), (r 15, .inl (cI, 48, .inl (mla_ M))), (r 16, .inl (cI, 144, .inl (mtd_ M))), (r 20, .inl (cI, 451, .inl (flatK (mkp_ (kb_ M B))))), (r 25, .inl (cI, 7, .inl (mof_ M))), (r 26, .inl (cI, 7, .inl (mfa_ M))), (r 30, .inl (cI, 12, .inl (mrw_ M))), (r 32, .inl (cI, 8, .inl (mhb_ M)))]) H := (va_P.m [true, true, true, true, true, true, true, true, true, true, true, true, true, true, true, true] [] hP)
        refine lv_aload_n hx hb dX5_powders_34 rfl (lv_at hl 1 rfl) ?_
        refine va_get (ci := 5) (C := RX5) (T := TX5) (N := 33) hx hb hts hinX5 hown hK.1 hP 0 rfl rfl 4 (by decide) (hts _ (List.mem_of_getElem? (i := 1) rfl)) (fun _ h9 => h9) rfl dX5_powders_35 ?_
        refine lv_iload_n hx hb dX5_powders_38 rfl (lv_at hl 2 rfl) ?_
        refine jald hx hb hK.1 hP 5 0 a_ rfl rfl rfl (by omega) (Nat.le_of_ble_eq_true rfl) dX5_powders_39 ?_
        refine lv_istore (lv' := [(4, .int ((pw_ B) a_)), (3, .int (f2_ (nb_ (nI a_) (nI (sn_ B))) (ob_ v 0 99))), (0, .ref (r 0)), (1, .int (nI a_)), (2, .int v)]) hx hb dX5_powders_40 hl (by decide) rfl (fun ls hl => ?_)
        refine lv_aload_n hx hb dX5_powders_42 rfl (lv_at hl 2 rfl) ?_
        refine va_get (ci := 5) (C := RX5) (T := TX5) (N := 33) hx hb hts hinX5 hown hK.1 hP 0 rfl rfl 4 (by decide) (hts _ (List.mem_of_getElem? (i := 1) rfl)) (fun _ h9 => h9) rfl dX5_powders_43 ?_
        refine lv_iload_n hx hb dX5_powders_46 rfl (lv_at hl 3 rfl) ?_
        refine lv_iload_n hx hb dX5_powders_47 rfl (lv_at hl 4 rfl) ?_
        refine jast hx hb hK.1 hP (va_D.adr hD0 (mW_adE rfl)) hS 5 0 a_ rfl rfl rfl (by omega) (Nat.le_of_ble_eq_true rfl) dX5_powders_48 (fun f_4 ef_4 H locs hP hD hS => ?_)
        replace ef_4 : f_4 = upd (pw_ B) a_ v := ef_4
        replace hP : va_P D vwCl ([(r 0, .inr (5, [.ref (r 1), .ref (r 2), .ref (r 3), .ref (r 4), .ref (r 5), .ref (r 6), .int (nI (sn_ B)), .int (qt_ B), .int (il_ B), .int (pa_ B), .int (ho_ B), .int (dy_ B), .ref (r 13), .ref (r 14), .ref (r 15), .ref (r 16), .int (nI (mtn_ M)), .int (nI (mrd_ M)), .int (nI (msm_ M)), .ref (r 20), .int (mhi_ M), .int (1), .int (nI (mcu_ (kb_ M B))), .int (nI (mc8 (mbk_ M))), .ref (r 25), .ref (r 26), .int (mlw_ M), .int (mhg_ M), .int (msl_ M), .ref (r 30), .int (nI (mrm_ M)), .ref (r 32), .int (mlo_ M)])), (r 1, .inl (cI, 7, .inl (mrf_ M))), (r 2, .inl (cI, 7, .inl (kd_ B))), (r 3, .inl (cI, 7, .inl (fg_ B))), (r 4, .inl (cI, 7, .inl (pl_ B))), (r 5, .inl (cI, 7, .inl f_4)), (r 6, .inl (cI, 7, .inl (jy_ B))), (r 13, .inl (cI, 96, .inl (mtp_ M))), (r 14, .inl (cI, 48, .inl (mlt_ M))), (r 15, .inl (cI, 48, .inl (mla_ M))), (r 16, .inl (cI, 144, .inl (mtd_ M))), (r 20, .inl (cI, 451, .inl (flatK (mkp_ (kb_ M B))))), (r 25, .inl (cI, 7, .inl (mof_ M))), (r 26, .inl (cI, 7, .inl (mfa_ M))), (r 30, .inl (cI, 12, .inl (mrw_ M))), (r 32, .inl (cI, 8, .inl (mhb_ M)))]) H := hP
        refine lv_iload hx hb dX5_powders_49 (lv_at hl 0 rfl) ?_
        (try rw [ef_4] at hP); (try rw [ef_4] at hD); (try rw [ef_4] at hl); (try rw [ef_4] at c_21); (try rw [ef_4])
        refine rMi hx hb hr hlk hS ((mkB (kd_ B) (fg_ B) (pl_ B) (upd (pw_ B) a_ v) (jy_ B) (qt_ B) (sn_ B) (il_ B) (pa_ B) (ho_ B) (dy_ B)), (kb_ M B)) hP ?_ dX5_powders_51
        first | exact Or.inr ⟨c_21, rfl, rfl⟩ | (refine Or.inl ⟨c_21, ?_⟩; rw [tn_n (show a_ < 2147483648 by omega)]; exact ⟨rfl, rfl⟩)
      · skip
        refine lv_aload_n hx hb dX5_powders_24 rfl (lv_at hl 1 rfl) ?_
        refine lv_iload_n hx hb dX5_powders_25 rfl (lv_at hl 0 rfl) ?_
        refine kMiV hx hb hml hown hts hK hP (va_D.adr hD0 (mW_adE rfl)) hA hS gX5_powders_X5_no okX5_no (qX5_no l D cI cB r B M (f2_ (nb_ a (nI (sn_ B))) (ob_ v 0 99)) (rc0_n (by first | exact rc0_rs _ _ _ _ | exact rc0_rh _ _ | exact rc0_nb _ _ | exact rc0_f2 (rc0_nb _ _) (rc0_ob _ _ _) | exact rc0_f2 (rc0_uk _ _) (rc0_if (rc0_ob _ _ _) (rc0_ob _ _ _)) | exact rc0_f2 (rc0_ob _ _ _) (rc0_if (Or.inr (Or.inr (Or.inr (Or.inr (Or.inr rfl))))) (Or.inl rfl))) c_21)) [0, 1, 2, 3, 4, 5, 6, 7, 8, 9, 10, 11, 12, 13, 14, 15] rfl (by decide) (fun _ => mW_adr _ _ _ _ _ _) rfl rfl rfl (by decide) hl.1 rfl rfl (Nat.le_of_ble_eq_true rfl) dX5_powders_26 (by decide) (fun r_5 u_6 H locs hw_7 hP hD hS => ?_)
        replace hw_7 : r_5 = f2_ (nb_ a (nI (sn_ B))) (ob_ v 0 99) ∧ u_6 = (rfm_ M (f2_ (nb_ a (nI (sn_ B))) (ob_ v 0 99))) := hw_7
        obtain ⟨hw_7a, hw_7b⟩ := hw_7
        subst r_5
        subst u_6
        replace hP : va_P D vwCl ([(r 0, .inr (5, [.ref (r 1), .ref (r 2), .ref (r 3), .ref (r 4), .ref (r 5), .ref (r 6), .int (nI (sn_ B)), .int (qt_ B), .int (il_ B), .int (pa_ B), .int (ho_ B), .int (dy_ B), .ref (r 13), .ref (r 14), .ref (r 15), .ref (r 16), .int (nI (mtn_ M)), .int (nI (mrd_ M)), .int (nI (msm_ M)), .ref (r 20), .int (mhi_ M), .int (mik_ M), .int (nI (mcu_ M)), .int (nI (mbk_ M)), .ref (r 25), .ref (r 26), .int (mlw_ M), .int (mhg_ M), .int (msl_ M), .ref (r 30), .int (nI (mrm_ M)), .ref (r 32), .int (mlo_ M)])), (r 1, .inl (cI, 7, .inl (rfx_ (mrf_ M) (f2_ (nb_ a (nI (sn_ B))) (ob_ v 0 99))))), (r 2, .inl (cI, 7, .inl (kd_ B))), (r 3, .inl (cI, 7, .inl (fg_ B))), (r 4, .inl (cI, 7, .inl (pl_ B))), (r 5, .inl (cI, 7, .inl (pw_ B))), (r 6, .inl (cI, 7, .inl (jy_ B))), (r 13, .inl (cI, 96, .inl (mtp_ M))), (r 14, .inl (cI, 48, .inl (mlt_ M))), (r 15, .inl (cI, 48, .inl (mla_ M))), (r 16, .inl (cI, 144, .inl (mtd_ M))), (r 20, .inl (cI, 451, .inl (flatK (mkp_ M)))), (r 25, .inl (cI, 7, .inl (mof_ M))), (r 26, .inl (cI, 7, .inl (mfa_ M))), (r 30, .inl (cI, 12, .inl (mrw_ M))), (r 32, .inl (cI, 8, .inl (mhb_ M)))]) H := (va_P.m [true, true, true, true, true, true, true, true, true, true, true, true, true, true, true, true] [] hP)
        refine rMi hx hb hr hlk hS (B, (rfm_ M (f2_ (nb_ a (nI (sn_ B))) (ob_ v 0 99)))) hP ?_ dX5_powders_29
        first | exact Or.inr ⟨c_21, rfl, rfl⟩ | (refine Or.inl ⟨c_21, ?_⟩; rw [tn_n (show a_ < 2147483648 by omega)]; exact ⟨rfl, rfl⟩)
  refine lv_aload_n hx hb dX5_powders_0 rfl (lv_at hl 0 rfl) ?_
  refine lv_iload_n hx hb dX5_powders_1 rfl (lv_at hl 1 rfl) ?_
  refine kSiV hx hb hml hown hts hK hP gX5_powders_X5_isShore okX5_isShore (qX5_isShore l D cI cB r B M a (by show sn_ B ≤ 7; omega)) [0, 1, 2, 3, 4, 5, 6, 7, 8, 9, 10, 11, 12, 13, 14, 15] rfl rfl rfl rfl (by decide) hl.1 rfl rfl (Nat.le_of_ble_eq_true rfl) dX5_powders_2 (by decide) (fun r_8 hr_9 => ?_)
  replace hr_9 : r_8 = b1 (0 ≤ a ∧ a < nI (sn_ B)) := hr_9
  subst r_8
  refine lv_if_ne (tgt := 12) hx hb dX5_powders_5 (by decide) (fun c_5 => ?_) (fun c_5 => ?_)
  · replace c_5 := b1_n c_5
    refine lv_iload_n hx hb dX5_powders_12 rfl (lv_at hl 2 rfl) ?_
    refine lv_iconst (v := 0) hx hb dX5_powders_13 (by decide) ?_
    refine lv_bipush (v := 99) hx hb dX5_powders_14 (by decide) ?_
    refine kSiS hx hb hml hown hts hK hP gX5_powders_X5_bound okX5_bound (qX5_bound l D cI cB v 0 99 ) [] rfl (by decide) hl.1 rfl rfl (Nat.le_of_ble_eq_true rfl) dX5_powders_16 (by decide) (fun r_10 hr_11 => ?_)
    replace hr_11 : r_10 = ob_ v 0 99 := hr_11
    subst r_10
    refine lv_istore_n (lv' := [(3, .int (ob_ v 0 99)), (0, .ref (r 0)), (1, .int a), (2, .int v)]) hx hb dX5_powders_19 rfl hl (by decide) rfl (fun ls hl => ?_)
    exact jn_20  (ob_ v 0 99)  (by first | exact (f2_b (nb_i c_5)).symm | exact ((f2_a (by rw [nb_o c_5]; decide)).trans (nb_o c_5)).symm)   _ _ hP (va_D.adr hD0 (mW_adE rfl)) hS ls (lv_sub hl [0, 1, 2, 3] rfl)
  · replace c_5 := b1_z c_5
    refine lv_iconst (v := (-1)) hx hb dX5_powders_8 (by decide) ?_
    refine lv_goto (tgt := 19) hx hb dX5_powders_9 (by decide) ?_
    refine lv_istore_n (lv' := [(3, .int (-1)), (0, .ref (r 0)), (1, .int a), (2, .int v)]) hx hb dX5_powders_19 rfl hl (by decide) rfl (fun ls hl => ?_)
    exact jn_20  (-1)  (by first | exact (f2_b (nb_i c_5)).symm | exact ((f2_a (by rw [nb_o c_5]; decide)).trans (nb_o c_5)).symm)   _ _ hP (va_D.adr hD0 (mW_adE rfl)) hS ls (lv_sub hl [0, 1, 2, 3] rfl)

theorem okX5_hushes : jok yX5_hushes wsX5_hushes cX5_hushes 2 (some .int) 1 := ⟨⟨_, rfl⟩, by decide +kernel, by decide +kernel⟩
set_option maxHeartbeats 2000000 in
set_option maxRecDepth 100000 in
theorem qX5_hushes (l : Launch) (D : va_G) (cI cB : ClassId) (r : Nat → Nat) (B : BayT) (M : MT) (a : Int32) (hI : bI_ B) (hbk : mbk_ M ≤ 8) : jMi D cI cB l yX5_hushes wsX5_hushes 3 [.ref (r 0), .int a] (mW cI r B M) (S := BayT × MT) (fun r u => (nb_ a (nI (sn_ B)) = 0 ∧ r = qb_ (qt_ B ^^^ ((1 : Int32) <<< (nI (tn_ a) &&& 31))) (tn_ a) ∧ u = (uq_ B (qt_ B ^^^ ((1 : Int32) <<< (nI (tn_ a) &&& 31))), kb_ M B)) ∨ (¬ nb_ a (nI (sn_ B)) = 0 ∧ r = nb_ a (nI (sn_ B)) ∧ u = (B, rfm_ M (nb_ a (nI (sn_ B)))))) (fun u => mW cI r u.1 u.2) := by
  refine jMi.of (cc := cX5_hushes) (maxL := 2) (ret := (some .int)) okX5_hushes (Nat.le_of_ble_eq_true rfl) ?_
  intro p e s m below meth c ls A hx hb hr hts hown hlk hml hP hK hD hA hS hl
  replace hown : s.vm.findClass RX5 = some m.cls := hown
  replace hl : lv_has ls 2 [(0, .ref (r 0)), (1, .int a)] := hl
  have hD0 := hD
  have hn7 := hI.1
  have hinX5 : ∀ w ∈ wsX50, w ∈ wsX5_hushes := by decide +kernel
  refine lv_aload_n hx hb dX5_hushes_0 rfl (lv_at hl 0 rfl) ?_
  refine lv_iload_n hx hb dX5_hushes_1 rfl (lv_at hl 1 rfl) ?_
  refine kSiV hx hb hml hown hts hK hP gX5_hushes_X5_isShore okX5_isShore (qX5_isShore l D cI cB r B M a (by show sn_ B ≤ 7; omega)) [0, 1, 2, 3, 4, 5, 6, 7, 8, 9, 10, 11, 12, 13, 14, 15] rfl rfl rfl rfl (by decide) hl.1 rfl rfl (Nat.le_of_ble_eq_true rfl) dX5_hushes_2 (by decide) (fun r_1 hr_2 => ?_)
  replace hr_2 : r_1 = b1 (0 ≤ a ∧ a < nI (sn_ B)) := hr_2
  subst r_1
  refine lv_if_ne (tgt := 14) hx hb dX5_hushes_5 (by decide) (fun c_5 => ?_) (fun c_5 => ?_)
  · replace c_5 := b1_n c_5
    obtain ⟨a_, ha_, rfl⟩ := pl_lt (n := sn_ B) (by omega) c_5
    replace hl : lv_has ls 2 [(0, .ref (r 0)), (1, .int (nI a_))] := hl
    refine lv_aload_n hx hb dX5_hushes_14 rfl (lv_at hl 0 rfl) ?_
    refine kMvV hx hb hml hown hts hK hP (va_D.adr hD0 (mW_adE rfl)) hA hS gX5_hushes_X5_keepsBack okX5_keepsBack (qX5_keepsBack l D cI cB r B M (by omega)) [0, 1, 2, 3, 4, 5, 6, 7, 8, 9, 10, 11, 12, 13, 14, 15] rfl (by decide) (fun _ => mW_adr _ _ _ _ _ _) rfl rfl rfl (by decide) hl.1 rfl rfl (Nat.le_of_ble_eq_true rfl) dX5_hushes_15 (by decide) (fun u_4 H locs hw_5 hP hD hS => ?_)
    replace hw_5 : u_4 = (kb_ M B) := hw_5
    subst u_4
    replace hP : va_P D vwCl ([(r 0, .inr (5, [.ref (r 1), .ref (r 2), .ref (r 3), .ref (r 4), .ref (r 5), .ref (r 6), .int (nI (sn_ B)), .int (qt_ B), .int (il_ B), .int (pa_ B), .int (ho_ B), .int (dy_ B), .ref (r 13), .ref (r 14), .ref (r 15), .ref (r 16), .int (nI (mtn_ M)), .int (nI (mrd_ M)), .int (nI (msm_ M)), .ref (r 20), .int (mhi_ M), .int (1), .int (nI (mcu_ (kb_ M B))), .int (nI (mc8 (mbk_ M))), .ref (r 25), .ref (r 26), .int (mlw_ M), .int (mhg_ M), .int (msl_ M), .ref (r 30), .int (nI (mrm_ M)), .ref (r 32), .int (mlo_ M)])), (r 1, .inl (cI, 7, .inl (mrf_ M))), (r 2, .inl (cI, 7, .inl (kd_ B))), (r 3, .inl (cI, 7, .inl (fg_ B))), (r 4, .inl (cI, 7, .inl (pl_ B))), (r 5, .inl (cI, 7, .inl (pw_ B))), (r 6, .inl (cI, 7, .inl (jy_ B))), (r 13, .inl (cI, 96, .inl (mtp_ M))), (r 14, .inl (cI, 48, .inl (mlt_ M))), (r 15, .inl (cI, 48, .inl (mla_ M))), (r 16, .inl (cI, 144, .inl (mtd_ M))), (r 20, .inl (cI, 451, .inl (flatK (mkp_ (kb_ M B))))), (r 25, .inl (cI, 7, .inl (mof_ M))), (r 26, .inl (cI, 7, .inl (mfa_ M))), (r 30, .inl (cI, 12, .inl (mrw_ M))), (r 32, .inl (cI, 8, .inl (mhb_ M)))]) H := (va_P.m [true, true, true, true, true, true, true, true, true, true, true, true, true, true, true, true] [] hP)
    refine lv_aload_n hx hb dX5_hushes_18 rfl (lv_at hl 0 rfl) ?_
    refine lv_dup hx hb dX5_hushes_19 rfl ?_
    refine va_get (ci := 5) (C := RX5) (T := TX5) (N := 33) hx hb hts hinX5 hown hK.1 hP 0 rfl rfl 7 (by decide) (hts _ (List.mem_of_getElem? (i := 1) rfl)) (fun _ h9 => h9) rfl dX5_hushes_20 ?_
    refine lv_iconst (v := 1) hx hb dX5_hushes_23 (by decide) ?_
    refine lv_iload_n hx hb dX5_hushes_24 rfl (lv_at hl 1 rfl) ?_
    refine lv_ishl hx hb dX5_hushes_25 ?_
    refine lv_ixor hx hb dX5_hushes_26 ?_
    refine lv_topi (fun y_6 ey_6 => ?_)
    replace ey_6 : y_6 = (qt_ B) ^^^ (1 <<< ((nI a_) &&& 31)) := ey_6
    refine va_put (ci := 5) (ty := .int) (C := RX5) (T := TX5) (N := 33) hx hb hts hinX5 tyX5 tyX5_ok nmX5 hown hK.1 hP (va_D.adr hD0 (mW_adE rfl)) hS 0 rfl rfl 7 (by decide) (hts _ (List.mem_of_getElem? (i := 1) rfl)) (fun _ h9 => h9) rfl (by decide +kernel) (rfl) (rfl) (Nat.le_of_ble_eq_true rfl) dX5_hushes_27 (fun H locs hP hD hS => ?_)
    replace hP : va_P D vwCl ([(r 0, .inr (5, [.ref (r 1), .ref (r 2), .ref (r 3), .ref (r 4), .ref (r 5), .ref (r 6), .int (nI (sn_ B)), .int (y_6), .int (il_ B), .int (pa_ B), .int (ho_ B), .int (dy_ B), .ref (r 13), .ref (r 14), .ref (r 15), .ref (r 16), .int (nI (mtn_ M)), .int (nI (mrd_ M)), .int (nI (msm_ M)), .ref (r 20), .int (mhi_ M), .int (1), .int (nI (mcu_ (kb_ M B))), .int (nI (mc8 (mbk_ M))), .ref (r 25), .ref (r 26), .int (mlw_ M), .int (mhg_ M), .int (msl_ M), .ref (r 30), .int (nI (mrm_ M)), .ref (r 32), .int (mlo_ M)])), (r 1, .inl (cI, 7, .inl (mrf_ M))), (r 2, .inl (cI, 7, .inl (kd_ B))), (r 3, .inl (cI, 7, .inl (fg_ B))), (r 4, .inl (cI, 7, .inl (pl_ B))), (r 5, .inl (cI, 7, .inl (pw_ B))), (r 6, .inl (cI, 7, .inl (jy_ B))), (r 13, .inl (cI, 96, .inl (mtp_ M))), (r 14, .inl (cI, 48, .inl (mlt_ M))), (r 15, .inl (cI, 48, .inl (mla_ M))), (r 16, .inl (cI, 144, .inl (mtd_ M))), (r 20, .inl (cI, 451, .inl (flatK (mkp_ (kb_ M B))))), (r 25, .inl (cI, 7, .inl (mof_ M))), (r 26, .inl (cI, 7, .inl (mfa_ M))), (r 30, .inl (cI, 12, .inl (mrw_ M))), (r 32, .inl (cI, 8, .inl (mhb_ M)))]) H := hP
    refine lv_aload_n hx hb dX5_hushes_30 rfl (lv_at hl 0 rfl) ?_
    refine va_get (ci := 5) (C := RX5) (T := TX5) (N := 33) hx hb hts hinX5 hown hK.1 hP 0 rfl rfl 7 (by decide) (hts _ (List.mem_of_getElem? (i := 1) rfl)) (fun _ h9 => h9) rfl dX5_hushes_31 ?_
    refine lv_iload_n hx hb dX5_hushes_34 rfl (lv_at hl 1 rfl) ?_
    refine lv_ishr hx hb dX5_hushes_35 ?_
    refine lv_iconst (v := 1) hx hb dX5_hushes_36 (by decide) ?_
    refine lv_iand hx hb dX5_hushes_37 ?_
    (try rw [ey_6] at hP); (try rw [ey_6] at hD); (try rw [ey_6] at hl); (try rw [ey_6] at c_5); (try rw [ey_6])
    refine rMi hx hb hr hlk hS ((mkB (kd_ B) (fg_ B) (pl_ B) (pw_ B) (jy_ B) ((qt_ B) ^^^ (1 <<< ((nI a_) &&& 31))) (sn_ B) (il_ B) (pa_ B) (ho_ B) (dy_ B)), (kb_ M B)) hP ?_ dX5_hushes_38
    first | (have hW : nb_ a (nI (sn_ B)) = -1 := nb_o c_5; rw [hW]; exact Or.inr ⟨by decide, rfl, rfl⟩) | (refine Or.inl ⟨nb_i c_5, ?_⟩; simp only [tn_n (show a_ < 2147483648 by omega)]; exact ⟨rfl, rfl⟩)
  · replace c_5 := b1_z c_5
    refine lv_aload_n hx hb dX5_hushes_8 rfl (lv_at hl 0 rfl) ?_
    refine lv_iconst (v := (-1)) hx hb dX5_hushes_9 (by decide) ?_
    refine kMiV hx hb hml hown hts hK hP (va_D.adr hD0 (mW_adE rfl)) hA hS gX5_hushes_X5_no okX5_no (qX5_no l D cI cB r B M (-1) (Or.inl rfl)) [0, 1, 2, 3, 4, 5, 6, 7, 8, 9, 10, 11, 12, 13, 14, 15] rfl (by decide) (fun _ => mW_adr _ _ _ _ _ _) rfl rfl rfl (by decide) hl.1 rfl rfl (Nat.le_of_ble_eq_true rfl) dX5_hushes_10 (by decide) (fun r_7 u_8 H locs hw_9 hP hD hS => ?_)
    replace hw_9 : r_7 = (-1) ∧ u_8 = (rfm_ M (-1)) := hw_9
    obtain ⟨hw_9a, hw_9b⟩ := hw_9
    subst r_7
    subst u_8
    replace hP : va_P D vwCl ([(r 0, .inr (5, [.ref (r 1), .ref (r 2), .ref (r 3), .ref (r 4), .ref (r 5), .ref (r 6), .int (nI (sn_ B)), .int (qt_ B), .int (il_ B), .int (pa_ B), .int (ho_ B), .int (dy_ B), .ref (r 13), .ref (r 14), .ref (r 15), .ref (r 16), .int (nI (mtn_ M)), .int (nI (mrd_ M)), .int (nI (msm_ M)), .ref (r 20), .int (mhi_ M), .int (mik_ M), .int (nI (mcu_ M)), .int (nI (mbk_ M)), .ref (r 25), .ref (r 26), .int (mlw_ M), .int (mhg_ M), .int (msl_ M), .ref (r 30), .int (nI (mrm_ M)), .ref (r 32), .int (mlo_ M)])), (r 1, .inl (cI, 7, .inl (rfx_ (mrf_ M) (-1)))), (r 2, .inl (cI, 7, .inl (kd_ B))), (r 3, .inl (cI, 7, .inl (fg_ B))), (r 4, .inl (cI, 7, .inl (pl_ B))), (r 5, .inl (cI, 7, .inl (pw_ B))), (r 6, .inl (cI, 7, .inl (jy_ B))), (r 13, .inl (cI, 96, .inl (mtp_ M))), (r 14, .inl (cI, 48, .inl (mlt_ M))), (r 15, .inl (cI, 48, .inl (mla_ M))), (r 16, .inl (cI, 144, .inl (mtd_ M))), (r 20, .inl (cI, 451, .inl (flatK (mkp_ M)))), (r 25, .inl (cI, 7, .inl (mof_ M))), (r 26, .inl (cI, 7, .inl (mfa_ M))), (r 30, .inl (cI, 12, .inl (mrw_ M))), (r 32, .inl (cI, 8, .inl (mhb_ M)))]) H := (va_P.m [true, true, true, true, true, true, true, true, true, true, true, true, true, true, true, true] [] hP)
    refine rMi hx hb hr hlk hS (B, (rfm_ M (-1))) hP ?_ dX5_hushes_13
    first | (have hW : nb_ a (nI (sn_ B)) = -1 := nb_o c_5; rw [hW]; exact Or.inr ⟨by decide, rfl, rfl⟩) | (refine Or.inl ⟨nb_i c_5, ?_⟩; simp only [tn_n (show a_ < 2147483648 by omega)]; exact ⟨rfl, rfl⟩)

theorem okX5_isle : jok yX5_isle wsX5_isle cX5_isle 5 (some .int) 2 := ⟨⟨_, rfl⟩, by decide +kernel, by decide +kernel⟩
set_option maxHeartbeats 2000000 in
set_option maxRecDepth 100000 in
theorem qX5_isle (l : Launch) (D : va_G) (cI cB : ClassId) (r : Nat → Nat) (B : BayT) (M : MT) (q : Int32) (v : Int32) (hI : bI_ B) (hbk : mbk_ M ≤ 8) : jMi D cI cB l yX5_isle wsX5_isle 3 [.ref (r 0), .int q, .int v] (mW cI r B M) (S := BayT × MT) (fun r u => (f2_ (uk_ q 1) (if q = 0 then ob_ v 0 30 else ob_ v 1 5) = 0 ∧ r = (if q = 0 then il_ B else pa_ B) ∧ u = (uv_ B q v, kb_ M B)) ∨ (¬ f2_ (uk_ q 1) (if q = 0 then ob_ v 0 30 else ob_ v 1 5) = 0 ∧ r = f2_ (uk_ q 1) (if q = 0 then ob_ v 0 30 else ob_ v 1 5) ∧ u = (B, rfm_ M (f2_ (uk_ q 1) (if q = 0 then ob_ v 0 30 else ob_ v 1 5))))) (fun u => mW cI r u.1 u.2) := by
  refine jMi.of (cc := cX5_isle) (maxL := 5) (ret := (some .int)) okX5_isle (Nat.le_of_ble_eq_true rfl) ?_
  intro p e s m below meth c ls A hx hb hr hts hown hlk hml hP hK hD hA hS hl
  replace hown : s.vm.findClass RX5 = some m.cls := hown
  replace hl : lv_has ls 5 [(0, .ref (r 0)), (1, .int q), (2, .int v)] := hl
  have hD0 := hD
  have hn7 := hI.1
  have hinX5 : ∀ w ∈ wsX50, w ∈ wsX5_isle := by decide +kernel
  have jn_38 : ∀  (x3_38 : Int32) , (x3_38 = f2_ (uk_ q 1) (if q = 0 then ob_ v 0 30 else ob_ v 1 5)) → ∀ (H : Heap) (locs : List Loc), va_P D vwCl (mW cI r B M) H → va_D A (mW cI r B M) → va_S A s.heap H locs → ∀ ls : Array Slot, lv_has ls 5 [(3, .int x3_38), (0, .ref (r 0)), (1, .int q), (2, .int v)] → W p l e (jR 3) s m ([.ref (r 0), .int q, .int v] : List Value).toArray below meth c H locs 0 0 (MQ below (va_Qi (S := BayT × MT) (fun r u => (f2_ (uk_ q 1) (if q = 0 then ob_ v 0 30 else ob_ v 1 5) = 0 ∧ r = (if q = 0 then il_ B else pa_ B) ∧ u = (uv_ B q v, kb_ M B)) ∨ (¬ f2_ (uk_ q 1) (if q = 0 then ob_ v 0 30 else ob_ v 1 5) = 0 ∧ r = f2_ (uk_ q 1) (if q = 0 then ob_ v 0 30 else ob_ v 1 5) ∧ u = (B, rfm_ M (f2_ (uk_ q 1) (if q = 0 then ob_ v 0 30 else ob_ v 1 5))))) (fun u t => va_P D vwCl ((fun u => mW cI r u.1 u.2) u) t.heap) A) ([.ref (r 0), .int q, .int v] : List Value).toArray s 0 0 A) (F0 m 38 ls []) := by
      intro x3_38 hx3_38 H locs hP hD hS ls hl
      subst x3_38
      replace hl : lv_has ls 5 [(3, .int (f2_ (uk_ q 1) (if q = 0 then ob_ v 0 30 else ob_ v 1 5))), (0, .ref (r 0)), (1, .int q), (2, .int v)] := hl
      replace hP : va_P D vwCl (mW cI r B M) H := hP
      refine lv_iload_n hx hb dX5_isle_38 rfl (lv_at hl 0 rfl) ?_
      refine lv_if_eq (tgt := 48) hx hb dX5_isle_39 (by decide) (fun c_39 => ?_) (fun c_39 => ?_)
      · skip
        refine lv_aload_n hx hb dX5_isle_48 rfl (lv_at hl 1 rfl) ?_
        refine kMvV hx hb hml hown hts hK hP (va_D.adr hD0 (mW_adE rfl)) hA hS gX5_isle_X5_keepsBack okX5_keepsBack (qX5_keepsBack l D cI cB r B M (by omega)) [0, 1, 2, 3, 4, 5, 6, 7, 8, 9, 10, 11, 12, 13, 14, 15] rfl (by decide) (fun _ => mW_adr _ _ _ _ _ _) rfl rfl rfl (by decide) hl.1 rfl rfl (Nat.le_of_ble_eq_true rfl) dX5_isle_49 (by decide) (fun u_2 H locs hw_3 hP hD hS => ?_)
        replace hw_3 : u_2 = (kb_ M B) := hw_3
        subst u_2
        replace hP : va_P D vwCl ([(r 0, .inr (5, [.ref (r 1), .ref (r 2), .ref (r 3), .ref (r 4), .ref (r 5), .ref (r 6), .int (nI (sn_ B)), .int (qt_ B), .int (il_ B), .int (pa_ B), .int (ho_ B), .int (dy_ B), .ref (r 13), .ref (r 14), .ref (r 15), .ref (r 16), .int (nI (mtn_ M)), .int (nI (mrd_ M)), .int (nI (msm_ M)), .ref (r 20), .int (mhi_ M), .int (1), .int (nI (mcu_ (kb_ M B))), .int (nI (mc8 (mbk_ M))), .ref (r 25), .ref (r 26), .int (mlw_ M), .int (mhg_ M), .int (msl_ M), .ref (r 30), .int (nI (mrm_ M)), .ref (r 32), .int (mlo_ M)])), (r 1, .inl (cI, 7, .inl (mrf_ M))), (r 2, .inl (cI, 7, .inl (kd_ B))), (r 3, .inl (cI, 7, .inl (fg_ B))), (r 4, .inl (cI, 7, .inl (pl_ B))), (r 5, .inl (cI, 7, .inl (pw_ B))), (r 6, .inl (cI, 7, .inl (jy_ B))), (r 13, .inl (cI, 96, .inl (mtp_ M))), (r 14, .inl (cI, 48, .inl (mlt_ M))), (r 15, .inl (cI, 48, .inl (mla_ M))), (r 16, .inl (cI, 144, .inl (mtd_ M))), (r 20, .inl (cI, 451, .inl (flatK (mkp_ (kb_ M B))))), (r 25, .inl (cI, 7, .inl (mof_ M))), (r 26, .inl (cI, 7, .inl (mfa_ M))), (r 30, .inl (cI, 12, .inl (mrw_ M))), (r 32, .inl (cI, 8, .inl (mhb_ M)))]) H := (va_P.m [true, true, true, true, true, true, true, true, true, true, true, true, true, true, true, true] [] hP)
        refine lv_iload_n hx hb dX5_isle_52 rfl (lv_at hl 2 rfl) ?_
        refine lv_if_ne (tgt := 63) hx hb dX5_isle_53 (by decide) (fun c_53 => ?_) (fun c_53 => ?_)
        · skip
          refine lv_aload_n hx hb dX5_isle_63 rfl (lv_at hl 1 rfl) ?_
          refine va_get (ci := 5) (C := RX5) (T := TX5) (N := 33) hx hb hts hinX5 hown hK.1 hP 0 rfl rfl 9 (by decide) (hts _ (List.mem_of_getElem? (i := 2) rfl)) (fun _ h9 => h9) rfl dX5_isle_64 ?_
          refine lv_istore (lv' := [(4, .int (pa_ B)), (3, .int (f2_ (uk_ q 1) (if q = 0 then ob_ v 0 30 else ob_ v 1 5))), (0, .ref (r 0)), (1, .int q), (2, .int v)]) hx hb dX5_isle_67 hl (by decide) rfl (fun ls hl => ?_)
          refine lv_iload_n hx hb dX5_isle_69 rfl (lv_at hl 3 rfl) ?_
          refine lv_if_ne (tgt := 81) hx hb dX5_isle_70 (by decide) (fun c_70 => ?_) (fun c_70 => ?_)
          · skip
            refine lv_aload_n hx hb dX5_isle_81 rfl (lv_at hl 2 rfl) ?_
            refine lv_iload_n hx hb dX5_isle_82 rfl (lv_at hl 4 rfl) ?_
            refine va_put (ci := 5) (ty := .int) (C := RX5) (T := TX5) (N := 33) hx hb hts hinX5 tyX5 tyX5_ok nmX5 hown hK.1 hP (va_D.adr hD0 (mW_adE rfl)) hS 0 rfl rfl 9 (by decide) (hts _ (List.mem_of_getElem? (i := 2) rfl)) (fun _ h9 => h9) rfl (by decide +kernel) (rfl) (rfl) (Nat.le_of_ble_eq_true rfl) dX5_isle_83 (fun H locs hP hD hS => ?_)
            replace hP : va_P D vwCl ([(r 0, .inr (5, [.ref (r 1), .ref (r 2), .ref (r 3), .ref (r 4), .ref (r 5), .ref (r 6), .int (nI (sn_ B)), .int (qt_ B), .int (il_ B), .int (v), .int (ho_ B), .int (dy_ B), .ref (r 13), .ref (r 14), .ref (r 15), .ref (r 16), .int (nI (mtn_ M)), .int (nI (mrd_ M)), .int (nI (msm_ M)), .ref (r 20), .int (mhi_ M), .int (1), .int (nI (mcu_ (kb_ M B))), .int (nI (mc8 (mbk_ M))), .ref (r 25), .ref (r 26), .int (mlw_ M), .int (mhg_ M), .int (msl_ M), .ref (r 30), .int (nI (mrm_ M)), .ref (r 32), .int (mlo_ M)])), (r 1, .inl (cI, 7, .inl (mrf_ M))), (r 2, .inl (cI, 7, .inl (kd_ B))), (r 3, .inl (cI, 7, .inl (fg_ B))), (r 4, .inl (cI, 7, .inl (pl_ B))), (r 5, .inl (cI, 7, .inl (pw_ B))), (r 6, .inl (cI, 7, .inl (jy_ B))), (r 13, .inl (cI, 96, .inl (mtp_ M))), (r 14, .inl (cI, 48, .inl (mlt_ M))), (r 15, .inl (cI, 48, .inl (mla_ M))), (r 16, .inl (cI, 144, .inl (mtd_ M))), (r 20, .inl (cI, 451, .inl (flatK (mkp_ (kb_ M B))))), (r 25, .inl (cI, 7, .inl (mof_ M))), (r 26, .inl (cI, 7, .inl (mfa_ M))), (r 30, .inl (cI, 12, .inl (mrw_ M))), (r 32, .inl (cI, 8, .inl (mhb_ M)))]) H := hP
            refine lv_iload hx hb dX5_isle_86 (lv_at hl 0 rfl) ?_
            refine rMi hx hb hr hlk hS ((mkB (kd_ B) (fg_ B) (pl_ B) (pw_ B) (jy_ B) (qt_ B) (sn_ B) (il_ B) v (ho_ B) (dy_ B)), (kb_ M B)) hP ?_ dX5_isle_88
            first | exact Or.inr ⟨c_39, rfl, rfl⟩ | exact absurd c_53 c_70 | exact absurd c_70 c_53 | exact Or.inl ⟨c_39, (if_pos c_53).symm, by unfold uv_; rw [if_pos c_53]; rfl⟩ | exact Or.inl ⟨c_39, (if_neg c_53).symm, by unfold uv_; rw [if_neg c_53]; rfl⟩
          · skip
            refine lv_aload_n hx hb dX5_isle_73 rfl (lv_at hl 2 rfl) ?_
            refine lv_iload_n hx hb dX5_isle_74 rfl (lv_at hl 4 rfl) ?_
            refine va_put (ci := 5) (ty := .int) (C := RX5) (T := TX5) (N := 33) hx hb hts hinX5 tyX5 tyX5_ok nmX5 hown hK.1 hP (va_D.adr hD0 (mW_adE rfl)) hS 0 rfl rfl 8 (by decide) (hts _ (List.mem_of_getElem? (i := 1) rfl)) (fun _ h9 => h9) rfl (by decide +kernel) (rfl) (rfl) (Nat.le_of_ble_eq_true rfl) dX5_isle_75 (fun H locs hP hD hS => ?_)
            replace hP : va_P D vwCl ([(r 0, .inr (5, [.ref (r 1), .ref (r 2), .ref (r 3), .ref (r 4), .ref (r 5), .ref (r 6), .int (nI (sn_ B)), .int (qt_ B), .int (v), .int (pa_ B), .int (ho_ B), .int (dy_ B), .ref (r 13), .ref (r 14), .ref (r 15), .ref (r 16), .int (nI (mtn_ M)), .int (nI (mrd_ M)), .int (nI (msm_ M)), .ref (r 20), .int (mhi_ M), .int (1), .int (nI (mcu_ (kb_ M B))), .int (nI (mc8 (mbk_ M))), .ref (r 25), .ref (r 26), .int (mlw_ M), .int (mhg_ M), .int (msl_ M), .ref (r 30), .int (nI (mrm_ M)), .ref (r 32), .int (mlo_ M)])), (r 1, .inl (cI, 7, .inl (mrf_ M))), (r 2, .inl (cI, 7, .inl (kd_ B))), (r 3, .inl (cI, 7, .inl (fg_ B))), (r 4, .inl (cI, 7, .inl (pl_ B))), (r 5, .inl (cI, 7, .inl (pw_ B))), (r 6, .inl (cI, 7, .inl (jy_ B))), (r 13, .inl (cI, 96, .inl (mtp_ M))), (r 14, .inl (cI, 48, .inl (mlt_ M))), (r 15, .inl (cI, 48, .inl (mla_ M))), (r 16, .inl (cI, 144, .inl (mtd_ M))), (r 20, .inl (cI, 451, .inl (flatK (mkp_ (kb_ M B))))), (r 25, .inl (cI, 7, .inl (mof_ M))), (r 26, .inl (cI, 7, .inl (mfa_ M))), (r 30, .inl (cI, 12, .inl (mrw_ M))), (r 32, .inl (cI, 8, .inl (mhb_ M)))]) H := hP
            refine lv_goto (tgt := 86) hx hb dX5_isle_78 (by decide) ?_
            refine lv_iload hx hb dX5_isle_86 (lv_at hl 0 rfl) ?_
            refine rMi hx hb hr hlk hS ((mkB (kd_ B) (fg_ B) (pl_ B) (pw_ B) (jy_ B) (qt_ B) (sn_ B) v (pa_ B) (ho_ B) (dy_ B)), (kb_ M B)) hP ?_ dX5_isle_88
            first | exact Or.inr ⟨c_39, rfl, rfl⟩ | exact absurd c_53 c_70 | exact absurd c_70 c_53 | exact Or.inl ⟨c_39, (if_pos c_53).symm, by unfold uv_; rw [if_pos c_53]; rfl⟩ | exact Or.inl ⟨c_39, (if_neg c_53).symm, by unfold uv_; rw [if_neg c_53]; rfl⟩
        · skip
          refine lv_aload_n hx hb dX5_isle_56 rfl (lv_at hl 1 rfl) ?_
          refine va_get (ci := 5) (C := RX5) (T := TX5) (N := 33) hx hb hts hinX5 hown hK.1 hP 0 rfl rfl 8 (by decide) (hts _ (List.mem_of_getElem? (i := 1) rfl)) (fun _ h9 => h9) rfl dX5_isle_57 ?_
          refine lv_goto (tgt := 67) hx hb dX5_isle_60 (by decide) ?_
          refine lv_istore (lv' := [(4, .int (il_ B)), (3, .int (f2_ (uk_ q 1) (if q = 0 then ob_ v 0 30 else ob_ v 1 5))), (0, .ref (r 0)), (1, .int q), (2, .int v)]) hx hb dX5_isle_67 hl (by decide) rfl (fun ls hl => ?_)
          refine lv_iload_n hx hb dX5_isle_69 rfl (lv_at hl 3 rfl) ?_
          refine lv_if_ne (tgt := 81) hx hb dX5_isle_70 (by decide) (fun c_70 => ?_) (fun c_70 => ?_)
          · skip
            refine lv_aload_n hx hb dX5_isle_81 rfl (lv_at hl 2 rfl) ?_
            refine lv_iload_n hx hb dX5_isle_82 rfl (lv_at hl 4 rfl) ?_
            refine va_put (ci := 5) (ty := .int) (C := RX5) (T := TX5) (N := 33) hx hb hts hinX5 tyX5 tyX5_ok nmX5 hown hK.1 hP (va_D.adr hD0 (mW_adE rfl)) hS 0 rfl rfl 9 (by decide) (hts _ (List.mem_of_getElem? (i := 2) rfl)) (fun _ h9 => h9) rfl (by decide +kernel) (rfl) (rfl) (Nat.le_of_ble_eq_true rfl) dX5_isle_83 (fun H locs hP hD hS => ?_)
            replace hP : va_P D vwCl ([(r 0, .inr (5, [.ref (r 1), .ref (r 2), .ref (r 3), .ref (r 4), .ref (r 5), .ref (r 6), .int (nI (sn_ B)), .int (qt_ B), .int (il_ B), .int (v), .int (ho_ B), .int (dy_ B), .ref (r 13), .ref (r 14), .ref (r 15), .ref (r 16), .int (nI (mtn_ M)), .int (nI (mrd_ M)), .int (nI (msm_ M)), .ref (r 20), .int (mhi_ M), .int (1), .int (nI (mcu_ (kb_ M B))), .int (nI (mc8 (mbk_ M))), .ref (r 25), .ref (r 26), .int (mlw_ M), .int (mhg_ M), .int (msl_ M), .ref (r 30), .int (nI (mrm_ M)), .ref (r 32), .int (mlo_ M)])), (r 1, .inl (cI, 7, .inl (mrf_ M))), (r 2, .inl (cI, 7, .inl (kd_ B))), (r 3, .inl (cI, 7, .inl (fg_ B))), (r 4, .inl (cI, 7, .inl (pl_ B))), (r 5, .inl (cI, 7, .inl (pw_ B))), (r 6, .inl (cI, 7, .inl (jy_ B))), (r 13, .inl (cI, 96, .inl (mtp_ M))), (r 14, .inl (cI, 48, .inl (mlt_ M))), (r 15, .inl (cI, 48, .inl (mla_ M))), (r 16, .inl (cI, 144, .inl (mtd_ M))), (r 20, .inl (cI, 451, .inl (flatK (mkp_ (kb_ M B))))), (r 25, .inl (cI, 7, .inl (mof_ M))), (r 26, .inl (cI, 7, .inl (mfa_ M))), (r 30, .inl (cI, 12, .inl (mrw_ M))), (r 32, .inl (cI, 8, .inl (mhb_ M)))]) H := hP
            refine lv_iload hx hb dX5_isle_86 (lv_at hl 0 rfl) ?_
            refine rMi hx hb hr hlk hS ((mkB (kd_ B) (fg_ B) (pl_ B) (pw_ B) (jy_ B) (qt_ B) (sn_ B) (il_ B) v (ho_ B) (dy_ B)), (kb_ M B)) hP ?_ dX5_isle_88
            first | exact Or.inr ⟨c_39, rfl, rfl⟩ | exact absurd c_53 c_70 | exact absurd c_70 c_53 | exact Or.inl ⟨c_39, (if_pos c_53).symm, by unfold uv_; rw [if_pos c_53]; rfl⟩ | exact Or.inl ⟨c_39, (if_neg c_53).symm, by unfold uv_; rw [if_neg c_53]; rfl⟩
          · skip
            refine lv_aload_n hx hb dX5_isle_73 rfl (lv_at hl 2 rfl) ?_
            refine lv_iload_n hx hb dX5_isle_74 rfl (lv_at hl 4 rfl) ?_
            refine va_put (ci := 5) (ty := .int) (C := RX5) (T := TX5) (N := 33) hx hb hts hinX5 tyX5 tyX5_ok nmX5 hown hK.1 hP (va_D.adr hD0 (mW_adE rfl)) hS 0 rfl rfl 8 (by decide) (hts _ (List.mem_of_getElem? (i := 1) rfl)) (fun _ h9 => h9) rfl (by decide +kernel) (rfl) (rfl) (Nat.le_of_ble_eq_true rfl) dX5_isle_75 (fun H locs hP hD hS => ?_)
            replace hP : va_P D vwCl ([(r 0, .inr (5, [.ref (r 1), .ref (r 2), .ref (r 3), .ref (r 4), .ref (r 5), .ref (r 6), .int (nI (sn_ B)), .int (qt_ B), .int (v), .int (pa_ B), .int (ho_ B), .int (dy_ B), .ref (r 13), .ref (r 14), .ref (r 15), .ref (r 16), .int (nI (mtn_ M)), .int (nI (mrd_ M)), .int (nI (msm_ M)), .ref (r 20), .int (mhi_ M), .int (1), .int (nI (mcu_ (kb_ M B))), .int (nI (mc8 (mbk_ M))), .ref (r 25), .ref (r 26), .int (mlw_ M), .int (mhg_ M), .int (msl_ M), .ref (r 30), .int (nI (mrm_ M)), .ref (r 32), .int (mlo_ M)])), (r 1, .inl (cI, 7, .inl (mrf_ M))), (r 2, .inl (cI, 7, .inl (kd_ B))), (r 3, .inl (cI, 7, .inl (fg_ B))), (r 4, .inl (cI, 7, .inl (pl_ B))), (r 5, .inl (cI, 7, .inl (pw_ B))), (r 6, .inl (cI, 7, .inl (jy_ B))), (r 13, .inl (cI, 96, .inl (mtp_ M))), (r 14, .inl (cI, 48, .inl (mlt_ M))), (r 15, .inl (cI, 48, .inl (mla_ M))), (r 16, .inl (cI, 144, .inl (mtd_ M))), (r 20, .inl (cI, 451, .inl (flatK (mkp_ (kb_ M B))))), (r 25, .inl (cI, 7, .inl (mof_ M))), (r 26, .inl (cI, 7, .inl (mfa_ M))), (r 30, .inl (cI, 12, .inl (mrw_ M))), (r 32, .inl (cI, 8, .inl (mhb_ M)))]) H := hP
            refine lv_goto (tgt := 86) hx hb dX5_isle_78 (by decide) ?_
            refine lv_iload hx hb dX5_isle_86 (lv_at hl 0 rfl) ?_
            refine rMi hx hb hr hlk hS ((mkB (kd_ B) (fg_ B) (pl_ B) (pw_ B) (jy_ B) (qt_ B) (sn_ B) v (pa_ B) (ho_ B) (dy_ B)), (kb_ M B)) hP ?_ dX5_isle_88
            first | exact Or.inr ⟨c_39, rfl, rfl⟩ | exact absurd c_53 c_70 | exact absurd c_70 c_53 | exact Or.inl ⟨c_39, (if_pos c_53).symm, by unfold uv_; rw [if_pos c_53]; rfl⟩ | exact Or.inl ⟨c_39, (if_neg c_53).symm, by unfold uv_; rw [if_neg c_53]; rfl⟩
      · skip
        refine lv_aload_n hx hb dX5_isle_42 rfl (lv_at hl 1 rfl) ?_
        refine lv_iload_n hx hb dX5_isle_43 rfl (lv_at hl 0 rfl) ?_
        refine kMiV hx hb hml hown hts hK hP (va_D.adr hD0 (mW_adE rfl)) hA hS gX5_isle_X5_no okX5_no (qX5_no l D cI cB r B M (f2_ (uk_ q 1) (if q = 0 then ob_ v 0 30 else ob_ v 1 5)) (rc0_n (by first | exact rc0_rs _ _ _ _ | exact rc0_rh _ _ | exact rc0_nb _ _ | exact rc0_f2 (rc0_nb _ _) (rc0_ob _ _ _) | exact rc0_f2 (rc0_uk _ _) (rc0_if (rc0_ob _ _ _) (rc0_ob _ _ _)) | exact rc0_f2 (rc0_ob _ _ _) (rc0_if (Or.inr (Or.inr (Or.inr (Or.inr (Or.inr rfl))))) (Or.inl rfl))) c_39)) [0, 1, 2, 3, 4, 5, 6, 7, 8, 9, 10, 11, 12, 13, 14, 15] rfl (by decide) (fun _ => mW_adr _ _ _ _ _ _) rfl rfl rfl (by decide) hl.1 rfl rfl (Nat.le_of_ble_eq_true rfl) dX5_isle_44 (by decide) (fun r_4 u_5 H locs hw_6 hP hD hS => ?_)
        replace hw_6 : r_4 = f2_ (uk_ q 1) (if q = 0 then ob_ v 0 30 else ob_ v 1 5) ∧ u_5 = (rfm_ M (f2_ (uk_ q 1) (if q = 0 then ob_ v 0 30 else ob_ v 1 5))) := hw_6
        obtain ⟨hw_6a, hw_6b⟩ := hw_6
        subst r_4
        subst u_5
        replace hP : va_P D vwCl ([(r 0, .inr (5, [.ref (r 1), .ref (r 2), .ref (r 3), .ref (r 4), .ref (r 5), .ref (r 6), .int (nI (sn_ B)), .int (qt_ B), .int (il_ B), .int (pa_ B), .int (ho_ B), .int (dy_ B), .ref (r 13), .ref (r 14), .ref (r 15), .ref (r 16), .int (nI (mtn_ M)), .int (nI (mrd_ M)), .int (nI (msm_ M)), .ref (r 20), .int (mhi_ M), .int (mik_ M), .int (nI (mcu_ M)), .int (nI (mbk_ M)), .ref (r 25), .ref (r 26), .int (mlw_ M), .int (mhg_ M), .int (msl_ M), .ref (r 30), .int (nI (mrm_ M)), .ref (r 32), .int (mlo_ M)])), (r 1, .inl (cI, 7, .inl (rfx_ (mrf_ M) (f2_ (uk_ q 1) (if q = 0 then ob_ v 0 30 else ob_ v 1 5))))), (r 2, .inl (cI, 7, .inl (kd_ B))), (r 3, .inl (cI, 7, .inl (fg_ B))), (r 4, .inl (cI, 7, .inl (pl_ B))), (r 5, .inl (cI, 7, .inl (pw_ B))), (r 6, .inl (cI, 7, .inl (jy_ B))), (r 13, .inl (cI, 96, .inl (mtp_ M))), (r 14, .inl (cI, 48, .inl (mlt_ M))), (r 15, .inl (cI, 48, .inl (mla_ M))), (r 16, .inl (cI, 144, .inl (mtd_ M))), (r 20, .inl (cI, 451, .inl (flatK (mkp_ M)))), (r 25, .inl (cI, 7, .inl (mof_ M))), (r 26, .inl (cI, 7, .inl (mfa_ M))), (r 30, .inl (cI, 12, .inl (mrw_ M))), (r 32, .inl (cI, 8, .inl (mhb_ M)))]) H := (va_P.m [true, true, true, true, true, true, true, true, true, true, true, true, true, true, true, true] [] hP)
        refine rMi hx hb hr hlk hS (B, (rfm_ M (f2_ (uk_ q 1) (if q = 0 then ob_ v 0 30 else ob_ v 1 5)))) hP ?_ dX5_isle_47
        first | exact Or.inr ⟨c_39, rfl, rfl⟩ | exact absurd c_53 c_70 | exact absurd c_70 c_53 | exact Or.inl ⟨c_39, (if_pos c_53).symm, by unfold uv_; rw [if_pos c_53]; rfl⟩ | exact Or.inl ⟨c_39, (if_neg c_53).symm, by unfold uv_; rw [if_neg c_53]; rfl⟩
  refine lv_iload_n hx hb dX5_isle_0 rfl (lv_at hl 1 rfl) ?_
  refine lv_iconst (v := 0) hx hb dX5_isle_1 (by decide) ?_
  refine lv_iconst (v := 1) hx hb dX5_isle_2 (by decide) ?_
  refine kSiS hx hb hml hown hts hK hP gX5_isle_X5_isIn okX5_isIn (qX5_isIn l D cI cB q 0 1 ) [] rfl (by decide) hl.1 rfl rfl (Nat.le_of_ble_eq_true rfl) dX5_isle_3 (by decide) (fun r_7 hr_8 => ?_)
  replace hr_8 : r_7 = b1 (0 ≤ q ∧ q ≤ 1) := hr_8
  subst r_7
  refine lv_if_ne (tgt := 14) hx hb dX5_isle_6 (by decide) (fun c_6 => ?_) (fun c_6 => ?_)
  · replace c_6 := b1_n c_6
    refine lv_iload_n hx hb dX5_isle_14 rfl (lv_at hl 2 rfl) ?_
    refine lv_iload_n hx hb dX5_isle_15 rfl (lv_at hl 1 rfl) ?_
    refine lv_if_ne (tgt := 23) hx hb dX5_isle_16 (by decide) (fun c_16 => ?_) (fun c_16 => ?_)
    · skip
      refine lv_iconst (v := 1) hx hb dX5_isle_23 (by decide) ?_
      refine lv_iload_n hx hb dX5_isle_24 rfl (lv_at hl 1 rfl) ?_
      refine lv_if_ne (tgt := 33) hx hb dX5_isle_25 (by decide) (fun c_25 => ?_) (fun c_25 => ?_)
      · skip
        refine lv_iconst (v := 5) hx hb dX5_isle_33 (by decide) ?_
        refine kSiS hx hb hml hown hts hK hP gX5_isle_X5_bound okX5_bound (qX5_bound l D cI cB v 1 5 ) [] rfl (by decide) hl.1 rfl rfl (Nat.le_of_ble_eq_true rfl) dX5_isle_34 (by decide) (fun r_9 hr_10 => ?_)
        replace hr_10 : r_9 = ob_ v 1 5 := hr_10
        subst r_9
        refine lv_istore_n (lv' := [(3, .int (ob_ v 1 5)), (0, .ref (r 0)), (1, .int q), (2, .int v)]) hx hb dX5_isle_37 rfl hl (by decide) rfl (fun ls hl => ?_)
        exact jn_38  (ob_ v 1 5)  (by first | exact ((f2_a (by rw [uk_o c_6]; decide)).trans (uk_o c_6)).symm | exact ((f2_b (uk_i c_6)).trans (if_pos c_16)).symm | exact ((f2_b (uk_i c_6)).trans (if_neg c_16)).symm | exact absurd c_16 c_25 | exact absurd c_25 c_16)   _ _ hP (va_D.adr hD0 (mW_adE rfl)) hS ls (lv_sub hl [0, 1, 2, 3] rfl)
      · skip
        refine lv_bipush (v := 30) hx hb dX5_isle_28 (by decide) ?_
        refine lv_goto (tgt := 34) hx hb dX5_isle_30 (by decide) ?_
        refine kSiS hx hb hml hown hts hK hP gX5_isle_X5_bound okX5_bound (qX5_bound l D cI cB v 1 30 ) [] rfl (by decide) hl.1 rfl rfl (Nat.le_of_ble_eq_true rfl) dX5_isle_34 (by decide) (fun r_11 hr_12 => ?_)
        replace hr_12 : r_11 = ob_ v 1 30 := hr_12
        subst r_11
        refine lv_istore_n (lv' := [(3, .int (ob_ v 1 30)), (0, .ref (r 0)), (1, .int q), (2, .int v)]) hx hb dX5_isle_37 rfl hl (by decide) rfl (fun ls hl => ?_)
        exact jn_38  (ob_ v 1 30)  (by first | exact ((f2_a (by rw [uk_o c_6]; decide)).trans (uk_o c_6)).symm | exact ((f2_b (uk_i c_6)).trans (if_pos c_16)).symm | exact ((f2_b (uk_i c_6)).trans (if_neg c_16)).symm | exact absurd c_16 c_25 | exact absurd c_25 c_16)   _ _ hP (va_D.adr hD0 (mW_adE rfl)) hS ls (lv_sub hl [0, 1, 2, 3] rfl)
    · skip
      refine lv_iconst (v := 0) hx hb dX5_isle_19 (by decide) ?_
      refine lv_goto (tgt := 24) hx hb dX5_isle_20 (by decide) ?_
      refine lv_iload_n hx hb dX5_isle_24 rfl (lv_at hl 1 rfl) ?_
      refine lv_if_ne (tgt := 33) hx hb dX5_isle_25 (by decide) (fun c_25 => ?_) (fun c_25 => ?_)
      · skip
        refine lv_iconst (v := 5) hx hb dX5_isle_33 (by decide) ?_
        refine kSiS hx hb hml hown hts hK hP gX5_isle_X5_bound okX5_bound (qX5_bound l D cI cB v 0 5 ) [] rfl (by decide) hl.1 rfl rfl (Nat.le_of_ble_eq_true rfl) dX5_isle_34 (by decide) (fun r_13 hr_14 => ?_)
        replace hr_14 : r_13 = ob_ v 0 5 := hr_14
        subst r_13
        refine lv_istore_n (lv' := [(3, .int (ob_ v 0 5)), (0, .ref (r 0)), (1, .int q), (2, .int v)]) hx hb dX5_isle_37 rfl hl (by decide) rfl (fun ls hl => ?_)
        exact jn_38  (ob_ v 0 5)  (by first | exact ((f2_a (by rw [uk_o c_6]; decide)).trans (uk_o c_6)).symm | exact ((f2_b (uk_i c_6)).trans (if_pos c_16)).symm | exact ((f2_b (uk_i c_6)).trans (if_neg c_16)).symm | exact absurd c_16 c_25 | exact absurd c_25 c_16)   _ _ hP (va_D.adr hD0 (mW_adE rfl)) hS ls (lv_sub hl [0, 1, 2, 3] rfl)
      · skip
        refine lv_bipush (v := 30) hx hb dX5_isle_28 (by decide) ?_
        refine lv_goto (tgt := 34) hx hb dX5_isle_30 (by decide) ?_
        refine kSiS hx hb hml hown hts hK hP gX5_isle_X5_bound okX5_bound (qX5_bound l D cI cB v 0 30 ) [] rfl (by decide) hl.1 rfl rfl (Nat.le_of_ble_eq_true rfl) dX5_isle_34 (by decide) (fun r_15 hr_16 => ?_)
        replace hr_16 : r_15 = ob_ v 0 30 := hr_16
        subst r_15
        refine lv_istore_n (lv' := [(3, .int (ob_ v 0 30)), (0, .ref (r 0)), (1, .int q), (2, .int v)]) hx hb dX5_isle_37 rfl hl (by decide) rfl (fun ls hl => ?_)
        exact jn_38  (ob_ v 0 30)  (by first | exact ((f2_a (by rw [uk_o c_6]; decide)).trans (uk_o c_6)).symm | exact ((f2_b (uk_i c_6)).trans (if_pos c_16)).symm | exact ((f2_b (uk_i c_6)).trans (if_neg c_16)).symm | exact absurd c_16 c_25 | exact absurd c_25 c_16)   _ _ hP (va_D.adr hD0 (mW_adE rfl)) hS ls (lv_sub hl [0, 1, 2, 3] rfl)
  · replace c_6 := b1_z c_6
    refine lv_bipush (v := (-2)) hx hb dX5_isle_9 (by decide) ?_
    refine lv_goto (tgt := 37) hx hb dX5_isle_11 (by decide) ?_
    refine lv_istore_n (lv' := [(3, .int (-2)), (0, .ref (r 0)), (1, .int q), (2, .int v)]) hx hb dX5_isle_37 rfl hl (by decide) rfl (fun ls hl => ?_)
    exact jn_38  (-2)  (by first | exact ((f2_a (by rw [uk_o c_6]; decide)).trans (uk_o c_6)).symm | exact ((f2_b (uk_i c_6)).trans (if_pos c_16)).symm | exact ((f2_b (uk_i c_6)).trans (if_neg c_16)).symm | exact absurd c_16 c_25 | exact absurd c_25 c_16)   _ _ hP (va_D.adr hD0 (mW_adE rfl)) hS ls (lv_sub hl [0, 1, 2, 3] rfl)

theorem okX5_hours : jok yX5_hours wsX5_hours cX5_hours 3 (some .int) 1 := ⟨⟨_, rfl⟩, by decide +kernel, by decide +kernel⟩
set_option maxHeartbeats 2000000 in
set_option maxRecDepth 100000 in
theorem qX5_hours (l : Launch) (D : va_G) (cI cB : ClassId) (r : Nat → Nat) (B : BayT) (M : MT) (v : Int32) (hI : bI_ B) (hbk : mbk_ M ≤ 8) : jMi D cI cB l yX5_hours wsX5_hours 7 [.ref (r 0), .int v] (mW cI r B M) (S := BayT × MT) (fun r u => (rh_ B v = 0 ∧ r = il_ (hs_ (tn_ v) B) ∧ u = (hs_ (tn_ v) B, kb_ M B)) ∨ (¬ rh_ B v = 0 ∧ r = rh_ B v ∧ u = (B, rfm_ M (rh_ B v)))) (fun u => mW cI r u.1 u.2) := by
  refine jMi.of (cc := cX5_hours) (maxL := 3) (ret := (some .int)) okX5_hours (Nat.le_of_ble_eq_true rfl) ?_
  intro p e s m below meth c ls A hx hb hr hts hown hlk hml hP hK hD hA hS hl
  replace hown : s.vm.findClass RX5 = some m.cls := hown
  replace hl : lv_has ls 3 [(0, .ref (r 0)), (1, .int v)] := hl
  have hD0 := hD
  have hn7 := hI.1
  have hinX5 : ∀ w ∈ wsX50, w ∈ wsX5_hours := by decide +kernel
  refine lv_iload_n hx hb dX5_hours_0 rfl (lv_at hl 1 rfl) ?_
  refine lv_iconst (v := 1) hx hb dX5_hours_1 (by decide) ?_
  refine lv_bipush (v := 99) hx hb dX5_hours_2 (by decide) ?_
  refine kSiS hx hb hml hown hts hK hP gX5_hours_X5_bound okX5_bound (qX5_bound l D cI cB v 1 99 ) [] rfl (by decide) hl.1 rfl rfl (Nat.le_of_ble_eq_true rfl) dX5_hours_4 (by decide) (fun r_1 hr_2 => ?_)
  replace hr_2 : r_1 = ob_ v 1 99 := hr_2
  subst r_1
  refine lv_istore_n (lv' := [(2, .int (ob_ v 1 99)), (0, .ref (r 0)), (1, .int v)]) hx hb dX5_hours_7 rfl hl (by decide) rfl (fun ls hl => ?_)
  have jn_23 : ∀  (x2_23 : Int32) , (x2_23 = rh_ B v) → ∀ (H : Heap) (locs : List Loc), va_P D vwCl (mW cI r B M) H → va_D A (mW cI r B M) → va_S A s.heap H locs → ∀ ls : Array Slot, lv_has ls 3 [(2, .int x2_23), (0, .ref (r 0)), (1, .int v)] → W p l e (jR 7) s m ([.ref (r 0), .int v] : List Value).toArray below meth c H locs 0 0 (MQ below (va_Qi (S := BayT × MT) (fun r u => (rh_ B v = 0 ∧ r = il_ (hs_ (tn_ v) B) ∧ u = (hs_ (tn_ v) B, kb_ M B)) ∨ (¬ rh_ B v = 0 ∧ r = rh_ B v ∧ u = (B, rfm_ M (rh_ B v)))) (fun u t => va_P D vwCl ((fun u => mW cI r u.1 u.2) u) t.heap) A) ([.ref (r 0), .int v] : List Value).toArray s 0 0 A) (F0 m 23 ls []) := by
      intro x2_23 hx2_23 H locs hP hD hS ls hl
      subst x2_23
      replace hl : lv_has ls 3 [(2, .int (rh_ B v)), (0, .ref (r 0)), (1, .int v)] := hl
      replace hP : va_P D vwCl (mW cI r B M) H := hP
      refine lv_iload_n hx hb dX5_hours_23 rfl (lv_at hl 0 rfl) ?_
      refine lv_if_eq (tgt := 33) hx hb dX5_hours_24 (by decide) (fun c_24 => ?_) (fun c_24 => ?_)
      · skip
        have w0 := c_24
        (try simp only [wS_, wSN_, wSNW_, wNW_, wTh_, wTr_, f2_0, nb_0, ob_0, uk_0, lo_0, hi_0] at w0)
        obtain ⟨v_, hv_, rfl⟩ := rh_k c_24
        replace hl : lv_has ls 3 [(2, .int (rh_ B (nI v_))), (0, .ref (r 0)), (1, .int (nI v_))] := hl
        refine lv_aload_n hx hb dX5_hours_33 rfl (lv_at hl 1 rfl) ?_
        refine kMvV hx hb hml hown hts hK hP (va_D.adr hD0 (mW_adE rfl)) hA hS gX5_hours_X5_keepsBack okX5_keepsBack (qX5_keepsBack l D cI cB r B M (by omega)) [0, 1, 2, 3, 4, 5, 6, 7, 8, 9, 10, 11, 12, 13, 14, 15] rfl (by decide) (fun _ => mW_adr _ _ _ _ _ _) rfl rfl rfl (by decide) hl.1 rfl rfl (Nat.le_of_ble_eq_true rfl) dX5_hours_34 (by decide) (fun u_4 H locs hw_5 hP hD hS => ?_)
        replace hw_5 : u_4 = (kb_ M B) := hw_5
        subst u_4
        replace hP : va_P D vwCl ([(r 0, .inr (5, [.ref (r 1), .ref (r 2), .ref (r 3), .ref (r 4), .ref (r 5), .ref (r 6), .int (nI (sn_ B)), .int (qt_ B), .int (il_ B), .int (pa_ B), .int (ho_ B), .int (dy_ B), .ref (r 13), .ref (r 14), .ref (r 15), .ref (r 16), .int (nI (mtn_ M)), .int (nI (mrd_ M)), .int (nI (msm_ M)), .ref (r 20), .int (mhi_ M), .int (1), .int (nI (mcu_ (kb_ M B))), .int (nI (mc8 (mbk_ M))), .ref (r 25), .ref (r 26), .int (mlw_ M), .int (mhg_ M), .int (msl_ M), .ref (r 30), .int (nI (mrm_ M)), .ref (r 32), .int (mlo_ M)])), (r 1, .inl (cI, 7, .inl (mrf_ M))), (r 2, .inl (cI, 7, .inl (kd_ B))), (r 3, .inl (cI, 7, .inl (fg_ B))), (r 4, .inl (cI, 7, .inl (pl_ B))), (r 5, .inl (cI, 7, .inl (pw_ B))), (r 6, .inl (cI, 7, .inl (jy_ B))), (r 13, .inl (cI, 96, .inl (mtp_ M))), (r 14, .inl (cI, 48, .inl (mlt_ M))), (r 15, .inl (cI, 48, .inl (mla_ M))), (r 16, .inl (cI, 144, .inl (mtd_ M))), (r 20, .inl (cI, 451, .inl (flatK (mkp_ (kb_ M B))))), (r 25, .inl (cI, 7, .inl (mof_ M))), (r 26, .inl (cI, 7, .inl (mfa_ M))), (r 30, .inl (cI, 12, .inl (mrw_ M))), (r 32, .inl (cI, 8, .inl (mhb_ M)))]) H := (va_P.m [true, true, true, true, true, true, true, true, true, true, true, true, true, true, true, true] [] hP)
        refine lv_aload_n hx hb dX5_hours_37 rfl (lv_at hl 1 rfl) ?_
        refine lv_iload_n hx hb dX5_hours_38 rfl (lv_at hl 2 rfl) ?_
        refine kMvV hx hb hml hown hts hK hP (va_D.adr hD0 (mW_adE rfl)) hA hS gX5_hours_X5_goes okX5_goes (qX5_goes l D cI cB r B (kb_ M B) v_ hI (by omega)) [0, 1, 2, 3, 4, 5, 6, 7, 8, 9, 10, 11, 12, 13, 14, 15] rfl (by decide) (fun _ => mW_adr _ _ _ _ _ _) rfl rfl rfl (by decide) hl.1 rfl rfl (Nat.le_of_ble_eq_true rfl) dX5_hours_39 (by decide) (fun u_7 H locs hw_8 hP hD hS => ?_)
        replace hw_8 : u_7 = hs_ v_ B := hw_8
        subst u_7
        replace hP : va_P D vwCl ([(r 0, .inr (5, [.ref (r 1), .ref (r 2), .ref (r 3), .ref (r 4), .ref (r 5), .ref (r 6), .int (nI (sn_ (hs_ v_ B))), .int (qt_ (hs_ v_ B)), .int (il_ (hs_ v_ B)), .int (pa_ (hs_ v_ B)), .int (ho_ (hs_ v_ B)), .int (dy_ (hs_ v_ B)), .ref (r 13), .ref (r 14), .ref (r 15), .ref (r 16), .int (nI (mtn_ M)), .int (nI (mrd_ M)), .int (nI (msm_ M)), .ref (r 20), .int (mhi_ M), .int (1), .int (nI (mcu_ (kb_ M B))), .int (nI (mc8 (mbk_ M))), .ref (r 25), .ref (r 26), .int (mlw_ M), .int (mhg_ M), .int (msl_ M), .ref (r 30), .int (nI (mrm_ M)), .ref (r 32), .int (mlo_ M)])), (r 1, .inl (cI, 7, .inl (mrf_ M))), (r 2, .inl (cI, 7, .inl (kd_ (hs_ v_ B)))), (r 3, .inl (cI, 7, .inl (fg_ (hs_ v_ B)))), (r 4, .inl (cI, 7, .inl (pl_ (hs_ v_ B)))), (r 5, .inl (cI, 7, .inl (pw_ (hs_ v_ B)))), (r 6, .inl (cI, 7, .inl (jy_ (hs_ v_ B)))), (r 13, .inl (cI, 96, .inl (mtp_ M))), (r 14, .inl (cI, 48, .inl (mlt_ M))), (r 15, .inl (cI, 48, .inl (mla_ M))), (r 16, .inl (cI, 144, .inl (mtd_ M))), (r 20, .inl (cI, 451, .inl (flatK (mkp_ (kb_ M B))))), (r 25, .inl (cI, 7, .inl (mof_ M))), (r 26, .inl (cI, 7, .inl (mfa_ M))), (r 30, .inl (cI, 12, .inl (mrw_ M))), (r 32, .inl (cI, 8, .inl (mhb_ M)))]) H := (va_P.m [true, true, true, true, true, true, true, true, true, true, true, true, true, true, true, true] [] hP)
        refine lv_aload_n hx hb dX5_hours_42 rfl (lv_at hl 1 rfl) ?_
        refine va_get (ci := 5) (C := RX5) (T := TX5) (N := 33) hx hb hts hinX5 hown hK.1 hP 0 rfl rfl 8 (by decide) (hts _ (List.mem_of_getElem? (i := 1) rfl)) (fun _ h9 => h9) rfl dX5_hours_43 ?_
        refine rMi hx hb hr hlk hS ((hs_ v_ B), (kb_ M B)) hP ?_ dX5_hours_46
        first | exact Or.inr ⟨c_24, rfl, rfl⟩ | (refine Or.inl ⟨c_24, ?_⟩; rw [tn_n (show v_ < 2147483648 by omega)]; exact ⟨rfl, rfl⟩)
      · skip
        refine lv_aload_n hx hb dX5_hours_27 rfl (lv_at hl 1 rfl) ?_
        refine lv_iload_n hx hb dX5_hours_28 rfl (lv_at hl 0 rfl) ?_
        refine kMiV hx hb hml hown hts hK hP (va_D.adr hD0 (mW_adE rfl)) hA hS gX5_hours_X5_no okX5_no (qX5_no l D cI cB r B M (rh_ B v) (rc0_n (by first | exact rc0_rs _ _ _ _ | exact rc0_rh _ _ | exact rc0_nb _ _ | exact rc0_f2 (rc0_nb _ _) (rc0_ob _ _ _) | exact rc0_f2 (rc0_uk _ _) (rc0_if (rc0_ob _ _ _) (rc0_ob _ _ _)) | exact rc0_f2 (rc0_ob _ _ _) (rc0_if (Or.inr (Or.inr (Or.inr (Or.inr (Or.inr rfl))))) (Or.inl rfl))) c_24)) [0, 1, 2, 3, 4, 5, 6, 7, 8, 9, 10, 11, 12, 13, 14, 15] rfl (by decide) (fun _ => mW_adr _ _ _ _ _ _) rfl rfl rfl (by decide) hl.1 rfl rfl (Nat.le_of_ble_eq_true rfl) dX5_hours_29 (by decide) (fun r_9 u_10 H locs hw_11 hP hD hS => ?_)
        replace hw_11 : r_9 = rh_ B v ∧ u_10 = (rfm_ M (rh_ B v)) := hw_11
        obtain ⟨hw_11a, hw_11b⟩ := hw_11
        subst r_9
        subst u_10
        replace hP : va_P D vwCl ([(r 0, .inr (5, [.ref (r 1), .ref (r 2), .ref (r 3), .ref (r 4), .ref (r 5), .ref (r 6), .int (nI (sn_ B)), .int (qt_ B), .int (il_ B), .int (pa_ B), .int (ho_ B), .int (dy_ B), .ref (r 13), .ref (r 14), .ref (r 15), .ref (r 16), .int (nI (mtn_ M)), .int (nI (mrd_ M)), .int (nI (msm_ M)), .ref (r 20), .int (mhi_ M), .int (mik_ M), .int (nI (mcu_ M)), .int (nI (mbk_ M)), .ref (r 25), .ref (r 26), .int (mlw_ M), .int (mhg_ M), .int (msl_ M), .ref (r 30), .int (nI (mrm_ M)), .ref (r 32), .int (mlo_ M)])), (r 1, .inl (cI, 7, .inl (rfx_ (mrf_ M) (rh_ B v)))), (r 2, .inl (cI, 7, .inl (kd_ B))), (r 3, .inl (cI, 7, .inl (fg_ B))), (r 4, .inl (cI, 7, .inl (pl_ B))), (r 5, .inl (cI, 7, .inl (pw_ B))), (r 6, .inl (cI, 7, .inl (jy_ B))), (r 13, .inl (cI, 96, .inl (mtp_ M))), (r 14, .inl (cI, 48, .inl (mlt_ M))), (r 15, .inl (cI, 48, .inl (mla_ M))), (r 16, .inl (cI, 144, .inl (mtd_ M))), (r 20, .inl (cI, 451, .inl (flatK (mkp_ M)))), (r 25, .inl (cI, 7, .inl (mof_ M))), (r 26, .inl (cI, 7, .inl (mfa_ M))), (r 30, .inl (cI, 12, .inl (mrw_ M))), (r 32, .inl (cI, 8, .inl (mhb_ M)))]) H := (va_P.m [true, true, true, true, true, true, true, true, true, true, true, true, true, true, true, true] [] hP)
        refine rMi hx hb hr hlk hS (B, (rfm_ M (rh_ B v))) hP ?_ dX5_hours_32
        first | exact Or.inr ⟨c_24, rfl, rfl⟩ | (refine Or.inl ⟨c_24, ?_⟩; rw [tn_n (show v_ < 2147483648 by omega)]; exact ⟨rfl, rfl⟩)
  refine lv_iload_n hx hb dX5_hours_8 rfl (lv_at hl 0 rfl) ?_
  refine lv_if_ne (tgt := 23) hx hb dX5_hours_9 (by decide) (fun c_9 => ?_) (fun c_9 => ?_)
  · skip
    exact jn_23  (ob_ v 1 99)  (by first | exact rh_n c_9 | exact c_9.trans (rh_e c_9 c_17) | exact rh_e2 c_9 c_17)   _ _ hP (va_D.adr hD0 (mW_adE rfl)) hS ls (lv_sub hl [0, 1, 2] rfl)
  · skip
    refine lv_aload_n hx hb dX5_hours_12 rfl (lv_at hl 1 rfl) ?_
    refine lv_iload_n hx hb dX5_hours_13 rfl (lv_at hl 2 rfl) ?_
    refine kSiV hx hb hml hown hts hK hP gX5_hours_X5_isLate okX5_isLate (qX5_isLate l D cI cB r B M v ) [0, 1, 2, 3, 4, 5, 6, 7, 8, 9, 10, 11, 12, 13, 14, 15] rfl rfl rfl rfl (by decide) hl.1 rfl rfl (Nat.le_of_ble_eq_true rfl) dX5_hours_14 (by decide) (fun r_12 hr_13 => ?_)
    replace hr_13 : r_12 = b1 (999 < dy_ B + (ho_ B + v) / 24) := hr_13
    subst r_12
    refine lv_if_eq (tgt := 23) hx hb dX5_hours_17 (by decide) (fun c_17 => ?_) (fun c_17 => ?_)
    · replace c_17 := b1_z c_17
      exact jn_23  (ob_ v 1 99)  (by first | exact rh_n c_9 | exact c_9.trans (rh_e c_9 c_17) | exact rh_e2 c_9 c_17)   _ _ hP (va_D.adr hD0 (mW_adE rfl)) hS ls (lv_sub hl [0, 1, 2] rfl)
    · replace c_17 := b1_n c_17
      refine lv_bipush (v := (-6)) hx hb dX5_hours_20 (by decide) ?_
      refine lv_istore_n (lv' := [(2, .int (-6)), (0, .ref (r 0)), (1, .int v)]) hx hb dX5_hours_22 rfl hl (by decide) rfl (fun ls hl => ?_)
      exact jn_23  (-6)  (by first | exact rh_n c_9 | exact c_9.trans (rh_e c_9 c_17) | exact rh_e2 c_9 c_17)   _ _ hP (va_D.adr hD0 (mW_adE rfl)) hS ls (lv_sub hl [0, 1, 2] rfl)

