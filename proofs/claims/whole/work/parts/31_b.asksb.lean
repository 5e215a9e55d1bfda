theorem okX5_isleOf : jok yX5_isleOf wsX5_isleOf cX5_isleOf 2 (some .int) 1 := ⟨⟨_, rfl⟩, by decide +kernel, by decide +kernel⟩
set_option maxHeartbeats 2000000 in
set_option maxRecDepth 100000 in
theorem qX5_isleOf (l : Launch) (D : va_G) (cI cB : ClassId) (r : Nat → Nat) (B : BayT) (M : MT) (q : Int32) (hI : bI_ B) : jMi D cI cB l yX5_isleOf wsX5_isleOf 2 [.ref (r 0), .int q] (mW cI r B M) (S := MT) (fun r u => r = (if uk_ q 2 = 0 then ioX_ B q else uk_ q 2) ∧ oQ_ M u (uk_ q 2)) (fun u => mW cI r B u) := by
  refine jMi.of (cc := cX5_isleOf) (maxL := 2) (ret := (some .int)) okX5_isleOf (Nat.le_of_ble_eq_true rfl) ?_
  intro p e s m below meth c ls A hx hb hr hts hown hlk hml hP hK hD hA hS hl
  replace hown : s.vm.findClass RX5 = some m.cls := hown
  replace hl : lv_has ls 2 [(0, .ref (r 0)), (1, .int q)] := hl
  have hD0 := hD
  have hn7 := hI.1
  have hinX5 : ∀ w ∈ wsX50, w ∈ wsX5_isleOf := by decide +kernel
  refine lv_iload_n hx hb dX5_isleOf_0 rfl (lv_at hl 1 rfl) ?_
  refine lv_if_ne (tgt := 11) hx hb dX5_isleOf_1 (by decide) (fun c_1 => ?_) (fun c_1 => ?_)
  · skip
    refine lv_iload_n hx hb dX5_isleOf_11 rfl (lv_at hl 1 rfl) ?_
    refine lv_iconst (v := 1) hx hb dX5_isleOf_12 (by decide) ?_
    refine lv_icmp_ne (tgt := 23) hx hb dX5_isleOf_13 (by decide) (fun c_13 => ?_) (fun c_13 => ?_)
    · skip
      refine lv_iload_n hx hb dX5_isleOf_23 rfl (lv_at hl 1 rfl) ?_
      refine lv_iconst (v := 2) hx hb dX5_isleOf_24 (by decide) ?_
      refine lv_icmp_ne (tgt := 35) hx hb dX5_isleOf_25 (by decide) (fun c_25 => ?_) (fun c_25 => ?_)
      · skip
        refine lv_aload_n hx hb dX5_isleOf_35 rfl (lv_at hl 0 rfl) ?_
        refine lv_bipush (v := (-2)) hx hb dX5_isleOf_36 (by decide) ?_
        refine kMiV hx hb hml hown hts hK hP (va_D.adr hD0 (mW_adE rfl)) hA hS gX5_isleOf_X5_no okX5_no (qX5_no l D cI cB r B M (-2) (Or.inr (Or.inl rfl))) [0, 1, 2, 3, 4, 5, 6, 7, 8, 9, 10, 11, 12, 13, 14, 15] rfl (by decide) (fun _ => mW_adr _ _ _ _ _ _) rfl rfl rfl (by decide) hl.1 rfl rfl (Nat.le_of_ble_eq_true rfl) dX5_isleOf_38 (by decide) (fun r_1 u_2 H locs hw_3 hP hD hS => ?_)
        replace hw_3 : r_1 = (-2) ∧ u_2 = (rfm_ M (-2)) := hw_3
        obtain ⟨hw_3a, hw_3b⟩ := hw_3
        subst r_1
        subst u_2
        replace hP : va_P D vwCl ([(r 0, .inr (5, [.ref (r 1), .ref (r 2), .ref (r 3), .ref (r 4), .ref (r 5), .ref (r 6), .int (nI (sn_ B)), .int (qt_ B), .int (il_ B), .int (pa_ B), .int (ho_ B), .int (dy_ B), .ref (r 13), .ref (r 14), .ref (r 15), .ref (r 16), .int (nI (mtn_ M)), .int (nI (mrd_ M)), .int (nI (msm_ M)), .ref (r 20), .int (mhi_ M), .int (mik_ M), .int (nI (mcu_ M)), .int (nI (mbk_ M)), .ref (r 25), .ref (r 26), .int (mlw_ M), .int (mhg_ M), .int (msl_ M), .ref (r 30), .int (nI (mrm_ M)), .ref (r 32), .int (mlo_ M)])), (r 1, .inl (cI, 7, .inl (rfx_ (mrf_ M) (-2)))), (r 2, .inl (cI, 7, .inl (kd_ B))), (r 3, .inl (cI, 7, .inl (fg_ B))), (r 4, .inl (cI, 7, .inl (pl_ B))), (r 5, .inl (cI, 7, .inl (pw_ B))), (r 6, .inl (cI, 7, .inl (jy_ B))), (r 13, .inl (cI, 96, .inl (mtp_ M))), (r 14, .inl (cI, 48, .inl (mlt_ M))), (r 15, .inl (cI, 48, .inl (mla_ M))), (r 16, .inl (cI, 144, .inl (mtd_ M))), (r 20, .inl (cI, 451, .inl (flatK (mkp_ M)))), (r 25, .inl (cI, 7, .inl (mof_ M))), (r 26, .inl (cI, 7, .inl (mfa_ M))), (r 30, .inl (cI, 12, .inl (mrw_ M))), (r 32, .inl (cI, 8, .inl (mhb_ M)))]) H := (va_P.m [true, true, true, true, true, true, true, true, true, true, true, true, true, true, true, true] [] hP)
        refine rMi hx hb hr hlk hS (rfm_ M (-2)) hP ?_ dX5_isleOf_41
        first | (have hW : uk_ q 2 = -2 := uk_3 c_1 c_13 c_25; rw [hW]; exact ⟨(if_neg (by decide)).symm, oQ_n _ _⟩) | (have hW : uk_ q 2 = 0 := (by first | (rw [c_1]; decide) | (rw [c_13]; decide) | (rw [c_25]; decide)); rw [hW]; exact ⟨by (rw [if_pos rfl]; unfold ioX_; first | (rw [if_pos c_1]; done) | (rw [if_neg c_1, if_pos c_13]; done) | (rw [if_neg c_1, if_neg c_13]; done)), oQ_0 rfl (by (first | exact (oN_mk (by assumption)).m | exact oM_.rf _ | exact (oN_pp _ _).m | exact (oN_fo _ _ _ _).m | assumption | (apply oN_.m; assumption) | exact oM_.tr (by assumption) (by assumption)))⟩)
      · skip
        refine lv_aload_n hx hb dX5_isleOf_28 rfl (lv_at hl 0 rfl) ?_
        refine kSiV hx hb hml hown hts hK hP gX5_isleOf_X5_holder okX5_holder (qX5_holder l D cI cB r B M (by show sn_ B ≤ 7; omega)) [0, 1, 2, 3, 4, 5, 6, 7, 8, 9, 10, 11, 12, 13, 14, 15] rfl rfl rfl rfl (by decide) hl.1 rfl rfl (Nat.le_of_ble_eq_true rfl) dX5_isleOf_29 (by decide) (fun r_4 hr_5 => ?_)
        replace hr_5 : r_4 = oI_ (ow_ B) := hr_5
        subst r_4
        refine lv_goto (tgt := 41) hx hb dX5_isleOf_32 (by decide) ?_
        refine rMi hx hb hr hlk hS M hP ?_ dX5_isleOf_41
        first | (have hW : uk_ q 2 = -2 := uk_3 c_1 c_13 c_25; rw [hW]; exact ⟨(if_neg (by decide)).symm, oQ_n _ _⟩) | (have hW : uk_ q 2 = 0 := (by first | (rw [c_1]; decide) | (rw [c_13]; decide) | (rw [c_25]; decide)); rw [hW]; exact ⟨by (rw [if_pos rfl]; unfold ioX_; first | (rw [if_pos c_1]; done) | (rw [if_neg c_1, if_pos c_13]; done) | (rw [if_neg c_1, if_neg c_13]; done)), oQ_0 rfl (by (first | exact (oN_mk (by assumption)).m | exact oM_.rf _ | exact (oN_pp _ _).m | exact (oN_fo _ _ _ _).m | assumption | (apply oN_.m; assumption) | exact oM_.tr (by assumption) (by assumption)))⟩)
    · skip
      refine lv_aload_n hx hb dX5_isleOf_16 rfl (lv_at hl 0 rfl) ?_
      refine va_get (ci := 5) (C := RX5) (T := TX5) (N := 33) hx hb hts hinX5 hown hK.1 hP 0 rfl rfl 9 (by decide) (hts _ (List.mem_of_getElem? (i := 2) rfl)) (fun _ h9 => h9) rfl dX5_isleOf_17 ?_
      refine lv_goto (tgt := 41) hx hb dX5_isleOf_20 (by decide) ?_
      refine rMi hx hb hr hlk hS M hP ?_ dX5_isleOf_41
      first | (have hW : uk_ q 2 = -2 := uk_3 c_1 c_13 c_25; rw [hW]; exact ⟨(if_neg (by decide)).symm, oQ_n _ _⟩) | (have hW : uk_ q 2 = 0 := (by first | (rw [c_1]; decide) | (rw [c_13]; decide) | (rw [c_25]; decide)); rw [hW]; exact ⟨by (rw [if_pos rfl]; unfold ioX_; first | (rw [if_pos c_1]; done) | (rw [if_neg c_1, if_pos c_13]; done) | (rw [if_neg c_1, if_neg c_13]; done)), oQ_0 rfl (by (first | exact (oN_mk (by assumption)).m | exact oM_.rf _ | exact (oN_pp _ _).m | exact (oN_fo _ _ _ _).m | assumption | (apply oN_.m; assumption) | exact oM_.tr (by assumption) (by assumption)))⟩)
  · skip
    refine lv_aload_n hx hb dX5_isleOf_4 rfl (lv_at hl 0 rfl) ?_
    refine va_get (ci := 5) (C := RX5) (T := TX5) (N := 33) hx hb hts hinX5 hown hK.1 hP 0 rfl rfl 8 (by decide) (hts _ (List.mem_of_getElem? (i := 1) rfl)) (fun _ h9 => h9) rfl dX5_isleOf_5 ?_
    refine lv_goto (tgt := 41) hx hb dX5_isleOf_8 (by decide) ?_
    refine rMi hx hb hr hlk hS M hP ?_ dX5_isleOf_41
    first | (have hW : uk_ q 2 = -2 := uk_3 c_1 c_13 c_25; rw [hW]; exact ⟨(if_neg (by decide)).symm, oQ_n _ _⟩) | (have hW : uk_ q 2 = 0 := (by first | (rw [c_1]; decide) | (rw [c_13]; decide) | (rw [c_25]; decide)); rw [hW]; exact ⟨by (rw [if_pos rfl]; unfold ioX_; first | (rw [if_pos c_1]; done) | (rw [if_neg c_1, if_pos c_13]; done) | (rw [if_neg c_1, if_neg c_13]; done)), oQ_0 rfl (by (first | exact (oN_mk (by assumption)).m | exact oM_.rf _ | exact (oN_pp _ _).m | exact (oN_fo _ _ _ _).m | assumption | (apply oN_.m; assumption) | exact oM_.tr (by assumption) (by assumption)))⟩)

theorem okX5_first : jok yX5_first wsX5_first cX5_first 2 (some .int) 1 := ⟨⟨_, rfl⟩, by decide +kernel, by decide +kernel⟩
set_option maxHeartbeats 2000000 in
set_option maxRecDepth 100000 in
theorem qX5_first (l : Launch) (D : va_G) (cI cB : ClassId) (r : Nat → Nat) (B : BayT) (M : MT) (a : Int32) (hI : bI_ B) : jMi D cI cB l yX5_first wsX5_first 7 [.ref (r 0), .int a] (mW cI r B M) (S := MT) (fun r u => r = (if wS_ (sn_ B) a = 0 then oI_ (fh_ B (tn_ a) 100 0) else wS_ (sn_ B) a) ∧ oQ_ M u (wS_ (sn_ B) a)) (fun u => mW cI r B u) := by
  refine jMi.of (cc := cX5_first) (maxL := 2) (ret := (some .int)) okX5_first (Nat.le_of_ble_eq_true rfl) ?_
  intro p e s m below meth c ls A hx hb hr hts hown hlk hml hP hK hD hA hS hl
  replace hown : s.vm.findClass RX5 = some m.cls := hown
  replace hl : lv_has ls 2 [(0, .ref (r 0)), (1, .int a)] := hl
  have hD0 := hD
  have hn7 := hI.1
  have hinX5 : ∀ w ∈ wsX50, w ∈ wsX5_first := by decide +kernel
  refine lv_aload_n hx hb dX5_first_0 rfl (lv_at hl 0 rfl) ?_
  refine lv_iload_n hx hb dX5_first_1 rfl (lv_at hl 1 rfl) ?_
  refine kSiV hx hb hml hown hts hK hP gX5_first_X5_isShore okX5_isShore (qX5_isShore l D cI cB r B M a (by show sn_ B ≤ 7; omega)) [0, 1, 2, 3, 4, 5, 6, 7, 8, 9, 10, 11, 12, 13, 14, 15] rfl rfl rfl rfl (by decide) hl.1 rfl rfl (Nat.le_of_ble_eq_true rfl) dX5_first_2 (by decide) (fun r_1 hr_2 => ?_)
  replace hr_2 : r_1 = b1 (0 ≤ a ∧ a < nI (sn_ B)) := hr_2
  subst r_1
  refine lv_if_ne (tgt := 14) hx hb dX5_first_5 (by decide) (fun c_5 => ?_) (fun c_5 => ?_)
  · replace c_5 := b1_n c_5
    obtain ⟨a_, ha_, rfl⟩ := pl_lt (n := sn_ B) (by omega) c_5
    replace hl : lv_has ls 2 [(0, .ref (r 0)), (1, .int (nI a_))] := hl
    refine lv_aload_n hx hb dX5_first_14 rfl (lv_at hl 0 rfl) ?_
    refine lv_iconst (v := 0) hx hb dX5_first_15 (by decide) ?_
    refine lv_bipush (v := 99) hx hb dX5_first_16 (by decide) ?_
    refine kMvV hx hb hml hown hts hK hP (va_D.adr hD0 (mW_adE rfl)) hA hS gX5_first_X5_findOften okX5_findOften (qX5_findOften l D cI cB r B M 0 99 hI (by decide) (by decide)) [0, 1, 2, 3, 4, 5, 6, 7, 8, 9, 10, 11, 12, 13, 14, 15] rfl (by decide) (fun _ => mW_adr _ _ _ _ _ _) rfl rfl rfl (by decide) hl.1 rfl rfl (Nat.le_of_ble_eq_true rfl) dX5_first_18 (by decide) (fun u_4 H locs hw_5 hP hD hS => ?_)
    replace hw_5 : u_4 = pu_ (fom_ M B 0 100) 2 := hw_5
    obtain ⟨N9, hN9⟩ : ∃ N : Nat, N = 100 := ⟨_, rfl⟩
    rw [← hN9] at hw_5
    have hNu_4 : oN_ M u_4 := by rw [hw_5]; exact oN_fo _ _ _ _
    have eMOF : mof_ u_4 = ofn_ B 0 N9 := fo_mof hw_5
    have eMFA : mfa_ u_4 = fan_ B N9 := fo_mfa hw_5
    have eMLW : mlw_ u_4 = lwn_ B N9 := fo_mlw hw_5
    have eMHG : mhg_ u_4 = hgn_ B N9 := fo_mhg hw_5
    have eMSL : msl_ u_4 = sln_ B N9 := fo_msl hw_5
    have eMHB : mhb_ u_4 = mhb_ M := fo_mhb hw_5
    replace hP : va_P D vwCl (mW cI r B u_4) H := (va_P.m [true, true, true, true, true, true, true, true, true, true, true, true, true, true, true, true] [] hP)
    refine lv_aload_n hx hb dX5_first_21 rfl (lv_at hl 0 rfl) ?_
    refine va_get (ci := 5) (C := RX5) (T := TX5) (N := 33) hx hb hts hinX5 hown hK.1 hP 0 rfl rfl 25 (by decide) (hts _ (List.mem_of_getElem? (i := 1) rfl)) (fun _ h9 => h9) rfl dX5_first_22 ?_
    refine lv_iload_n hx hb dX5_first_25 rfl (lv_at hl 1 rfl) ?_
    refine jald hx hb hK.1 hP 13 0 a_ rfl rfl rfl (by omega) (Nat.le_of_ble_eq_true rfl) dX5_first_26 ?_
    refine rMi hx hb hr hlk hS u_4 hP ?_ dX5_first_27
    first | (have hW : wS_ (sn_ B) _ = -1 := nb_o c_5; rw [hW]; exact ⟨(if_neg (by decide)).symm, oQ_n _ _⟩) | (have hW : wS_ (sn_ B) _ = 0 := nb_i c_5; rw [hW]; exact ⟨by (rw [if_pos rfl]; simp only [tn_n (show a_ < 2147483648 by omega)]; subst hN9; exact (congrFun eMFA a_).trans (fan_eq hI ha_)), oQ_0 rfl (by (first | exact (oN_mk (by assumption)).m | exact oM_.rf _ | exact (oN_pp _ _).m | exact (oN_fo _ _ _ _).m | assumption | (apply oN_.m; assumption) | exact oM_.tr (by assumption) (by assumption)))⟩)
  · replace c_5 := b1_z c_5
    refine lv_aload_n hx hb dX5_first_8 rfl (lv_at hl 0 rfl) ?_
    refine lv_iconst (v := (-1)) hx hb dX5_first_9 (by decide) ?_
    refine kMiV hx hb hml hown hts hK hP (va_D.adr hD0 (mW_adE rfl)) hA hS gX5_first_X5_no okX5_no (qX5_no l D cI cB r B M (-1) (Or.inl rfl)) [0, 1, 2, 3, 4, 5, 6, 7, 8, 9, 10, 11, 12, 13, 14, 15] rfl (by decide) (fun _ => mW_adr _ _ _ _ _ _) rfl rfl rfl (by decide) hl.1 rfl rfl (Nat.le_of_ble_eq_true rfl) dX5_first_10 (by decide) (fun r_6 u_7 H locs hw_8 hP hD hS => ?_)
    replace hw_8 : r_6 = (-1) ∧ u_7 = (rfm_ M (-1)) := hw_8
    obtain ⟨hw_8a, hw_8b⟩ := hw_8
    subst r_6
    subst u_7
    replace hP : va_P D vwCl ([(r 0, .inr (5, [.ref (r 1), .ref (r 2), .ref (r 3), .ref (r 4), .ref (r 5), .ref (r 6), .int (nI (sn_ B)), .int (qt_ B), .int (il_ B), .int (pa_ B), .int (ho_ B), .int (dy_ B), .ref (r 13), .ref (r 14), .ref (r 15), .ref (r 16), .int (nI (mtn_ M)), .int (nI (mrd_ M)), .int (nI (msm_ M)), .ref (r 20), .int (mhi_ M), .int (mik_ M), .int (nI (mcu_ M)), .int (nI (mbk_ M)), .ref (r 25), .ref (r 26), .int (mlw_ M), .int (mhg_ M), .int (msl_ M), .ref (r 30), .int (nI (mrm_ M)), .ref (r 32), .int (mlo_ M)])), (r 1, .inl (cI, 7, .inl (rfx_ (mrf_ M) (-1)))), (r 2, .inl (cI, 7, .inl (kd_ B))), (r 3, .inl (cI, 7, .inl (fg_ B))), (r 4, .inl (cI, 7, .inl (pl_ B))), (r 5, .inl (cI, 7, .inl (pw_ B))), (r 6, .inl (cI, 7, .inl (jy_ B))), (r 13, .inl (cI, 96, .inl (mtp_ M))), (r 14, .inl (cI, 48, .inl (mlt_ M))), (r 15, .inl (cI, 48, .inl (mla_ M))), (r 16, .inl (cI, 144, .inl (mtd_ M))), (r 20, .inl (cI, 451, .inl (flatK (mkp_ M)))), (r 25, .inl (cI, 7, .inl (mof_ M))), (r 26, .inl (cI, 7, .inl (mfa_ M))), (r 30, .inl (cI, 12, .inl (mrw_ M))), (r 32, .inl (cI, 8, .inl (mhb_ M)))]) H := (va_P.m [true, true, true, true, true, true, true, true, true, true, true, true, true, true, true, true] [] hP)
    refine rMi hx hb hr hlk hS (rfm_ M (-1)) hP ?_ dX5_first_13
    first | (have hW : wS_ (sn_ B) _ = -1 := nb_o c_5; rw [hW]; exact ⟨(if_neg (by decide)).symm, oQ_n _ _⟩) | (have hW : wS_ (sn_ B) _ = 0 := nb_i c_5; rw [hW]; exact ⟨by (rw [if_pos rfl]; simp only [tn_n (show a_ < 2147483648 by omega)]; subst hN9; exact (congrFun eMFA a_).trans (fan_eq hI ha_)), oQ_0 rfl (by (first | exact (oN_mk (by assumption)).m | exact oM_.rf _ | exact (oN_pp _ _).m | exact (oN_fo _ _ _ _).m | assumption | (apply oN_.m; assumption) | exact oM_.tr (by assumption) (by assumption)))⟩)

theorem okX5_most : jok yX5_most wsX5_most cX5_most 7 (some .int) 2 := ⟨⟨_, rfl⟩, by decide +kernel, by decide +kernel⟩
set_option maxHeartbeats 2000000 in
set_option maxRecDepth 100000 in
theorem qX5_most (l : Launch) (D : va_G) (cI cB : ClassId) (r : Nat → Nat) (B : BayT) (M : MT) (v : Int32) (q : Int32) (hI : bI_ B) : jMi D cI cB l yX5_most wsX5_most 7 [.ref (r 0), .int v, .int q] (mW cI r B M) (S := MT) (fun r u => r = (if wNW_ v q = 0 then moX_ B (tn_ v) q else wNW_ v q) ∧ oQ_ M u (wNW_ v q)) (fun u => mW cI r B u) := by
  refine jMi.of (cc := cX5_most) (maxL := 7) (ret := (some .int)) okX5_most (Nat.le_of_ble_eq_true rfl) ?_
  intro p e s m below meth c ls A hx hb hr hts hown hlk hml hP hK hD hA hS hl
  replace hown : s.vm.findClass RX5 = some m.cls := hown
  replace hl : lv_has ls 7 [(0, .ref (r 0)), (1, .int v), (2, .int q)] := hl
  have hD0 := hD
  have hn7 := hI.1
  have hinX5 : ∀ w ∈ wsX50, w ∈ wsX5_most := by decide +kernel
  refine lv_iload_n hx hb dX5_most_0 rfl (lv_at hl 1 rfl) ?_
  refine kSiS hx hb hml hown hts hK hP gX5_most_X5_notHours okX5_notHours (qX5_notHours l D cI cB v ) [] rfl (by decide) hl.1 rfl rfl (Nat.le_of_ble_eq_true rfl) dX5_most_1 (by decide) (fun r_1 hr_2 => ?_)
  replace hr_2 : r_1 = ob_ v 0 99 := hr_2
  subst r_1
  refine lv_istore_n (lv' := [(3, .int (ob_ v 0 99)), (0, .ref (r 0)), (1, .int v), (2, .int q)]) hx hb dX5_most_4 rfl hl (by decide) rfl (fun ls hl => ?_)
  have jn_21 : ∀  (x3_21 : Int32) , (x3_21 = wNW_ v q) → ∀ (H : Heap) (locs : List Loc), va_P D vwCl (mW cI r B M) H → va_D A (mW cI r B M) → va_S A s.heap H locs → ∀ ls : Array Slot, lv_has ls 7 [(3, .int x3_21), (0, .ref (r 0)), (1, .int v), (2, .int q)] → W p l e (jR 7) s m ([.ref (r 0), .int v, .int q] : List Value).toArray below meth c H locs 0 0 (MQ below (va_Qi (S := MT) (fun r u => r = (if wNW_ v q = 0 then moX_ B (tn_ v) q else wNW_ v q) ∧ oQ_ M u (wNW_ v q)) (fun u t => va_P D vwCl ((fun u => mW cI r B u) u) t.heap) A) ([.ref (r 0), .int v, .int q] : List Value).toArray s 0 0 A) (F0 m 21 ls []) := by
      intro x3_21 hx3_21 H locs hP hD hS ls hl
      subst x3_21
      replace hl : lv_has ls 7 [(3, .int (wNW_ v q)), (0, .ref (r 0)), (1, .int v), (2, .int q)] := hl
      replace hP : va_P D vwCl (mW cI r B M) H := hP
      refine lv_iload_n hx hb dX5_most_21 rfl (lv_at hl 0 rfl) ?_
      refine lv_if_eq (tgt := 31) hx hb dX5_most_22 (by decide) (fun c_22 => ?_) (fun c_22 => ?_)
      · skip
        have w0 := c_22
        simp only [wS_, wSN_, wSNW_, wNW_, wTh_, wTr_, f2_0, nb_0, ob_0, uk_0, lo_0, hi_0] at w0
        obtain ⟨v_, hv_, rfl⟩ := pl_le (n := 99) (by decide) w0.1
        replace hl : lv_has ls 7 [(3, .int (wNW_ (nI v_) q)), (0, .ref (r 0)), (1, .int (nI v_)), (2, .int q)] := hl
        refine lv_aload_n hx hb dX5_most_31 rfl (lv_at hl 1 rfl) ?_
        refine lv_iconst (v := 1) hx hb dX5_most_32 (by decide) ?_
        refine lv_iload_n hx hb dX5_most_33 rfl (lv_at hl 2 rfl) ?_
        refine kMvV hx hb hml hown hts hK hP (va_D.adr hD0 (mW_adE rfl)) hA hS gX5_most_X5_findOften okX5_findOften (qX5_findOften l D cI cB r B M 1 v_ hI (by decide) (by omega)) [0, 1, 2, 3, 4, 5, 6, 7, 8, 9, 10, 11, 12, 13, 14, 15] rfl (by decide) (fun _ => mW_adr _ _ _ _ _ _) rfl rfl rfl (by decide) hl.1 rfl rfl (Nat.le_of_ble_eq_true rfl) dX5_most_34 (by decide) (fun u_4 H locs hw_5 hP hD hS => ?_)
        replace hw_5 : u_4 = pu_ (fom_ M B 1 (v_ + 1)) 2 := hw_5
        have hNu_4 : oN_ M u_4 := by rw [hw_5]; exact oN_fo _ _ _ _
        have eMOF : mof_ u_4 = ofn_ B 1 (v_ + 1) := fo_mof hw_5
        have eMFA : mfa_ u_4 = fan_ B (v_ + 1) := fo_mfa hw_5
        have eMLW : mlw_ u_4 = lwn_ B (v_ + 1) := fo_mlw hw_5
        have eMHG : mhg_ u_4 = hgn_ B (v_ + 1) := fo_mhg hw_5
        have eMSL : msl_ u_4 = sln_ B (v_ + 1) := fo_msl hw_5
        have eMHB : mhb_ u_4 = mhb_ M := fo_mhb hw_5
        replace hP : va_P D vwCl (mW cI r B u_4) H := (va_P.m [true, true, true, true, true, true, true, true, true, true, true, true, true, true, true, true] [] hP)
        refine lv_bipush (v := (-9)) hx hb dX5_most_37 (by decide) ?_
        refine lv_istore (lv' := [(4, .int (-9)), (3, .int (wNW_ (nI v_) q)), (0, .ref (r 0)), (1, .int (nI v_)), (2, .int q)]) hx hb dX5_most_39 hl (by decide) rfl (fun ls hl => ?_)
        refine lv_iconst (v := 0) hx hb dX5_most_41 (by decide) ?_
        refine lv_istore (lv' := [(5, .int 0), (4, .int (-9)), (3, .int (wNW_ (nI v_) q)), (0, .ref (r 0)), (1, .int (nI v_)), (2, .int q)]) hx hb dX5_most_42 hl (by decide) rfl (fun ls hl => ?_)
        refine lv_iconst (v := 0) hx hb dX5_most_44 (by decide) ?_
        refine lv_istore (lv' := [(6, .int 0), (5, .int 0), (4, .int (-9)), (3, .int (wNW_ (nI v_) q)), (0, .ref (r 0)), (1, .int (nI v_)), (2, .int q)]) hx hb dX5_most_45 hl (by decide) rfl (fun ls hl => ?_)
        have lp_47 : ∀ (fu_47 : Nat) (i : Nat) (x4_47 : Int32) (x5_47 : Int32) (x6_47 : Int32) , (x4_47 = oI_ (bs_ (fun j => tc_ B j v_) 0 i).1) → (x5_47 = (bs_ (fun j => tc_ B j v_) 0 i).2) → (x6_47 = nI i) → (i ≤ sn_ B) → sn_ B - i < fu_47 → ∀ (H : Heap) (locs : List Loc), va_P D vwCl (mW cI r B u_4) H → va_D A (mW cI r B u_4) → va_S A s.heap H locs → ∀ ls : Array Slot, lv_has ls 7 [(6, .int x6_47), (5, .int x5_47), (4, .int x4_47), (3, .int (wNW_ (nI v_) q)), (0, .ref (r 0)), (1, .int (nI v_)), (2, .int q)] → W p l e (jR 7) s m ([.ref (r 0), .int (nI v_), .int q] : List Value).toArray below meth c H locs 0 0 (MQ below (va_Qi (S := MT) (fun r u => r = (if wNW_ (nI v_) q = 0 then moX_ B (tn_ (nI v_)) q else wNW_ (nI v_) q) ∧ oQ_ M u (wNW_ (nI v_) q)) (fun u t => va_P D vwCl ((fun u => mW cI r B u) u) t.heap) A) ([.ref (r 0), .int (nI v_), .int q] : List Value).toArray s 0 0 A) (F0 m 47 ls []) := by
          intro fu_47
          induction fu_47 with
          | zero => intro i x4_47 x5_47 x6_47 hx4_47 hx5_47 hx6_47 hi hfu; exact absurd hfu (Nat.not_lt_zero _)
          | succ fu_47 ih_47 =>
            intro i x4_47 x5_47 x6_47 hx4_47 hx5_47 hx6_47 hi hfu_47 H locs hP hD hS ls hl
            subst x4_47
            subst x5_47
            subst x6_47
            replace hl : lv_has ls 7 [(6, .int (nI i)), (5, .int ((bs_ (fun j => tc_ B j v_) 0 i).2)), (4, .int (oI_ (bs_ (fun j => tc_ B j v_) 0 i).1)), (3, .int (wNW_ (nI v_) q)), (0, .ref (r 0)), (1, .int (nI v_)), (2, .int q)] := hl
            replace hP : va_P D vwCl (mW cI r B u_4) H := hP
            refine lv_iload hx hb dX5_most_47 (lv_at hl 0 rfl) ?_
            refine lv_aload_n hx hb dX5_most_49 rfl (lv_at hl 4 rfl) ?_
            refine va_get (ci := 5) (C := RX5) (T := TX5) (N := 33) hx hb hts hinX5 hown hK.1 hP 0 rfl rfl 6 (by decide) (hts _ (List.mem_of_getElem? (i := 1) rfl)) (fun _ h9 => h9) rfl dX5_most_50 ?_
            refine lv_icmp_ge (tgt := 90) hx hb dX5_most_53 (by decide) (fun c_53 => ?_) (fun c_53 => ?_)
            · replace c_53 : nI (sn_ B) ≤ nI i := c_53
              rw [jle (by omega) (by omega)] at c_53
              refine lv_iload_n hx hb dX5_most_90 rfl (lv_at hl 6 rfl) ?_
              refine lv_if_ne (tgt := 99) hx hb dX5_most_91 (by decide) (fun c_91 => ?_) (fun c_91 => ?_)
              · skip
                refine lv_iload hx hb dX5_most_99 (lv_at hl 1 rfl) ?_
                refine rMi hx hb hr hlk hS u_4 hP ?_ dX5_most_101
                first | exact ⟨(if_neg c_22).symm, oQ_n _ _⟩ | exact ⟨by (rw [if_pos c_22]; simp only [tn_n (show v_ < 2147483648 by omega)]; rw [moX_eq, show i = sn_ B by omega]; first | (rw [if_pos c_91]; done) | (rw [if_neg c_91]; done) | (rw [if_pos c_91]; rfl) | (rw [if_neg c_91]; rfl)), oQ_0 c_22 (by (first | exact (oN_mk (by assumption)).m | exact oM_.rf _ | exact (oN_pp _ _).m | exact (oN_fo _ _ _ _).m | assumption | (apply oN_.m; assumption) | exact oM_.tr (by assumption) (by assumption)))⟩
              · skip
                refine lv_iload hx hb dX5_most_94 (lv_at hl 2 rfl) ?_
                refine lv_goto (tgt := 101) hx hb dX5_most_96 (by decide) ?_
                refine rMi hx hb hr hlk hS u_4 hP ?_ dX5_most_101
                first | exact ⟨(if_neg c_22).symm, oQ_n _ _⟩ | exact ⟨by (rw [if_pos c_22]; simp only [tn_n (show v_ < 2147483648 by omega)]; rw [moX_eq, show i = sn_ B by omega]; first | (rw [if_pos c_91]; done) | (rw [if_neg c_91]; done) | (rw [if_pos c_91]; rfl) | (rw [if_neg c_91]; rfl)), oQ_0 c_22 (by (first | exact (oN_mk (by assumption)).m | exact oM_.rf _ | exact (oN_pp _ _).m | exact (oN_fo _ _ _ _).m | assumption | (apply oN_.m; assumption) | exact oM_.tr (by assumption) (by assumption)))⟩
            · replace c_53 : ¬ nI (sn_ B) ≤ nI i := c_53
              rw [jle (by omega) (by omega)] at c_53
              refine lv_aload_n hx hb dX5_most_56 rfl (lv_at hl 4 rfl) ?_
              refine va_get (ci := 5) (C := RX5) (T := TX5) (N := 33) hx hb hts hinX5 hown hK.1 hP 0 rfl rfl 24 (by decide) (hts _ (List.mem_of_getElem? (i := 2) rfl)) (fun _ h9 => h9) rfl dX5_most_57 ?_
              refine lv_iload hx hb dX5_most_60 (lv_at hl 0 rfl) ?_
              refine jald hx hb hK.1 hP 12 0 i rfl rfl rfl (by omega) (Nat.le_of_ble_eq_true rfl) dX5_most_62 ?_
              refine sti (x := (mof_ u_4) i) (y := tc_ B i v_) ((congrFun eMOF i).trans (ofn_tc hI (by omega) _)) ?_
              refine lv_iload hx hb dX5_most_63 (lv_at hl 1 rfl) ?_
              refine lv_icmp_gt (tgt := 71) hx hb dX5_most_65 (by decide) (fun c_65 => ?_) (fun c_65 => ?_)
              · have d_65 := Int32.not_le.mpr c_65
                refine lv_iload hx hb dX5_most_71 (lv_at hl 0 rfl) ?_
                refine lv_istore (lv' := [(4, .int (nI i)), (6, .int (nI i)), (5, .int ((bs_ (fun j => tc_ B j v_) 0 i).2)), (3, .int (wNW_ (nI v_) q)), (0, .ref (r 0)), (1, .int (nI v_)), (2, .int q)]) hx hb dX5_most_73 hl (by decide) rfl (fun ls hl => ?_)
                refine lv_aload_n hx hb dX5_most_75 rfl (lv_at hl 4 rfl) ?_
                refine va_get (ci := 5) (C := RX5) (T := TX5) (N := 33) hx hb hts hinX5 hown hK.1 hP 0 rfl rfl 24 (by decide) (hts _ (List.mem_of_getElem? (i := 2) rfl)) (fun _ h9 => h9) rfl dX5_most_76 ?_
                refine lv_iload hx hb dX5_most_79 (lv_at hl 1 rfl) ?_
                refine jald hx hb hK.1 hP 12 0 i rfl rfl rfl (by omega) (Nat.le_of_ble_eq_true rfl) dX5_most_81 ?_
                refine sti (x := (mof_ u_4) i) (y := tc_ B i v_) ((congrFun eMOF i).trans (ofn_tc hI (by omega) _)) ?_
                refine lv_istore (lv' := [(5, .int (tc_ B i v_)), (4, .int (nI i)), (6, .int (nI i)), (3, .int (wNW_ (nI v_) q)), (0, .ref (r 0)), (1, .int (nI v_)), (2, .int q)]) hx hb dX5_most_82 hl (by decide) rfl (fun ls hl => ?_)
                refine lv_iinc (v := (nI i) + 1) (lv' := [(6, .int ((nI i) + 1)), (5, .int (tc_ B i v_)), (4, .int (nI i)), (3, .int (wNW_ (nI v_) q)), (0, .ref (r 0)), (1, .int (nI v_)), (2, .int q)]) hx hb dX5_most_84 hl (k := 2) rfl (by first | rfl | decide) (by decide) rfl (fun ls hl => ?_)
                refine lv_goto (tgt := 47) hx hb dX5_most_87 (by decide) ?_
                exact ih_47 (i + 1) (nI i) (tc_ B i v_) ((nI i) + 1)  (by first | exact bs_o1 (f := fun j => tc_ B j v_) rfl d_65 | exact bs_o2 (f := fun j => tc_ B j v_) rfl d_65) (by first | exact bs_m1 (f := fun j => tc_ B j v_) rfl d_65 | exact bs_m2 (f := fun j => tc_ B j v_) rfl d_65) (by first | rfl | exact nI_1 _) (by omega) (by omega) _ _ hP (va_D.adr hD0 (mW_adE rfl)) hS ls (lv_sub hl [0, 1, 2, 3, 4, 5, 6] rfl)
              · have d_65 := Int32.not_lt.mp c_65
                refine lv_goto (tgt := 84) hx hb dX5_most_68 (by decide) ?_
                refine lv_iinc (v := (nI i) + 1) (lv' := [(6, .int ((nI i) + 1)), (5, .int ((bs_ (fun j => tc_ B j v_) 0 i).2)), (4, .int (oI_ (bs_ (fun j => tc_ B j v_) 0 i).1)), (3, .int (wNW_ (nI v_) q)), (0, .ref (r 0)), (1, .int (nI v_)), (2, .int q)]) hx hb dX5_most_84 hl (k := 0) rfl (by first | rfl | decide) (by decide) rfl (fun ls hl => ?_)
                refine lv_goto (tgt := 47) hx hb dX5_most_87 (by decide) ?_
                exact ih_47 (i + 1) (oI_ (bs_ (fun j => tc_ B j v_) 0 i).1) ((bs_ (fun j => tc_ B j v_) 0 i).2) ((nI i) + 1)  (by first | exact bs_o1 (f := fun j => tc_ B j v_) rfl d_65 | exact bs_o2 (f := fun j => tc_ B j v_) rfl d_65) (by first | exact bs_m1 (f := fun j => tc_ B j v_) rfl d_65 | exact bs_m2 (f := fun j => tc_ B j v_) rfl d_65) (by first | rfl | exact nI_1 _) (by omega) (by omega) _ _ hP (va_D.adr hD0 (mW_adE rfl)) hS ls (lv_sub hl [0, 1, 2, 3, 4, 5, 6] rfl)
        exact lp_47 ((sn_ B) + 1) 0 (-9) 0 0  (rfl) (rfl) (by first | rfl | exact nI_0.symm) (by omega) (by omega) _ _ hP (va_D.adr hD0 (mW_adE rfl)) hS ls (lv_sub hl [0, 1, 2, 3, 4, 5, 6] rfl)
      · skip
        refine lv_aload_n hx hb dX5_most_25 rfl (lv_at hl 1 rfl) ?_
        refine lv_iload_n hx hb dX5_most_26 rfl (lv_at hl 0 rfl) ?_
        refine kMiV hx hb hml hown hts hK hP (va_D.adr hD0 (mW_adE rfl)) hA hS gX5_most_X5_no okX5_no (qX5_no l D cI cB r B M (wNW_ v q) (rc0_n (by first | exact rc0_wS _ _ | exact rc0_wSN _ _ _ | exact rc0_wSNW _ _ _ _ | exact rc0_wNW _ _ | exact rc0_wTh _ _ _ _ _ | exact rc0_wTr _ _ _ _ | exact rc0_nb _ _ | exact rc0_uk _ _ | exact rc0_ob _ _ _ | exact rc0_f2 (rc0_nb _ _) (rc0_nb _ _) | exact rc0_f2 (rc0_nb _ _) (rc0_uk _ _) | exact rc0_f2 (rc0_ob _ _ _) (rc0_uk _ _) | exact rc0_f2 (rc0_uk _ _) (rc0_f2 (rc0_uk _ _) (rc0_ob _ _ _))) c_22)) [0, 1, 2, 3, 4, 5, 6, 7, 8, 9, 10, 11, 12, 13, 14, 15] rfl (by decide) (fun _ => mW_adr _ _ _ _ _ _) rfl rfl rfl (by decide) hl.1 rfl rfl (Nat.le_of_ble_eq_true rfl) dX5_most_27 (by decide) (fun r_6 u_7 H locs hw_8 hP hD hS => ?_)
        replace hw_8 : r_6 = wNW_ v q ∧ u_7 = (rfm_ M (wNW_ v q)) := hw_8
        obtain ⟨hw_8a, hw_8b⟩ := hw_8
        subst r_6
        subst u_7
        replace hP : va_P D vwCl ([(r 0, .inr (5, [.ref (r 1), .ref (r 2), .ref (r 3), .ref (r 4), .ref (r 5), .ref (r 6), .int (nI (sn_ B)), .int (qt_ B), .int (il_ B), .int (pa_ B), .int (ho_ B), .int (dy_ B), .ref (r 13), .ref (r 14), .ref (r 15), .ref (r 16), .int (nI (mtn_ M)), .int (nI (mrd_ M)), .int (nI (msm_ M)), .ref (r 20), .int (mhi_ M), .int (mik_ M), .int (nI (mcu_ M)), .int (nI (mbk_ M)), .ref (r 25), .ref (r 26), .int (mlw_ M), .int (mhg_ M), .int (msl_ M), .ref (r 30), .int (nI (mrm_ M)), .ref (r 32), .int (mlo_ M)])), (r 1, .inl (cI, 7, .inl (rfx_ (mrf_ M) (wNW_ v q)))), (r 2, .inl (cI, 7, .inl (kd_ B))), (r 3, .inl (cI, 7, .inl (fg_ B))), (r 4, .inl (cI, 7, .inl (pl_ B))), (r 5, .inl (cI, 7, .inl (pw_ B))), (r 6, .inl (cI, 7, .inl (jy_ B))), (r 13, .inl (cI, 96, .inl (mtp_ M))), (r 14, .inl (cI, 48, .inl (mlt_ M))), (r 15, .inl (cI, 48, .inl (mla_ M))), (r 16, .inl (cI, 144, .inl (mtd_ M))), (r 20, .inl (cI, 451, .inl (flatK (mkp_ M)))), (r 25, .inl (cI, 7, .inl (mof_ M))), (r 26, .inl (cI, 7, .inl (mfa_ M))), (r 30, .inl (cI, 12, .inl (mrw_ M))), (r 32, .inl (cI, 8, .inl (mhb_ M)))]) H := (va_P.m [true, true, true, true, true, true, true, true, true, true, true, true, true, true, true, true] [] hP)
        refine rMi hx hb hr hlk hS (rfm_ M (wNW_ v q)) hP ?_ dX5_most_30
        first | exact ⟨(if_neg c_22).symm, oQ_n _ _⟩ | exact ⟨by (rw [if_pos c_22]; simp only [tn_n (show v_ < 2147483648 by omega)]; rw [moX_eq, show i = sn_ B by omega]; first | (rw [if_pos c_91]; done) | (rw [if_neg c_91]; done) | (rw [if_pos c_91]; rfl) | (rw [if_neg c_91]; rfl)), oQ_0 c_22 (by (first | exact (oN_mk (by assumption)).m | exact oM_.rf _ | exact (oN_pp _ _).m | exact (oN_fo _ _ _ _).m | assumption | (apply oN_.m; assumption) | exact oM_.tr (by assumption) (by assumption)))⟩
  refine lv_iload_n hx hb dX5_most_5 rfl (lv_at hl 0 rfl) ?_
  refine lv_if_ne (tgt := 21) hx hb dX5_most_6 (by decide) (fun c_6 => ?_) (fun c_6 => ?_)
  · skip
    exact jn_21  (ob_ v 0 99)  (by first | exact (f2_a c_6).symm | exact c_6.trans ((f2_b c_6).trans (uk_i c_15)).symm | exact ((f2_b c_6).trans (uk_o c_15)).symm)   _ _ hP (va_D.adr hD0 (mW_adE rfl)) hS ls (lv_sub hl [0, 1, 2, 3] rfl)
  · skip
    refine lv_iload_n hx hb dX5_most_9 rfl (lv_at hl 3 rfl) ?_
    refine lv_iconst (v := 0) hx hb dX5_most_10 (by decide) ?_
    refine lv_iconst (v := 1) hx hb dX5_most_11 (by decide) ?_
    refine kSiS hx hb hml hown hts hK hP gX5_most_X5_isIn okX5_isIn (qX5_isIn l D cI cB q 0 1 ) [] rfl (by decide) hl.1 rfl rfl (Nat.le_of_ble_eq_true rfl) dX5_most_12 (by decide) (fun r_9 hr_10 => ?_)
    replace hr_10 : r_9 = b1 (0 ≤ q ∧ q ≤ 1) := hr_10
    subst r_9
    refine lv_if_ne (tgt := 21) hx hb dX5_most_15 (by decide) (fun c_15 => ?_) (fun c_15 => ?_)
    · replace c_15 := b1_n c_15
      exact jn_21  (ob_ v 0 99)  (by first | exact (f2_a c_6).symm | exact c_6.trans ((f2_b c_6).trans (uk_i c_15)).symm | exact ((f2_b c_6).trans (uk_o c_15)).symm)   _ _ hP (va_D.adr hD0 (mW_adE rfl)) hS ls (lv_sub hl [0, 1, 2, 3] rfl)
    · replace c_15 := b1_z c_15
      refine lv_bipush (v := (-2)) hx hb dX5_most_18 (by decide) ?_
      refine lv_istore_n (lv' := [(3, .int (-2)), (0, .ref (r 0)), (1, .int v), (2, .int q)]) hx hb dX5_most_20 rfl hl (by decide) rfl (fun ls hl => ?_)
      exact jn_21  (-2)  (by first | exact (f2_a c_6).symm | exact c_6.trans ((f2_b c_6).trans (uk_i c_15)).symm | exact ((f2_b c_6).trans (uk_o c_15)).symm)   _ _ hP (va_D.adr hD0 (mW_adE rfl)) hS ls (lv_sub hl [0, 1, 2, 3] rfl)

theorem okX5_farthest : jok yX5_farthest wsX5_farthest cX5_farthest 4 (some .int) 2 := ⟨⟨_, rfl⟩, by decide +kernel, by decide +kernel⟩
set_option maxHeartbeats 2000000 in
set_option maxRecDepth 100000 in
theorem qX5_farthest (l : Launch) (D : va_G) (cI cB : ClassId) (r : Nat → Nat) (B : BayT) (M : MT) (v : Int32) (q : Int32) (hI : bI_ B) : jMi D cI cB l yX5_farthest wsX5_farthest 7 [.ref (r 0), .int v, .int q] (mW cI r B M) (S := MT) (fun r u => r = (if wNW_ v q = 0 then (if q = 0 then lp_ B (tn_ v) else gp_ B (tn_ v)) else wNW_ v q) ∧ oQ_ M u (wNW_ v q)) (fun u => mW cI r B u) := by
  refine jMi.of (cc := cX5_farthest) (maxL := 4) (ret := (some .int)) okX5_farthest (Nat.le_of_ble_eq_true rfl) ?_
  intro p e s m below meth c ls A hx hb hr hts hown hlk hml hP hK hD hA hS hl
  replace hown : s.vm.findClass RX5 = some m.cls := hown
  replace hl : lv_has ls 4 [(0, .ref (r 0)), (1, .int v), (2, .int q)] := hl
  have hD0 := hD
  have hn7 := hI.1
  have hinX5 : ∀ w ∈ wsX50, w ∈ wsX5_farthest := by decide +kernel
  refine lv_iload_n hx hb dX5_farthest_0 rfl (lv_at hl 1 rfl) ?_
  refine kSiS hx hb hml hown hts hK hP gX5_farthest_X5_notHours okX5_notHours (qX5_notHours l D cI cB v ) [] rfl (by decide) hl.1 rfl rfl (Nat.le_of_ble_eq_true rfl) dX5_farthest_1 (by decide) (fun r_1 hr_2 => ?_)
  replace hr_2 : r_1 = ob_ v 0 99 := hr_2
  subst r_1
  refine lv_istore_n (lv' := [(3, .int (ob_ v 0 99)), (0, .ref (r 0)), (1, .int v), (2, .int q)]) hx hb dX5_farthest_4 rfl hl (by decide) rfl (fun ls hl => ?_)
  have jn_21 : ∀  (x3_21 : Int32) , (x3_21 = wNW_ v q) → ∀ (H : Heap) (locs : List Loc), va_P D vwCl (mW cI r B M) H → va_D A (mW cI r B M) → va_S A s.heap H locs → ∀ ls : Array Slot, lv_has ls 4 [(3, .int x3_21), (0, .ref (r 0)), (1, .int v), (2, .int q)] → W p l e (jR 7) s m ([.ref (r 0), .int v, .int q] : List Value).toArray below meth c H locs 0 0 (MQ below (va_Qi (S := MT) (fun r u => r = (if wNW_ v q = 0 then (if q = 0 then lp_ B (tn_ v) else gp_ B (tn_ v)) else wNW_ v q) ∧ oQ_ M u (wNW_ v q)) (fun u t => va_P D vwCl ((fun u => mW cI r B u) u) t.heap) A) ([.ref (r 0), .int v, .int q] : List Value).toArray s 0 0 A) (F0 m 21 ls []) := by
      intro x3_21 hx3_21 H locs hP hD hS ls hl
      subst x3_21
      replace hl : lv_has ls 4 [(3, .int (wNW_ v q)), (0, .ref (r 0)), (1, .int v), (2, .int q)] := hl
      replace hP : va_P D vwCl (mW cI r B M) H := hP
      refine lv_iload_n hx hb dX5_farthest_21 rfl (lv_at hl 0 rfl) ?_
      refine lv_if_eq (tgt := 31) hx hb dX5_farthest_22 (by decide) (fun c_22 => ?_) (fun c_22 => ?_)
      · skip
        have w0 := c_22
        simp only [wS_, wSN_, wSNW_, wNW_, wTh_, wTr_, f2_0, nb_0, ob_0, uk_0, lo_0, hi_0] at w0
        obtain ⟨v_, hv_, rfl⟩ := pl_le (n := 99) (by decide) w0.1
        replace hl : lv_has ls 4 [(3, .int (wNW_ (nI v_) q)), (0, .ref (r 0)), (1, .int (nI v_)), (2, .int q)] := hl
        refine lv_aload_n hx hb dX5_farthest_31 rfl (lv_at hl 1 rfl) ?_
        refine lv_iconst (v := 0) hx hb dX5_farthest_32 (by decide) ?_
        refine lv_iload_n hx hb dX5_farthest_33 rfl (lv_at hl 2 rfl) ?_
        refine kMvV hx hb hml hown hts hK hP (va_D.adr hD0 (mW_adE rfl)) hA hS gX5_farthest_X5_findOften okX5_findOften (qX5_findOften l D cI cB r B M 0 v_ hI (by decide) (by omega)) [0, 1, 2, 3, 4, 5, 6, 7, 8, 9, 10, 11, 12, 13, 14, 15] rfl (by decide) (fun _ => mW_adr _ _ _ _ _ _) rfl rfl rfl (by decide) hl.1 rfl rfl (Nat.le_of_ble_eq_true rfl) dX5_farthest_34 (by decide) (fun u_4 H locs hw_5 hP hD hS => ?_)
        replace hw_5 : u_4 = pu_ (fom_ M B 0 (v_ + 1)) 2 := hw_5
        have hNu_4 : oN_ M u_4 := by rw [hw_5]; exact oN_fo _ _ _ _
        have eMOF : mof_ u_4 = ofn_ B 0 (v_ + 1) := fo_mof hw_5
        have eMFA : mfa_ u_4 = fan_ B (v_ + 1) := fo_mfa hw_5
        have eMLW : mlw_ u_4 = lwn_ B (v_ + 1) := fo_mlw hw_5
        have eMHG : mhg_ u_4 = hgn_ B (v_ + 1) := fo_mhg hw_5
        have eMSL : msl_ u_4 = sln_ B (v_ + 1) := fo_msl hw_5
        have eMHB : mhb_ u_4 = mhb_ M := fo_mhb hw_5
        replace hP : va_P D vwCl (mW cI r B u_4) H := (va_P.m [true, true, true, true, true, true, true, true, true, true, true, true, true, true, true, true] [] hP)
        refine lv_iload_n hx hb dX5_farthest_37 rfl (lv_at hl 3 rfl) ?_
        refine lv_if_ne (tgt := 48) hx hb dX5_farthest_38 (by decide) (fun c_38 => ?_) (fun c_38 => ?_)
        · skip
          refine lv_aload_n hx hb dX5_farthest_48 rfl (lv_at hl 1 rfl) ?_
          refine va_get (ci := 5) (C := RX5) (T := TX5) (N := 33) hx hb hts hinX5 hown hK.1 hP 0 rfl rfl 27 (by decide) (hts _ (List.mem_of_getElem? (i := 2) rfl)) (fun _ h9 => h9) rfl dX5_farthest_49 ?_
          refine rMi hx hb hr hlk hS u_4 hP ?_ dX5_farthest_52
          first | exact ⟨(if_neg c_22).symm, oQ_n _ _⟩ | exact ⟨by (rw [if_pos c_22]; simp only [tn_n (show v_ < 2147483648 by omega)]; first | (rw [if_pos c_38]; exact eMLW.trans (lwn_lp hI _)) | (rw [if_neg c_38]; exact eMHG.trans (hgn_gp hI _))), oQ_0 c_22 (by (first | exact (oN_mk (by assumption)).m | exact oM_.rf _ | exact (oN_pp _ _).m | exact (oN_fo _ _ _ _).m | assumption | (apply oN_.m; assumption) | exact oM_.tr (by assumption) (by assumption)))⟩
        · skip
          refine lv_aload_n hx hb dX5_farthest_41 rfl (lv_at hl 1 rfl) ?_
          refine va_get (ci := 5) (C := RX5) (T := TX5) (N := 33) hx hb hts hinX5 hown hK.1 hP 0 rfl rfl 26 (by decide) (hts _ (List.mem_of_getElem? (i := 1) rfl)) (fun _ h9 => h9) rfl dX5_farthest_42 ?_
          refine lv_goto (tgt := 52) hx hb dX5_farthest_45 (by decide) ?_
          refine rMi hx hb hr hlk hS u_4 hP ?_ dX5_farthest_52
          first | exact ⟨(if_neg c_22).symm, oQ_n _ _⟩ | exact ⟨by (rw [if_pos c_22]; simp only [tn_n (show v_ < 2147483648 by omega)]; first | (rw [if_pos c_38]; exact eMLW.trans (lwn_lp hI _)) | (rw [if_neg c_38]; exact eMHG.trans (hgn_gp hI _))), oQ_0 c_22 (by (first | exact (oN_mk (by assumption)).m | exact oM_.rf _ | exact (oN_pp _ _).m | exact (oN_fo _ _ _ _).m | assumption | (apply oN_.m; assumption) | exact oM_.tr (by assumption) (by assumption)))⟩
      · skip
        refine lv_aload_n hx hb dX5_farthest_25 rfl (lv_at hl 1 rfl) ?_
        refine lv_iload_n hx hb dX5_farthest_26 rfl (lv_at hl 0 rfl) ?_
        refine kMiV hx hb hml hown hts hK hP (va_D.adr hD0 (mW_adE rfl)) hA hS gX5_farthest_X5_no okX5_no (qX5_no l D cI cB r B M (wNW_ v q) (rc0_n (by first | exact rc0_wS _ _ | exact rc0_wSN _ _ _ | exact rc0_wSNW _ _ _ _ | exact rc0_wNW _ _ | exact rc0_wTh _ _ _ _ _ | exact rc0_wTr _ _ _ _ | exact rc0_nb _ _ | exact rc0_uk _ _ | exact rc0_ob _ _ _ | exact rc0_f2 (rc0_nb _ _) (rc0_nb _ _) | exact rc0_f2 (rc0_nb _ _) (rc0_uk _ _) | exact rc0_f2 (rc0_ob _ _ _) (rc0_uk _ _) | exact rc0_f2 (rc0_uk _ _) (rc0_f2 (rc0_uk _ _) (rc0_ob _ _ _))) c_22)) [0, 1, 2, 3, 4, 5, 6, 7, 8, 9, 10, 11, 12, 13, 14, 15] rfl (by decide) (fun _ => mW_adr _ _ _ _ _ _) rfl rfl rfl (by decide) hl.1 rfl rfl (Nat.le_of_ble_eq_true rfl) dX5_farthest_27 (by decide) (fun r_6 u_7 H locs hw_8 hP hD hS => ?_)
        replace hw_8 : r_6 = wNW_ v q ∧ u_7 = (rfm_ M (wNW_ v q)) := hw_8
        obtain ⟨hw_8a, hw_8b⟩ := hw_8
        subst r_6
        subst u_7
        replace hP : va_P D vwCl ([(r 0, .inr (5, [.ref (r 1), .ref (r 2), .ref (r 3), .ref (r 4), .ref (r 5), .ref (r 6), .int (nI (sn_ B)), .int (qt_ B), .int (il_ B), .int (pa_ B), .int (ho_ B), .int (dy_ B), .ref (r 13), .ref (r 14), .ref (r 15), .ref (r 16), .int (nI (mtn_ M)), .int (nI (mrd_ M)), .int (nI (msm_ M)), .ref (r 20), .int (mhi_ M), .int (mik_ M), .int (nI (mcu_ M)), .int (nI (mbk_ M)), .ref (r 25), .ref (r 26), .int (mlw_ M), .int (mhg_ M), .int (msl_ M), .ref (r 30), .int (nI (mrm_ M)), .ref (r 32), .int (mlo_ M)])), (r 1, .inl (cI, 7, .inl (rfx_ (mrf_ M) (wNW_ v q)))), (r 2, .inl (cI, 7, .inl (kd_ B))), (r 3, .inl (cI, 7, .inl (fg_ B))), (r 4, .inl (cI, 7, .inl (pl_ B))), (r 5, .inl (cI, 7, .inl (pw_ B))), (r 6, .inl (cI, 7, .inl (jy_ B))), (r 13, .inl (cI, 96, .inl (mtp_ M))), (r 14, .inl (cI, 48, .inl (mlt_ M))), (r 15, .inl (cI, 48, .inl (mla_ M))), (r 16, .inl (cI, 144, .inl (mtd_ M))), (r 20, .inl (cI, 451, .inl (flatK (mkp_ M)))), (r 25, .inl (cI, 7, .inl (mof_ M))), (r 26, .inl (cI, 7, .inl (mfa_ M))), (r 30, .inl (cI, 12, .inl (mrw_ M))), (r 32, .inl (cI, 8, .inl (mhb_ M)))]) H := (va_P.m [true, true, true, true, true, true, true, true, true, true, true, true, true, true, true, true] [] hP)
        refine rMi hx hb hr hlk hS (rfm_ M (wNW_ v q)) hP ?_ dX5_farthest_30
        first | exact ⟨(if_neg c_22).symm, oQ_n _ _⟩ | exact ⟨by (rw [if_pos c_22]; simp only [tn_n (show v_ < 2147483648 by omega)]; first | (rw [if_pos c_38]; exact eMLW.trans (lwn_lp hI _)) | (rw [if_neg c_38]; exact eMHG.trans (hgn_gp hI _))), oQ_0 c_22 (by (first | exact (oN_mk (by assumption)).m | exact oM_.rf _ | exact (oN_pp _ _).m | exact (oN_fo _ _ _ _).m | assumption | (apply oN_.m; assumption) | exact oM_.tr (by assumption) (by assumption)))⟩
  refine lv_iload_n hx hb dX5_farthest_5 rfl (lv_at hl 0 rfl) ?_
  refine lv_if_ne (tgt := 21) hx hb dX5_farthest_6 (by decide) (fun c_6 => ?_) (fun c_6 => ?_)
  · skip
    exact jn_21  (ob_ v 0 99)  (by first | exact (f2_a c_6).symm | exact c_6.trans ((f2_b c_6).trans (uk_i c_15)).symm | exact ((f2_b c_6).trans (uk_o c_15)).symm)   _ _ hP (va_D.adr hD0 (mW_adE rfl)) hS ls (lv_sub hl [0, 1, 2, 3] rfl)
  · skip
    refine lv_iload_n hx hb dX5_farthest_9 rfl (lv_at hl 3 rfl) ?_
    refine lv_iconst (v := 0) hx hb dX5_farthest_10 (by decide) ?_
    refine lv_iconst (v := 1) hx hb dX5_farthest_11 (by decide) ?_
    refine kSiS hx hb hml hown hts hK hP gX5_farthest_X5_isIn okX5_isIn (qX5_isIn l D cI cB q 0 1 ) [] rfl (by decide) hl.1 rfl rfl (Nat.le_of_ble_eq_true rfl) dX5_farthest_12 (by decide) (fun r_9 hr_10 => ?_)
    replace hr_10 : r_9 = b1 (0 ≤ q ∧ q ≤ 1) := hr_10
    subst r_9
    refine lv_if_ne (tgt := 21) hx hb dX5_farthest_15 (by decide) (fun c_15 => ?_) (fun c_15 => ?_)
    · replace c_15 := b1_n c_15
      exact jn_21  (ob_ v 0 99)  (by first | exact (f2_a c_6).symm | exact c_6.trans ((f2_b c_6).trans (uk_i c_15)).symm | exact ((f2_b c_6).trans (uk_o c_15)).symm)   _ _ hP (va_D.adr hD0 (mW_adE rfl)) hS ls (lv_sub hl [0, 1, 2, 3] rfl)
    · replace c_15 := b1_z c_15
      refine lv_bipush (v := (-2)) hx hb dX5_farthest_18 (by decide) ?_
      refine lv_istore_n (lv' := [(3, .int (-2)), (0, .ref (r 0)), (1, .int v), (2, .int q)]) hx hb dX5_farthest_20 rfl hl (by decide) rfl (fun ls hl => ?_)
      exact jn_21  (-2)  (by first | exact (f2_a c_6).symm | exact c_6.trans ((f2_b c_6).trans (uk_i c_15)).symm | exact ((f2_b c_6).trans (uk_o c_15)).symm)   _ _ hP (va_D.adr hD0 (mW_adE rfl)) hS ls (lv_sub hl [0, 1, 2, 3] rfl)

theorem okX5_clear : jok yX5_clear wsX5_clear cX5_clear 2 (some .int) 0 := ⟨⟨_, rfl⟩, by decide +kernel, by decide +kernel⟩
set_option maxHeartbeats 2000000 in
set_option maxRecDepth 100000 in
theorem qX5_clear (l : Launch) (D : va_G) (cI cB : ClassId) (r : Nat → Nat) (B : BayT) (M : MT)  : jMi D cI cB l yX5_clear wsX5_clear 0 [.ref (r 0)] (mW cI r B M) (S := MT) (fun r u => r = nI (mrm_ M) ∧ u = urm_ M 0) (fun u => mW cI r B u) := by
  refine jMi.of (cc := cX5_clear) (maxL := 2) (ret := (some .int)) okX5_clear (Nat.le_of_ble_eq_true rfl) ?_
  intro p e s m below meth c ls A hx hb hr hts hown hlk hml hP hK hD hA hS hl
  replace hown : s.vm.findClass RX5 = some m.cls := hown
  replace hl : lv_has ls 2 [(0, .ref (r 0))] := hl
  have hD0 := hD
  have hinX5 : ∀ w ∈ wsX50, w ∈ wsX5_clear := by decide +kernel
  refine lv_aload_n hx hb dX5_clear_0 rfl (lv_at hl 0 rfl) ?_
  refine va_get (ci := 5) (C := RX5) (T := TX5) (N := 33) hx hb hts hinX5 hown hK.1 hP 0 rfl rfl 30 (by decide) (hts _ (List.mem_of_getElem? (i := 1) rfl)) (fun _ h9 => h9) rfl dX5_clear_1 ?_
  refine lv_istore_n (lv' := [(1, .int (nI (mrm_ M))), (0, .ref (r 0))]) hx hb dX5_clear_4 rfl hl (by decide) rfl (fun ls hl => ?_)
  refine lv_aload_n hx hb dX5_clear_5 rfl (lv_at hl 1 rfl) ?_
  refine lv_iconst (v := 0) hx hb dX5_clear_6 (by decide) ?_
  refine sti (x := 0) (y := nI 0) (rfl) ?_
  refine va_put (ci := 5) (ty := .int) (C := RX5) (T := TX5) (N := 33) hx hb hts hinX5 tyX5 tyX5_ok nmX5 hown hK.1 hP (va_D.adr hD0 (mW_adE rfl)) hS 0 rfl rfl 30 (by decide) (hts _ (List.mem_of_getElem? (i := 1) rfl)) (fun _ h9 => h9) rfl (by decide +kernel) (rfl) (rfl) (Nat.le_of_ble_eq_true rfl) dX5_clear_7 (fun H locs hP hD hS => ?_)
  replace hP : va_P D vwCl ([(r 0, .inr (5, [.ref (r 1), .ref (r 2), .ref (r 3), .ref (r 4), .ref (r 5), .ref (r 6), .int (nI (sn_ B)), .int (qt_ B), .int (il_ B), .int (pa_ B), .int (ho_ B), .int (dy_ B), .ref (r 13), .ref (r 14), .ref (r 15), .ref (r 16), .int (nI (mtn_ M)), .int (nI (mrd_ M)), .int (nI (msm_ M)), .ref (r 20), .int (mhi_ M), .int (mik_ M), .int (nI (mcu_ M)), .int (nI (mbk_ M)), .ref (r 25), .ref (r 26), .int (mlw_ M), .int (mhg_ M), .int (msl_ M), .ref (r 30), .int (nI 0), .ref (r 32), .int (mlo_ M)])), (r 1, .inl (cI, 7, .inl (mrf_ M))), (r 2, .inl (cI, 7, .inl (kd_ B))), (r 3, .inl (cI, 7, .inl (fg_ B))), (r 4, .inl (cI, 7, .inl (pl_ B))), (r 5, .inl (cI, 7, .inl (pw_ B))), (r 6, .inl (cI, 7, .inl (jy_ B))), (r 13, .inl (cI, 96, .inl (mtp_ M))), (r 14, .inl (cI, 48, .inl (mlt_ M))), (r 15, .inl (cI, 48, .inl (mla_ M))), (r 16, .inl (cI, 144, .inl (mtd_ M))), (r 20, .inl (cI, 451, .inl (flatK (mkp_ M)))), (r 25, .inl (cI, 7, .inl (mof_ M))), (r 26, .inl (cI, 7, .inl (mfa_ M))), (r 30, .inl (cI, 12, .inl (mrw_ M))), (r 32, .inl (cI, 8, .inl (mhb_ M)))]) H := hP
  refine lv_iload_n hx hb dX5_clear_10 rfl (lv_at hl 0 rfl) ?_
  refine rMi hx hb hr hlk hS (mkM (mrf_ M) (mtp_ M) (mlt_ M) (mla_ M) (mtd_ M) (mkp_ M) (mof_ M) (mfa_ M) (mrw_ M) (mhb_ M) (mtn_ M) (mrd_ M) (msm_ M) (mcu_ M) (mbk_ M) 0 (mhi_ M) (mik_ M) (mlw_ M) (mhg_ M) (msl_ M) (mlo_ M)) hP ?_ dX5_clear_11
  exact ⟨rfl, rfl⟩

theorem okX5_row : jok yX5_row wsX5_row cX5_row 3 (some .int) 1 := ⟨⟨_, rfl⟩, by decide +kernel, by decide +kernel⟩
set_option maxHeartbeats 2000000 in
set_option maxRecDepth 100000 in
theorem qX5_row (l : Launch) (D : va_G) (cI cB : ClassId) (r : Nat → Nat) (B : BayT) (M : MT) (v : Int32) (hrm : mrm_ M ≤ 12) : jMi D cI cB l yX5_row wsX5_row 1 [.ref (r 0), .int v] (mW cI r B M) (S := MT) (fun r u => (f2_ (ob_ v 0 99) (if 12 ≤ mrm_ M then -6 else 0) = 0 ∧ r = nI (mrm_ M + 1) ∧ u = urw_ M v) ∨ (¬ f2_ (ob_ v 0 99) (if 12 ≤ mrm_ M then -6 else 0) = 0 ∧ r = f2_ (ob_ v 0 99) (if 12 ≤ mrm_ M then -6 else 0) ∧ u = rfm_ M (f2_ (ob_ v 0 99) (if 12 ≤ mrm_ M then -6 else 0)))) (fun u => mW cI r B u) := by
  refine jMi.of (cc := cX5_row) (maxL := 3) (ret := (some .int)) okX5_row (Nat.le_of_ble_eq_true rfl) ?_
  intro p e s m below meth c ls A hx hb hr hts hown hlk hml hP hK hD hA hS hl
  replace hown : s.vm.findClass RX5 = some m.cls := hown
  replace hl : lv_has ls 3 [(0, .ref (r 0)), (1, .int v)] := hl
  have hD0 := hD
  have hinX5 : ∀ w ∈ wsX50, w ∈ wsX5_row := by decide +kernel
  refine lv_iload_n hx hb dX5_row_0 rfl (lv_at hl 1 rfl) ?_
  refine lv_iconst (v := 0) hx hb dX5_row_1 (by decide) ?_
  refine lv_bipush (v := 99) hx hb dX5_row_2 (by decide) ?_
  refine kSiS hx hb hml hown hts hK hP gX5_row_X5_bound okX5_bound (qX5_bound l D cI cB v 0 99 ) [] rfl (by decide) hl.1 rfl rfl (Nat.le_of_ble_eq_true rfl) dX5_row_4 (by decide) (fun r_1 hr_2 => ?_)
  replace hr_2 : r_1 = ob_ v 0 99 := hr_2
  subst r_1
  refine lv_istore_n (lv' := [(2, .int (ob_ v 0 99)), (0, .ref (r 0)), (1, .int v)]) hx hb dX5_row_7 rfl hl (by decide) rfl (fun ls hl => ?_)
  have jn_24 : ∀  (x2_24 : Int32) , (x2_24 = f2_ (ob_ v 0 99) (if 12 ≤ mrm_ M then -6 else 0)) → ∀ (H : Heap) (locs : List Loc), va_P D vwCl (mW cI r B M) H → va_D A (mW cI r B M) → va_S A s.heap H locs → ∀ ls : Array Slot, lv_has ls 3 [(2, .int x2_24), (0, .ref (r 0)), (1, .int v)] → W p l e (jR 1) s m ([.ref (r 0), .int v] : List Value).toArray below meth c H locs 0 0 (MQ below (va_Qi (S := MT) (fun r u => (f2_ (ob_ v 0 99) (if 12 ≤ mrm_ M then -6 else 0) = 0 ∧ r = nI (mrm_ M + 1) ∧ u = urw_ M v) ∨ (¬ f2_ (ob_ v 0 99) (if 12 ≤ mrm_ M then -6 else 0) = 0 ∧ r = f2_ (ob_ v 0 99) (if 12 ≤ mrm_ M then -6 else 0) ∧ u = rfm_ M (f2_ (ob_ v 0 99) (if 12 ≤ mrm_ M then -6 else 0)))) (fun u t => va_P D vwCl ((fun u => mW cI r B u) u) t.heap) A) ([.ref (r 0), .int v] : List Value).toArray s 0 0 A) (F0 m 24 ls []) := by
      intro x2_24 hx2_24 H locs hP hD hS ls hl
      subst x2_24
      replace hl : lv_has ls 3 [(2, .int (f2_ (ob_ v 0 99) (if 12 ≤ mrm_ M then -6 else 0))), (0, .ref (r 0)), (1, .int v)] := hl
      replace hP : va_P D vwCl (mW cI r B M) H := hP
      refine lv_iload_n hx hb dX5_row_24 rfl (lv_at hl 0 rfl) ?_
      refine lv_if_eq (tgt := 34) hx hb dX5_row_25 (by decide) (fun c_25 => ?_) (fun c_25 => ?_)
      · skip
        have hf : mrm_ M < 12 := by
          rw [f2_0] at c_25
          by_cases z : 12 ≤ mrm_ M
          · rw [if_pos z] at c_25; exact absurd c_25.2 (by decide)
          · omega
        refine lv_aload_n hx hb dX5_row_34 rfl (lv_at hl 1 rfl) ?_
        refine va_get (ci := 5) (C := RX5) (T := TX5) (N := 33) hx hb hts hinX5 hown hK.1 hP 0 rfl rfl 29 (by decide) (hts _ (List.mem_of_getElem? (i := 2) rfl)) (fun _ h9 => h9) rfl dX5_row_35 ?_
        refine lv_aload_n hx hb dX5_row_38 rfl (lv_at hl 1 rfl) ?_
        refine va_get (ci := 5) (C := RX5) (T := TX5) (N := 33) hx hb hts hinX5 hown hK.1 hP 0 rfl rfl 30 (by decide) (hts _ (List.mem_of_getElem? (i := 1) rfl)) (fun _ h9 => h9) rfl dX5_row_39 ?_
        refine lv_iload_n hx hb dX5_row_42 rfl (lv_at hl 2 rfl) ?_
        refine jast hx hb hK.1 hP (va_D.adr hD0 (mW_adE rfl)) hS 14 0 (mrm_ M) rfl rfl rfl (by omega) (Nat.le_of_ble_eq_true rfl) dX5_row_43 (fun f_3 ef_3 H locs hP hD hS => ?_)
        replace ef_3 : f_3 = upd (mrw_ M) (mrm_ M) v := ef_3
        replace hP : va_P D vwCl ([(r 0, .inr (5, [.ref (r 1), .ref (r 2), .ref (r 3), .ref (r 4), .ref (r 5), .ref (r 6), .int (nI (sn_ B)), .int (qt_ B), .int (il_ B), .int (pa_ B), .int (ho_ B), .int (dy_ B), .ref (r 13), .ref (r 14), .ref (r 15), .ref (r 16), .int (nI (mtn_ M)), .int (nI (mrd_ M)), .int (nI (msm_ M)), .ref (r 20), .int (mhi_ M), .int (mik_ M), .int (nI (mcu_ M)), .int (nI (mbk_ M)), .ref (r 25), .ref (r 26), .int (mlw_ M), .int (mhg_ M), .int (msl_ M), .ref (r 30), .int (nI (mrm_ M)), .ref (r 32), .int (mlo_ M)])), (r 1, .inl (cI, 7, .inl (mrf_ M))), (r 2, .inl (cI, 7, .inl (kd_ B))), (r 3, .inl (cI, 7, .inl (fg_ B))), (r 4, .inl (cI, 7, .inl (pl_ B))), (r 5, .inl (cI, 7, .inl (pw_ B))), (r 6, .inl (cI, 7, .inl (jy_ B))), (r 13, .inl (cI, 96, .inl (mtp_ M))), (r 14, .inl (cI, 48, .inl (mlt_ M))), (r 15, .inl (cI, 48, .inl (mla_ M))), (r 16, .inl (cI, 144, .inl (mtd_ M))), (r 20, .inl (cI, 451, .inl (flatK (mkp_ M)))), (r 25, .inl (cI, 7, .inl (mof_ M))), (r 26, .inl (cI, 7, .inl (mfa_ M))), (r 30, .inl (cI, 12, .inl f_3)), (r 32, .inl (cI, 8, .inl (mhb_ M)))]) H := hP
        refine lv_aload_n hx hb dX5_row_44 rfl (lv_at hl 1 rfl) ?_
        refine lv_dup hx hb dX5_row_45 rfl ?_
        refine va_get (ci := 5) (C := RX5) (T := TX5) (N := 33) hx hb hts hinX5 hown hK.1 hP 0 rfl rfl 30 (by decide) (hts _ (List.mem_of_getElem? (i := 1) rfl)) (fun _ h9 => h9) rfl dX5_row_46 ?_
        refine lv_iconst (v := 1) hx hb dX5_row_49 (by decide) ?_
        refine lv_iadd hx hb dX5_row_50 ?_
        refine sti (x := (nI (mrm_ M)) + 1) (y := nI (mrm_ M + 1)) (nI_1 _) ?_
        refine va_put (ci := 5) (ty := .int) (C := RX5) (T := TX5) (N := 33) hx hb hts hinX5 tyX5 tyX5_ok nmX5 hown hK.1 hP (va_D.adr hD0 (mW_adE rfl)) hS 0 rfl rfl 30 (by decide) (hts _ (List.mem_of_getElem? (i := 1) rfl)) (fun _ h9 => h9) rfl (by decide +kernel) (rfl) (rfl) (Nat.le_of_ble_eq_true rfl) dX5_row_51 (fun H locs hP hD hS => ?_)
        replace hP : va_P D vwCl ([(r 0, .inr (5, [.ref (r 1), .ref (r 2), .ref (r 3), .ref (r 4), .ref (r 5), .ref (r 6), .int (nI (sn_ B)), .int (qt_ B), .int (il_ B), .int (pa_ B), .int (ho_ B), .int (dy_ B), .ref (r 13), .ref (r 14), .ref (r 15), .ref (r 16), .int (nI (mtn_ M)), .int (nI (mrd_ M)), .int (nI (msm_ M)), .ref (r 20), .int (mhi_ M), .int (mik_ M), .int (nI (mcu_ M)), .int (nI (mbk_ M)), .ref (r 25), .ref (r 26), .int (mlw_ M), .int (mhg_ M), .int (msl_ M), .ref (r 30), .int (nI (mrm_ M + 1)), .ref (r 32), .int (mlo_ M)])), (r 1, .inl (cI, 7, .inl (mrf_ M))), (r 2, .inl (cI, 7, .inl (kd_ B))), (r 3, .inl (cI, 7, .inl (fg_ B))), (r 4, .inl (cI, 7, .inl (pl_ B))), (r 5, .inl (cI, 7, .inl (pw_ B))), (r 6, .inl (cI, 7, .inl (jy_ B))), (r 13, .inl (cI, 96, .inl (mtp_ M))), (r 14, .inl (cI, 48, .inl (mlt_ M))), (r 15, .inl (cI, 48, .inl (mla_ M))), (r 16, .inl (cI, 144, .inl (mtd_ M))), (r 20, .inl (cI, 451, .inl (flatK (mkp_ M)))), (r 25, .inl (cI, 7, .inl (mof_ M))), (r 26, .inl (cI, 7, .inl (mfa_ M))), (r 30, .inl (cI, 12, .inl f_3)), (r 32, .inl (cI, 8, .inl (mhb_ M)))]) H := hP
        refine lv_aload_n hx hb dX5_row_54 rfl (lv_at hl 1 rfl) ?_
        refine va_get (ci := 5) (C := RX5) (T := TX5) (N := 33) hx hb hts hinX5 hown hK.1 hP 0 rfl rfl 30 (by decide) (hts _ (List.mem_of_getElem? (i := 1) rfl)) (fun _ h9 => h9) rfl dX5_row_55 ?_
        (try rw [ef_3] at hP); (try rw [ef_3] at hD); (try rw [ef_3] at hl); (try rw [ef_3] at c_25); (try rw [ef_3])
        refine rMi hx hb hr hlk hS (mkM (mrf_ M) (mtp_ M) (mlt_ M) (mla_ M) (mtd_ M) (mkp_ M) (mof_ M) (mfa_ M) (upd (mrw_ M) (mrm_ M) v) (mhb_ M) (mtn_ M) (mrd_ M) (msm_ M) (mcu_ M) (mbk_ M) (mrm_ M + 1) (mhi_ M) (mik_ M) (mlw_ M) (mhg_ M) (msl_ M) (mlo_ M)) hP ?_ dX5_row_58
        first | exact Or.inr ⟨c_25, rfl, rfl⟩ | exact Or.inl ⟨c_25, rfl, rfl⟩
      · skip
        refine lv_aload_n hx hb dX5_row_28 rfl (lv_at hl 1 rfl) ?_
        refine lv_iload_n hx hb dX5_row_29 rfl (lv_at hl 0 rfl) ?_
        refine kMiV hx hb hml hown hts hK hP (va_D.adr hD0 (mW_adE rfl)) hA hS gX5_row_X5_no okX5_no (qX5_no l D cI cB r B M (f2_ (ob_ v 0 99) (if 12 ≤ mrm_ M then -6 else 0)) (rc0_n (rc0_f2 (rc0_ob _ _ _) (rc0_if (Or.inr (Or.inr (Or.inr (Or.inr (Or.inr rfl))))) (Or.inl rfl))) c_25)) [0, 1, 2, 3, 4, 5, 6, 7, 8, 9, 10, 11, 12, 13, 14, 15] rfl (by decide) (fun _ => mW_adr _ _ _ _ _ _) rfl rfl rfl (by decide) hl.1 rfl rfl (Nat.le_of_ble_eq_true rfl) dX5_row_30 (by decide) (fun r_4 u_5 H locs hw_6 hP hD hS => ?_)
        replace hw_6 : r_4 = f2_ (ob_ v 0 99) (if 12 ≤ mrm_ M then -6 else 0) ∧ u_5 = (rfm_ M (f2_ (ob_ v 0 99) (if 12 ≤ mrm_ M then -6 else 0))) := hw_6
        obtain ⟨hw_6a, hw_6b⟩ := hw_6
        subst r_4
        subst u_5
        replace hP : va_P D vwCl ([(r 0, .inr (5, [.ref (r 1), .ref (r 2), .ref (r 3), .ref (r 4), .ref (r 5), .ref (r 6), .int (nI (sn_ B)), .int (qt_ B), .int (il_ B), .int (pa_ B), .int (ho_ B), .int (dy_ B), .ref (r 13), .ref (r 14), .ref (r 15), .ref (r 16), .int (nI (mtn_ M)), .int (nI (mrd_ M)), .int (nI (msm_ M)), .ref (r 20), .int (mhi_ M), .int (mik_ M), .int (nI (mcu_ M)), .int (nI (mbk_ M)), .ref (r 25), .ref (r 26), .int (mlw_ M), .int (mhg_ M), .int (msl_ M), .ref (r 30), .int (nI (mrm_ M)), .ref (r 32), .int (mlo_ M)])), (r 1, .inl (cI, 7, .inl (rfx_ (mrf_ M) (f2_ (ob_ v 0 99) (if 12 ≤ mrm_ M then -6 else 0))))), (r 2, .inl (cI, 7, .inl (kd_ B))), (r 3, .inl (cI, 7, .inl (fg_ B))), (r 4, .inl (cI, 7, .inl (pl_ B))), (r 5, .inl (cI, 7, .inl (pw_ B))), (r 6, .inl (cI, 7, .inl (jy_ B))), (r 13, .inl (cI, 96, .inl (mtp_ M))), (r 14, .inl (cI, 48, .inl (mlt_ M))), (r 15, .inl (cI, 48, .inl (mla_ M))), (r 16, .inl (cI, 144, .inl (mtd_ M))), (r 20, .inl (cI, 451, .inl (flatK (mkp_ M)))), (r 25, .inl (cI, 7, .inl (mof_ M))), (r 26, .inl (cI, 7, .inl (mfa_ M))), (r 30, .inl (cI, 12, .inl (mrw_ M))), (r 32, .inl (cI, 8, .inl (mhb_ M)))]) H := (va_P.m [true, true, true, true, true, true, true, true, true, true, true, true, true, true, true, true] [] hP)
        refine rMi hx hb hr hlk hS (rfm_ M (f2_ (ob_ v 0 99) (if 12 ≤ mrm_ M then -6 else 0))) hP ?_ dX5_row_33
        first | exact Or.inr ⟨c_25, rfl, rfl⟩ | exact Or.inl ⟨c_25, rfl, rfl⟩
  refine lv_iload_n hx hb dX5_row_8 rfl (lv_at hl 0 rfl) ?_
  refine lv_if_ne (tgt := 24) hx hb dX5_row_9 (by decide) (fun c_9 => ?_) (fun c_9 => ?_)
  · skip
    exact jn_24  (ob_ v 0 99)  (by first | exact (f2_a c_9).symm | exact (by rw [f2_b c_9, if_neg (by omega)]; exact c_9) | exact (by rw [f2_b c_9, if_pos (by omega)]))   _ _ hP (va_D.adr hD0 (mW_adE rfl)) hS ls (lv_sub hl [0, 1, 2] rfl)
  · skip
    refine lv_aload_n hx hb dX5_row_12 rfl (lv_at hl 1 rfl) ?_
    refine va_get (ci := 5) (C := RX5) (T := TX5) (N := 33) hx hb hts hinX5 hown hK.1 hP 0 rfl rfl 30 (by decide) (hts _ (List.mem_of_getElem? (i := 1) rfl)) (fun _ h9 => h9) rfl dX5_row_13 ?_
    refine lv_bipush (v := 12) hx hb dX5_row_16 (by decide) ?_
    refine lv_icmp_ne (tgt := 24) hx hb dX5_row_18 (by decide) (fun c_18 => ?_) (fun c_18 => ?_)
    · replace c_18 : ¬ nI (mrm_ M) = nI 12 := c_18
      rw [jeq (by omega) (by omega)] at c_18
      exact jn_24  (ob_ v 0 99)  (by first | exact (f2_a c_9).symm | exact (by rw [f2_b c_9, if_neg (by omega)]; exact c_9) | exact (by rw [f2_b c_9, if_pos (by omega)]))   _ _ hP (va_D.adr hD0 (mW_adE rfl)) hS ls (lv_sub hl [0, 1, 2] rfl)
    · replace c_18 : nI (mrm_ M) = nI 12 := c_18
      rw [jeq (by omega) (by omega)] at c_18
      refine lv_bipush (v := (-6)) hx hb dX5_row_21 (by decide) ?_
      refine lv_istore_n (lv' := [(2, .int (-6)), (0, .ref (r 0)), (1, .int v)]) hx hb dX5_row_23 rfl hl (by decide) rfl (fun ls hl => ?_)
      exact jn_24  (-6)  (by first | exact (f2_a c_9).symm | exact (by rw [f2_b c_9, if_neg (by omega)]; exact c_9) | exact (by rw [f2_b c_9, if_pos (by omega)]))   _ _ hP (va_D.adr hD0 (mW_adE rfl)) hS ls (lv_sub hl [0, 1, 2] rfl)

