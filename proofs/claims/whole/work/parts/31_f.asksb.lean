theorem okX5_which : jok yX5_which wsX5_which cX5_which 4 (some .int) 2 := ⟨⟨_, rfl⟩, by decide +kernel, by decide +kernel⟩
set_option maxHeartbeats 2000000 in
set_option maxRecDepth 100000 in
theorem qX5_which (l : Launch) (D : va_G) (cI cB : ClassId) (r : Nat → Nat) (B : BayT) (M : MT) (a : Int32) (q : Int32) (hI : bI_ B) (hrm : mrm_ M ≤ 12) : jMi D cI cB l yX5_which wsX5_which 8 [.ref (r 0), .int a, .int q] (mW cI r B M) (S := MT) (fun r u => r = (if f2_ (nb_ a (nI (sn_ B))) (uk_ q 2) = 0 then gbX_ B (tn_ a) q (mrw_ M) (mrm_ M) else f2_ (nb_ a (nI (sn_ B))) (uk_ q 2)) ∧ oQ_ M u (f2_ (nb_ a (nI (sn_ B))) (uk_ q 2))) (fun u => mW cI r B u) := by
  refine jMi.of (cc := cX5_which) (maxL := 4) (ret := (some .int)) okX5_which (Nat.le_of_ble_eq_true rfl) ?_
  intro p e s m below meth c ls A hx hb hr hts hown hlk hml hP hK hD hA hS hl
  replace hown : s.vm.findClass RX5 = some m.cls := hown
  replace hl : lv_has ls 4 [(0, .ref (r 0)), (1, .int a), (2, .int q)] := hl
  have hD0 := hD
  have hn7 := hI.1
  have hinX5 : ∀ w ∈ wsX50, w ∈ wsX5_which := by decide +kernel
  have jn_28 : ∀  (x3_28 : Int32) , (x3_28 = f2_ (nb_ a (nI (sn_ B))) (uk_ q 2)) → ∀ (H : Heap) (locs : List Loc), va_P D vwCl (mW cI r B M) H → va_D A (mW cI r B M) → va_S A s.heap H locs → ∀ ls : Array Slot, lv_has ls 4 [(3, .int x3_28), (0, .ref (r 0)), (1, .int a), (2, .int q)] → W p l e (jR 8) s m ([.ref (r 0), .int a, .int q] : List Value).toArray below meth c H locs 0 0 (MQ below (va_Qi (S := MT) (fun r u => r = (if f2_ (nb_ a (nI (sn_ B))) (uk_ q 2) = 0 then gbX_ B (tn_ a) q (mrw_ M) (mrm_ M) else f2_ (nb_ a (nI (sn_ B))) (uk_ q 2)) ∧ oQ_ M u (f2_ (nb_ a (nI (sn_ B))) (uk_ q 2))) (fun u t => va_P D vwCl ((fun u => mW cI r B u) u) t.heap) A) ([.ref (r 0), .int a, .int q] : List Value).toArray s 0 0 A) (F0 m 28 ls []) := by
      intro x3_28 hx3_28 H locs hP hD hS ls hl
      subst x3_28
      replace hl : lv_has ls 4 [(3, .int (f2_ (nb_ a (nI (sn_ B))) (uk_ q 2))), (0, .ref (r 0)), (1, .int a), (2, .int q)] := hl
      replace hP : va_P D vwCl (mW cI r B M) H := hP
      refine lv_iload_n hx hb dX5_which_28 rfl (lv_at hl 0 rfl) ?_
      refine lv_if_eq (tgt := 38) hx hb dX5_which_29 (by decide) (fun c_29 => ?_) (fun c_29 => ?_)
      · skip
        have w0 := c_29
        simp only [wS_, wSN_, wSNW_, wNW_, wTh_, wTr_, f2_0, nb_0, ob_0, uk_0, lo_0, hi_0] at w0
        obtain ⟨a_, ha_, rfl⟩ := pl_lt (n := sn_ B) (by omega) w0.1
        replace hl : lv_has ls 4 [(3, .int (f2_ (nb_ (nI a_) (nI (sn_ B))) (uk_ q 2))), (0, .ref (r 0)), (1, .int (nI a_)), (2, .int q)] := hl
        refine lv_iload_n hx hb dX5_which_38 rfl (lv_at hl 3 rfl) ?_
        refine lv_if_ne (tgt := 56) hx hb dX5_which_39 (by decide) (fun c_39 => ?_) (fun c_39 => ?_)
        · skip
          refine lv_iload_n hx hb dX5_which_56 rfl (lv_at hl 3 rfl) ?_
          refine lv_iconst (v := 1) hx hb dX5_which_57 (by decide) ?_
          refine lv_icmp_ne (tgt := 75) hx hb dX5_which_58 (by decide) (fun c_58 => ?_) (fun c_58 => ?_)
          · skip
            refine lv_aload_n hx hb dX5_which_75 rfl (lv_at hl 1 rfl) ?_
            refine kMiV hx hb hml hown hts hK hP (va_D.adr hD0 (mW_adE rfl)) hA hS gX5_which_X5_pacesSo okX5_pacesSo (qX5_pacesSo l D cI cB r B M hI hrm) [0, 1, 2, 3, 4, 5, 6, 7, 8, 9, 10, 11, 12, 13, 14, 15] rfl (by decide) (fun _ => mW_adr _ _ _ _ _ _) rfl rfl rfl (by decide) hl.1 rfl rfl (Nat.le_of_ble_eq_true rfl) dX5_which_76 (by decide) (fun r_1 u_2 H locs hw_3 hP hD hS => ?_)
            replace hw_3 : r_1 = gb_ B 0 2 (mrw_ M) (mrm_ M) 1 5 ∧ oN_ M u_2 := hw_3
            obtain ⟨hw_3a, hw_3b⟩ := hw_3
            subst r_1
            replace hP : va_P D vwCl (mW cI r B u_2) H := (va_P.m [true, true, true, true, true, true, true, true, true, true, true, true, true, true, true, true] [] hP)
            refine rMi hx hb hr hlk hS u_2 hP ?_ dX5_which_79
            first | exact ⟨(if_neg c_29).symm, oQ_n _ _⟩ | exact ⟨by (rw [if_pos c_29]; simp only [tn_n (show a_ < 2147483648 by omega)]; unfold gbX_; first | (rw [if_pos c_39]; done) | (rw [if_pos c_39]; rfl) | (rw [if_neg c_39, if_pos c_58]; done) | (rw [if_neg c_39, if_pos c_58]; rfl) | (rw [if_neg c_39, if_neg c_58, q2_ w0.2 c_39 c_58]; exact gb_k _ _ _ _ _ _ _)), oQ_0 c_29 (by (first | exact (oN_mk (by assumption)).m | exact oM_.rf _ | exact (oN_pp _ _).m | exact (oN_fo _ _ _ _).m | assumption | (apply oN_.m; assumption) | exact oM_.tr (by assumption) (by assumption)))⟩
          · skip
            refine lv_aload_n hx hb dX5_which_61 rfl (lv_at hl 1 rfl) ?_
            refine lv_aload_n hx hb dX5_which_62 rfl (lv_at hl 1 rfl) ?_
            refine va_get (ci := 5) (C := RX5) (T := TX5) (N := 33) hx hb hts hinX5 hown hK.1 hP 0 rfl rfl 2 (by decide) (hts _ (List.mem_of_getElem? (i := 2) rfl)) (fun _ h9 => h9) rfl dX5_which_63 ?_
            refine lv_iload_n hx hb dX5_which_66 rfl (lv_at hl 2 rfl) ?_
            refine lv_bipush (v := 10) hx hb dX5_which_67 (by decide) ?_
            refine kMiV hx hb hml hown hts hK hP (va_D.adr hD0 (mW_adE rfl)) hA hS gX5_which_X5_bitsFor okX5_bitsFor (qX5_bitsForF l D cI cB r B M a_ 10 hI ha_ hrm (by decide)) [0, 1, 2, 3, 4, 5, 6, 7, 8, 9, 10, 11, 12, 13, 14, 15] rfl (by decide) (fun _ => mW_adr _ _ _ _ _ _) rfl rfl rfl (by decide) hl.1 rfl rfl (Nat.le_of_ble_eq_true rfl) dX5_which_69 (by decide) (fun r_4 u_5 H locs hw_6 hP hD hS => ?_)
            replace hw_6 : r_4 = gb_ B a_ 1 (mrw_ M) (mrm_ M) 0 10 ∧ oN_ M u_5 := hw_6
            obtain ⟨hw_6a, hw_6b⟩ := hw_6
            subst r_4
            replace hP : va_P D vwCl (mW cI r B u_5) H := (va_P.m [true, true, true, true, true, true, true, true, true, true, true, true, true, true, true, true] [] hP)
            refine lv_goto (tgt := 79) hx hb dX5_which_72 (by decide) ?_
            refine rMi hx hb hr hlk hS u_5 hP ?_ dX5_which_79
            first | exact ⟨(if_neg c_29).symm, oQ_n _ _⟩ | exact ⟨by (rw [if_pos c_29]; simp only [tn_n (show a_ < 2147483648 by omega)]; unfold gbX_; first | (rw [if_pos c_39]; done) | (rw [if_pos c_39]; rfl) | (rw [if_neg c_39, if_pos c_58]; done) | (rw [if_neg c_39, if_pos c_58]; rfl) | (rw [if_neg c_39, if_neg c_58, q2_ w0.2 c_39 c_58]; exact gb_k _ _ _ _ _ _ _)), oQ_0 c_29 (by (first | exact (oN_mk (by assumption)).m | exact oM_.rf _ | exact (oN_pp _ _).m | exact (oN_fo _ _ _ _).m | assumption | (apply oN_.m; assumption) | exact oM_.tr (by assumption) (by assumption)))⟩
        · skip
          refine lv_aload_n hx hb dX5_which_42 rfl (lv_at hl 1 rfl) ?_
          refine lv_aload_n hx hb dX5_which_43 rfl (lv_at hl 1 rfl) ?_
          refine va_get (ci := 5) (C := RX5) (T := TX5) (N := 33) hx hb hts hinX5 hown hK.1 hP 0 rfl rfl 1 (by decide) (hts _ (List.mem_of_getElem? (i := 1) rfl)) (fun _ h9 => h9) rfl dX5_which_44 ?_
          refine lv_iload_n hx hb dX5_which_47 rfl (lv_at hl 2 rfl) ?_
          refine lv_bipush (v := 6) hx hb dX5_which_48 (by decide) ?_
          refine kMiV hx hb hml hown hts hK hP (va_D.adr hD0 (mW_adE rfl)) hA hS gX5_which_X5_bitsFor okX5_bitsFor (qX5_bitsForK l D cI cB r B M a_ 6 hI ha_ hrm (by decide)) [0, 1, 2, 3, 4, 5, 6, 7, 8, 9, 10, 11, 12, 13, 14, 15] rfl (by decide) (fun _ => mW_adr _ _ _ _ _ _) rfl rfl rfl (by decide) hl.1 rfl rfl (Nat.le_of_ble_eq_true rfl) dX5_which_50 (by decide) (fun r_7 u_8 H locs hw_9 hP hD hS => ?_)
          replace hw_9 : r_7 = gb_ B a_ 0 (mrw_ M) (mrm_ M) 0 6 ∧ oN_ M u_8 := hw_9
          obtain ⟨hw_9a, hw_9b⟩ := hw_9
          subst r_7
          replace hP : va_P D vwCl (mW cI r B u_8) H := (va_P.m [true, true, true, true, true, true, true, true, true, true, true, true, true, true, true, true] [] hP)
          refine lv_goto (tgt := 79) hx hb dX5_which_53 (by decide) ?_
          refine rMi hx hb hr hlk hS u_8 hP ?_ dX5_which_79
          first | exact ⟨(if_neg c_29).symm, oQ_n _ _⟩ | exact ⟨by (rw [if_pos c_29]; simp only [tn_n (show a_ < 2147483648 by omega)]; unfold gbX_; first | (rw [if_pos c_39]; done) | (rw [if_pos c_39]; rfl) | (rw [if_neg c_39, if_pos c_58]; done) | (rw [if_neg c_39, if_pos c_58]; rfl) | (rw [if_neg c_39, if_neg c_58, q2_ w0.2 c_39 c_58]; exact gb_k _ _ _ _ _ _ _)), oQ_0 c_29 (by (first | exact (oN_mk (by assumption)).m | exact oM_.rf _ | exact (oN_pp _ _).m | exact (oN_fo _ _ _ _).m | assumption | (apply oN_.m; assumption) | exact oM_.tr (by assumption) (by assumption)))⟩
      · skip
        refine lv_aload_n hx hb dX5_which_32 rfl (lv_at hl 1 rfl) ?_
        refine lv_iload_n hx hb dX5_which_33 rfl (lv_at hl 0 rfl) ?_
        refine kMiV hx hb hml hown hts hK hP (va_D.adr hD0 (mW_adE rfl)) hA hS gX5_which_X5_no okX5_no (qX5_no l D cI cB r B M (f2_ (nb_ a (nI (sn_ B))) (uk_ q 2)) (rc0_n (by first | exact rc0_wS _ _ | exact rc0_wSN _ _ _ | exact rc0_wSNW _ _ _ _ | exact rc0_wNW _ _ | exact rc0_wTh _ _ _ _ _ | exact rc0_wTr _ _ _ _ | exact rc0_nb _ _ | exact rc0_uk _ _ | exact rc0_ob _ _ _ | exact rc0_f2 (rc0_nb _ _) (rc0_nb _ _) | exact rc0_f2 (rc0_nb _ _) (rc0_uk _ _) | exact rc0_f2 (rc0_ob _ _ _) (rc0_uk _ _) | exact rc0_f2 (rc0_uk _ _) (rc0_f2 (rc0_uk _ _) (rc0_ob _ _ _))) c_29)) [0, 1, 2, 3, 4, 5, 6, 7, 8, 9, 10, 11, 12, 13, 14, 15] rfl (by decide) (fun _ => mW_adr _ _ _ _ _ _) rfl rfl rfl (by decide) hl.1 rfl rfl (Nat.le_of_ble_eq_true rfl) dX5_which_34 (by decide) (fun r_10 u_11 H locs hw_12 hP hD hS => ?_)
        replace hw_12 : r_10 = f2_ (nb_ a (nI (sn_ B))) (uk_ q 2) ∧ u_11 = (rfm_ M (f2_ (nb_ a (nI (sn_ B))) (uk_ q 2))) := hw_12
        obtain ⟨hw_12a, hw_12b⟩ := hw_12
        subst r_10
        subst u_11
        replace hP : va_P D vwCl ([(r 0, .inr (5, [.ref (r 1), .ref (r 2), .ref (r 3), .ref (r 4), .ref (r 5), .ref (r 6), .int (nI (sn_ B)), .int (qt_ B), .int (il_ B), .int (pa_ B), .int (ho_ B), .int (dy_ B), .ref (r 13), .ref (r 14), .ref (r 15), .ref (r 16), .int (nI (mtn_ M)), .int (nI (mrd_ M)), .int (nI (msm_ M)), .ref (r 20), .int (mhi_ M), .int (mik_ M), .int (nI (mcu_ M)), .int (nI (mbk_ M)), .ref (r 25), .ref (r 26), .int (mlw_ M), .int (mhg_ M), .int (msl_ M), .ref (r 30), .int (nI (mrm_ M)), .ref (r 32), .int (mlo_ M)])), (r 1, .inl (cI, 7, .inl (rfx_ (mrf_ M) (f2_ (nb_ a (nI (sn_ B))) (uk_ q 2))))), (r 2, .inl (cI, 7, .inl (kd_ B))), (r 3, .inl (cI, 7, .inl (fg_ B))), (r 4, .inl (cI, 7, .inl (pl_ B))), (r 5, .inl (cI, 7, .inl (pw_ B))), (r 6, .inl (cI, 7, .inl (jy_ B))), (r 13, .inl (cI, 96, .inl (mtp_ M))), (r 14, .inl (cI, 48, .inl (mlt_ M))), (r 15, .inl (cI, 48, .inl (mla_ M))), (r 16, .inl (cI, 144, .inl (mtd_ M))), (r 20, .inl (cI, 451, .inl (flatK (mkp_ M)))), (r 25, .inl (cI, 7, .inl (mof_ M))), (r 26, .inl (cI, 7, .inl (mfa_ M))), (r 30, .inl (cI, 12, .inl (mrw_ M))), (r 32, .inl (cI, 8, .inl (mhb_ M)))]) H := (va_P.m [true, true, true, true, true, true, true, true, true, true, true, true, true, true, true, true] [] hP)
        refine rMi hx hb hr hlk hS (rfm_ M (f2_ (nb_ a (nI (sn_ B))) (uk_ q 2))) hP ?_ dX5_which_37
        first | exact ⟨(if_neg c_29).symm, oQ_n _ _⟩ | exact ⟨by (rw [if_pos c_29]; simp only [tn_n (show a_ < 2147483648 by omega)]; unfold gbX_; first | (rw [if_pos c_39]; done) | (rw [if_pos c_39]; rfl) | (rw [if_neg c_39, if_pos c_58]; done) | (rw [if_neg c_39, if_pos c_58]; rfl) | (rw [if_neg c_39, if_neg c_58, q2_ w0.2 c_39 c_58]; exact gb_k _ _ _ _ _ _ _)), oQ_0 c_29 (by (first | exact (oN_mk (by assumption)).m | exact oM_.rf _ | exact (oN_pp _ _).m | exact (oN_fo _ _ _ _).m | assumption | (apply oN_.m; assumption) | exact oM_.tr (by assumption) (by assumption)))⟩
  refine lv_aload_n hx hb dX5_which_0 rfl (lv_at hl 0 rfl) ?_
  refine lv_iload_n hx hb dX5_which_1 rfl (lv_at hl 1 rfl) ?_
  refine kSiV hx hb hml hown hts hK hP gX5_which_X5_isShore okX5_isShore (qX5_isShore l D cI cB r B M a (by show sn_ B ≤ 7; omega)) [0, 1, 2, 3, 4, 5, 6, 7, 8, 9, 10, 11, 12, 13, 14, 15] rfl rfl rfl rfl (by decide) hl.1 rfl rfl (Nat.le_of_ble_eq_true rfl) dX5_which_2 (by decide) (fun r_13 hr_14 => ?_)
  replace hr_14 : r_13 = b1 (0 ≤ a ∧ a < nI (sn_ B)) := hr_14
  subst r_13
  refine lv_if_ne (tgt := 12) hx hb dX5_which_5 (by decide) (fun c_5 => ?_) (fun c_5 => ?_)
  · replace c_5 := b1_n c_5
    refine lv_iload_n hx hb dX5_which_12 rfl (lv_at hl 2 rfl) ?_
    refine lv_iconst (v := 0) hx hb dX5_which_13 (by decide) ?_
    refine lv_iconst (v := 2) hx hb dX5_which_14 (by decide) ?_
    refine kSiS hx hb hml hown hts hK hP gX5_which_X5_isIn okX5_isIn (qX5_isIn l D cI cB q 0 2 ) [] rfl (by decide) hl.1 rfl rfl (Nat.le_of_ble_eq_true rfl) dX5_which_15 (by decide) (fun r_15 hr_16 => ?_)
    replace hr_16 : r_15 = b1 (0 ≤ q ∧ q ≤ 2) := hr_16
    subst r_15
    refine lv_if_ne (tgt := 26) hx hb dX5_which_18 (by decide) (fun c_18 => ?_) (fun c_18 => ?_)
    · replace c_18 := b1_n c_18
      refine lv_iconst (v := 0) hx hb dX5_which_26 (by decide) ?_
      refine lv_istore_n (lv' := [(3, .int 0), (0, .ref (r 0)), (1, .int a), (2, .int q)]) hx hb dX5_which_27 rfl hl (by decide) rfl (fun ls hl => ?_)
      exact jn_28  0  (by first | exact ((f2_a (by rw [nb_o c_5]; decide)).trans (nb_o c_5)).symm | exact ((f2_b (nb_i c_5)).trans (uk_o c_18)).symm | exact ((f2_b (nb_i c_5)).trans (uk_i c_18)).symm)   _ _ hP (va_D.adr hD0 (mW_adE rfl)) hS ls (lv_sub hl [0, 1, 2, 3] rfl)
    · replace c_18 := b1_z c_18
      refine lv_bipush (v := (-2)) hx hb dX5_which_21 (by decide) ?_
      refine lv_goto (tgt := 27) hx hb dX5_which_23 (by decide) ?_
      refine lv_istore_n (lv' := [(3, .int (-2)), (0, .ref (r 0)), (1, .int a), (2, .int q)]) hx hb dX5_which_27 rfl hl (by decide) rfl (fun ls hl => ?_)
      exact jn_28  (-2)  (by first | exact ((f2_a (by rw [nb_o c_5]; decide)).trans (nb_o c_5)).symm | exact ((f2_b (nb_i c_5)).trans (uk_o c_18)).symm | exact ((f2_b (nb_i c_5)).trans (uk_i c_18)).symm)   _ _ hP (va_D.adr hD0 (mW_adE rfl)) hS ls (lv_sub hl [0, 1, 2, 3] rfl)
  · replace c_5 := b1_z c_5
    refine lv_iconst (v := (-1)) hx hb dX5_which_8 (by decide) ?_
    refine lv_goto (tgt := 27) hx hb dX5_which_9 (by decide) ?_
    refine lv_istore_n (lv' := [(3, .int (-1)), (0, .ref (r 0)), (1, .int a), (2, .int q)]) hx hb dX5_which_27 rfl hl (by decide) rfl (fun ls hl => ?_)
    exact jn_28  (-1)  (by first | exact ((f2_a (by rw [nb_o c_5]; decide)).trans (nb_o c_5)).symm | exact ((f2_b (nb_i c_5)).trans (uk_o c_18)).symm | exact ((f2_b (nb_i c_5)).trans (uk_i c_18)).symm)   _ _ hP (va_D.adr hD0 (mW_adE rfl)) hS ls (lv_sub hl [0, 1, 2, 3] rfl)

theorem okX5_thunder : jok yX5_thunder wsX5_thunder cX5_thunder 14 (some .long) 4 := ⟨⟨_, rfl⟩, by decide +kernel, by decide +kernel⟩
set_option maxHeartbeats 2000000 in
set_option maxRecDepth 100000 in
theorem qX5_thunder (l : Launch) (D : va_G) (cI cB : ClassId) (r : Nat → Nat) (B : BayT) (M : MT) (a : Int32) (v : Int32) (t_9 : Int32) (p_9 : Int32) (hI : bI_ B) : jMl D cI cB l yX5_thunder wsX5_thunder 6 [.ref (r 0), .int a, .int v, .int t_9, .int p_9] (mW cI r B M) (S := MT) (fun r u => r = (if wTh_ (sn_ B) a v t_9 p_9 = 0 then it_ (wy_ B (tn_ a) (tn_ v) t_9 (p2_ (tn_ v))) (pw_l t_9.toInt64 (tn_ v)) p_9 else lref_ (wTh_ (sn_ B) a v t_9 p_9)) ∧ oQ_ M u (wTh_ (sn_ B) a v t_9 p_9)) (fun u => mW cI r B u) := by
  refine jMl.of (cc := cX5_thunder) (maxL := 14) (ret := (some .long)) okX5_thunder (Nat.le_of_ble_eq_true rfl) ?_
  intro p e s m below meth c ls A hx hb hr hts hown hlk hml hP hK hD hA hS hl
  replace hown : s.vm.findClass RX5 = some m.cls := hown
  replace hl : lv_has ls 14 [(0, .ref (r 0)), (1, .int a), (2, .int v), (3, .int t_9), (4, .int p_9)] := hl
  have hD0 := hD
  have hn7 := hI.1
  have jn_61 : ∀  (x5_61 : Int32) , (x5_61 = wTh_ (sn_ B) a v t_9 p_9) → ∀ (H : Heap) (locs : List Loc), va_P D vwCl (mW cI r B M) H → va_D A (mW cI r B M) → va_S A s.heap H locs → ∀ ls : Array Slot, lv_has ls 14 [(5, .int x5_61), (0, .ref (r 0)), (1, .int a), (2, .int v), (3, .int t_9), (4, .int p_9)] → W p l e (jR 6) s m ([.ref (r 0), .int a, .int v, .int t_9, .int p_9] : List Value).toArray below meth c H locs 0 0 (MQ below (va_Ql (S := MT) (fun r u => r = (if wTh_ (sn_ B) a v t_9 p_9 = 0 then it_ (wy_ B (tn_ a) (tn_ v) t_9 (p2_ (tn_ v))) (pw_l t_9.toInt64 (tn_ v)) p_9 else lref_ (wTh_ (sn_ B) a v t_9 p_9)) ∧ oQ_ M u (wTh_ (sn_ B) a v t_9 p_9)) (fun u t => va_P D vwCl ((fun u => mW cI r B u) u) t.heap) A) ([.ref (r 0), .int a, .int v, .int t_9, .int p_9] : List Value).toArray s 0 0 A) (F0 m 61 ls []) := by
      intro x5_61 hx5_61 H locs hP hD hS ls hl
      subst x5_61
      replace hl : lv_has ls 14 [(5, .int (wTh_ (sn_ B) a v t_9 p_9)), (0, .ref (r 0)), (1, .int a), (2, .int v), (3, .int t_9), (4, .int p_9)] := hl
      replace hP : va_P D vwCl (mW cI r B M) H := hP
      refine lv_iload hx hb dX5_thunder_61 (lv_at hl 0 rfl) ?_
      refine lv_if_eq (tgt := 73) hx hb dX5_thunder_63 (by decide) (fun c_63 => ?_) (fun c_63 => ?_)
      · skip
        have w0 := c_63
        simp only [wS_, wSN_, wSNW_, wNW_, wTh_, wTr_, f2_0, nb_0, ob_0, uk_0, lo_0, hi_0] at w0
        obtain ⟨a_, ha_, rfl⟩ := pl_lt (n := sn_ B) (by omega) w0.1.1
        obtain ⟨v_, hv_, rfl⟩ := pl_le (n := 7) (by decide) ⟨w0.1.2.1, w0.2.1.1⟩
        obtain ⟨t_, ht_, rfl⟩ := pl_le (n := 20) (by decide) ⟨Int32.le_trans (by decide) w0.1.2.2, w0.2.1.2⟩
        replace hl : lv_has ls 14 [(5, .int (wTh_ (sn_ B) (nI a_) (nI v_) (nI t_) p_9)), (0, .ref (r 0)), (1, .int (nI a_)), (2, .int (nI v_)), (3, .int (nI t_)), (4, .int p_9)] := hl
        refine lv_lconst (v := 0) hx hb dX5_thunder_73 rfl ?_
        refine lv_lstore (lv' := [(6, .long 0), (5, .int (wTh_ (sn_ B) (nI a_) (nI v_) (nI t_) p_9)), (0, .ref (r 0)), (1, .int (nI a_)), (2, .int (nI v_)), (3, .int (nI t_)), (4, .int p_9)]) hx hb dX5_thunder_74 hl (by decide) rfl (fun ls hl => ?_)
        refine lv_lconst (v := 1) hx hb dX5_thunder_76 rfl ?_
        refine lv_lstore (lv' := [(8, .long 1), (6, .long 0), (5, .int (wTh_ (sn_ B) (nI a_) (nI v_) (nI t_) p_9)), (0, .ref (r 0)), (1, .int (nI a_)), (2, .int (nI v_)), (3, .int (nI t_)), (4, .int p_9)]) hx hb dX5_thunder_77 hl (by decide) rfl (fun ls hl => ?_)
        refine lv_iconst (v := 0) hx hb dX5_thunder_79 (by decide) ?_
        refine lv_istore (lv' := [(10, .int 0), (8, .long 1), (6, .long 0), (5, .int (wTh_ (sn_ B) (nI a_) (nI v_) (nI t_) p_9)), (0, .ref (r 0)), (1, .int (nI a_)), (2, .int (nI v_)), (3, .int (nI t_)), (4, .int p_9)]) hx hb dX5_thunder_80 hl (by decide) rfl (fun ls hl => ?_)
        have lp_82 : ∀ (fu_82 : Nat) (i8 : Nat) (x8_82 : Int64) (x10_82 : Int32) , (x8_82 = pw_l (nI t_).toInt64 i8) → (x10_82 = nI i8) → (i8 ≤ v_) → v_ - i8 < fu_82 → ∀ (H : Heap) (locs : List Loc), va_P D vwCl (mW cI r B M) H → va_D A (mW cI r B M) → va_S A s.heap H locs → ∀ ls : Array Slot, lv_has ls 14 [(10, .int x10_82), (8, .long x8_82), (6, .long 0), (5, .int (wTh_ (sn_ B) (nI a_) (nI v_) (nI t_) p_9)), (0, .ref (r 0)), (1, .int (nI a_)), (2, .int (nI v_)), (3, .int (nI t_)), (4, .int p_9)] → W p l e (jR 6) s m ([.ref (r 0), .int (nI a_), .int (nI v_), .int (nI t_), .int p_9] : List Value).toArray below meth c H locs 0 0 (MQ below (va_Ql (S := MT) (fun r u => r = (if wTh_ (sn_ B) (nI a_) (nI v_) (nI t_) p_9 = 0 then it_ (wy_ B (tn_ (nI a_)) (tn_ (nI v_)) (nI t_) (p2_ (tn_ (nI v_)))) (pw_l (nI t_).toInt64 (tn_ (nI v_))) p_9 else lref_ (wTh_ (sn_ B) (nI a_) (nI v_) (nI t_) p_9)) ∧ oQ_ M u (wTh_ (sn_ B) (nI a_) (nI v_) (nI t_) p_9)) (fun u t => va_P D vwCl ((fun u => mW cI r B u) u) t.heap) A) ([.ref (r 0), .int (nI a_), .int (nI v_), .int (nI t_), .int p_9] : List Value).toArray s 0 0 A) (F0 m 82 ls []) := by
          intro fu_82
          induction fu_82 with
          | zero => intro i8 x8_82 x10_82 hx8_82 hx10_82 hi hfu; exact absurd hfu (Nat.not_lt_zero _)
          | succ fu_82 ih_82 =>
            intro i8 x8_82 x10_82 hx8_82 hx10_82 hi hfu_82 H locs hP hD hS ls hl
            subst x8_82
            subst x10_82
            replace hl : lv_has ls 14 [(10, .int (nI i8)), (8, .long (pw_l (nI t_).toInt64 i8)), (6, .long 0), (5, .int (wTh_ (sn_ B) (nI a_) (nI v_) (nI t_) p_9)), (0, .ref (r 0)), (1, .int (nI a_)), (2, .int (nI v_)), (3, .int (nI t_)), (4, .int p_9)] := hl
            replace hP : va_P D vwCl (mW cI r B M) H := hP
            refine lv_iload hx hb dX5_thunder_82 (lv_at hl 0 rfl) ?_
            refine lv_iload_n hx hb dX5_thunder_84 rfl (lv_at hl 6 rfl) ?_
            refine lv_icmp_ge (tgt := 101) hx hb dX5_thunder_85 (by decide) (fun c_85 => ?_) (fun c_85 => ?_)
            · replace c_85 : nI v_ ≤ nI i8 := c_85
              rw [jle (by omega) (by omega)] at c_85
              have e8 : i8 = v_ := by omega
              rw [e8] at hl
              refine lv_iconst (v := 0) hx hb dX5_thunder_101 (by decide) ?_
              refine lv_istore (lv' := [(10, .int 0), (8, .long (pw_l (nI t_).toInt64 v_)), (6, .long 0), (5, .int (wTh_ (sn_ B) (nI a_) (nI v_) (nI t_) p_9)), (0, .ref (r 0)), (1, .int (nI a_)), (2, .int (nI v_)), (3, .int (nI t_)), (4, .int p_9)]) hx hb dX5_thunder_102 hl (by decide) rfl (fun ls hl => ?_)
              have hp2 := p2_7 (n := v_) (by omega)
              have ht2 : 2 ≤ t_ := (jle (a := 2) (by decide) (by omega)).mp w0.1.2.2
              have lp_104 : ∀ (fu_104 : Nat) (i : Nat) (x6_104 : Int64) (x10_104 : Int32) (M2 : MT), (x6_104 = wy_ B a_ v_ (nI t_) i) → (x10_104 = nI i) → (i ≤ p2_ v_) → (oN_ M M2) → p2_ v_ - i < fu_104 → ∀ (H : Heap) (locs : List Loc), va_P D vwCl (mW cI r B M2) H → va_D A (mW cI r B M2) → va_S A s.heap H locs → ∀ ls : Array Slot, lv_has ls 14 [(10, .int x10_104), (8, .long (pw_l (nI t_).toInt64 v_)), (6, .long x6_104), (5, .int (wTh_ (sn_ B) (nI a_) (nI v_) (nI t_) p_9)), (0, .ref (r 0)), (1, .int (nI a_)), (2, .int (nI v_)), (3, .int (nI t_)), (4, .int p_9)] → W p l e (jR 6) s m ([.ref (r 0), .int (nI a_), .int (nI v_), .int (nI t_), .int p_9] : List Value).toArray below meth c H locs 0 0 (MQ below (va_Ql (S := MT) (fun r u => r = (if wTh_ (sn_ B) (nI a_) (nI v_) (nI t_) p_9 = 0 then it_ (wy_ B (tn_ (nI a_)) (tn_ (nI v_)) (nI t_) (p2_ (tn_ (nI v_)))) (pw_l (nI t_).toInt64 (tn_ (nI v_))) p_9 else lref_ (wTh_ (sn_ B) (nI a_) (nI v_) (nI t_) p_9)) ∧ oQ_ M u (wTh_ (sn_ B) (nI a_) (nI v_) (nI t_) p_9)) (fun u t => va_P D vwCl ((fun u => mW cI r B u) u) t.heap) A) ([.ref (r 0), .int (nI a_), .int (nI v_), .int (nI t_), .int p_9] : List Value).toArray s 0 0 A) (F0 m 104 ls []) := by
                intro fu_104
                induction fu_104 with
                | zero => intro i x6_104 x10_104 M2 hx6_104 hx10_104 hi hM hfu; exact absurd hfu (Nat.not_lt_zero _)
                | succ fu_104 ih_104 =>
                  intro i x6_104 x10_104 M2 hx6_104 hx10_104 hi hM hfu_104 H locs hP hD hS ls hl
                  subst x6_104
                  subst x10_104
                  replace hl : lv_has ls 14 [(10, .int (nI i)), (8, .long (pw_l (nI t_).toInt64 v_)), (6, .long (wy_ B a_ v_ (nI t_) i)), (5, .int (wTh_ (sn_ B) (nI a_) (nI v_) (nI t_) p_9)), (0, .ref (r 0)), (1, .int (nI a_)), (2, .int (nI v_)), (3, .int (nI t_)), (4, .int p_9)] := hl
                  replace hP : va_P D vwCl (mW cI r B M2) H := hP
                  refine lv_iload hx hb dX5_thunder_104 (lv_at hl 0 rfl) ?_
                  refine lv_iconst (v := 1) hx hb dX5_thunder_106 (by decide) ?_
                  refine lv_iload_n hx hb dX5_thunder_107 rfl (lv_at hl 6 rfl) ?_
                  refine lv_ishl hx hb dX5_thunder_108 ?_
                  refine lv_icmp_ge (tgt := 197) hx hb dX5_thunder_109 (by decide) (fun c_109 => ?_) (fun c_109 => ?_)
                  · rw [sh_n (by omega), jle (by omega) (by omega)] at c_109
                    refine lv_lload hx hb dX5_thunder_197 (lv_at hl 2 rfl) ?_
                    refine lv_lload hx hb dX5_thunder_199 (lv_at hl 1 rfl) ?_
                    refine lv_iload hx hb dX5_thunder_201 (lv_at hl 8 rfl) ?_
                    refine kSlS hx hb hml hown hts hK hP gX5_thunder_X5_partOf okX5_partOf (qX5_partOf l D cI cB (wy_ B a_ v_ (nI t_) i) (pw_l (nI t_).toInt64 v_) p_9 (by rw [show i = p2_ v_ by omega]; exact wy_N ht2 (by omega) (by omega)) (by exact pwl_N ht2 (by omega) (by omega))) [] rfl (by decide) hl.1 rfl rfl (Nat.le_of_ble_eq_true rfl) dX5_thunder_203 (by decide) (fun r_1 hr_2 => ?_)
                    replace hr_2 : r_1 = it_ (wy_ B a_ v_ (nI t_) i) (pw_l (nI t_).toInt64 v_) p_9 := hr_2
                    subst r_1
                    refine rMl hx hb hr hlk hS M2 hP ?_ dX5_thunder_206
                    first | exact ⟨(if_neg c_63).symm, oQ_n _ _⟩ | exact ⟨by (rw [if_pos c_63]; simp only [tn_n (show a_ < 2147483648 by omega), tn_n (show v_ < 2147483648 by omega), tn_n (show t_ < 2147483648 by omega)]; rw [show i = p2_ v_ by omega]), oQ_0 c_63 (by (first | exact (oN_mk (by assumption)).m | exact oM_.rf _ | exact (oN_pp _ _).m | exact (oN_fo _ _ _ _).m | assumption | (apply oN_.m; assumption) | exact oM_.tr (by assumption) (by assumption)))⟩
                  · rw [sh_n (by omega), jle (by omega) (by omega)] at c_109
                    refine lv_aload_n hx hb dX5_thunder_112 rfl (lv_at hl 4 rfl) ?_
                    refine kMvV hx hb hml hown hts hK hP (va_D.adr hD0 (mW_adE rfl)) hA hS gX5_thunder_X5_thinks okX5_thinks (qX5_thinksE l D cI cB r B M2 ) [0, 1, 2, 3, 4, 5, 6, 7, 8, 9, 10, 11, 12, 13, 14, 15] rfl (by decide) (fun _ => mW_adE rfl) rfl rfl rfl (by decide) hl.1 rfl rfl (Nat.le_of_ble_eq_true rfl) dX5_thunder_113 (by decide) (fun u_4 H locs hw_5 hP hD hS => ?_)
                    replace hP : va_P D vwCl ([(r 0, .inr (5, [.ref (r 1), .ref (r 2), .ref (r 3), .ref (r 4), .ref (r 5), .ref (r 6), .int (nI (sn_ B)), .int (qt_ B), .int (il_ B), .int (pa_ B), .int (ho_ B), .int (dy_ B), .ref (r 13), .ref (r 14), .ref (r 15), .ref (r 16), .int (nI (mtn_ M2)), .int (nI (mrd_ M2)), .int (nI (msm_ M2)), .ref (r 20), .int (mhi_ M2), .int (1), .int (nI (41 * 2 + 41)), .int (nI (mbk_ M2)), .ref (r 25), .ref (r 26), .int (mlw_ M2), .int (mhg_ M2), .int (msl_ M2), .ref (r 30), .int (nI (mrm_ M2)), .ref (r 32), .int (mlo_ M2)])), (r 1, .inl (cI, 7, .inl (mrf_ M2))), (r 2, .inl (cI, 7, .inl (kd_ B))), (r 3, .inl (cI, 7, .inl (fg_ B))), (r 4, .inl (cI, 7, .inl (pl_ B))), (r 5, .inl (cI, 7, .inl (pw_ B))), (r 6, .inl (cI, 7, .inl (jy_ B))), (r 13, .inl (cI, 96, .inl (mtp_ M2))), (r 14, .inl (cI, 48, .inl (mlt_ M2))), (r 15, .inl (cI, 48, .inl (mla_ M2))), (r 16, .inl (cI, 144, .inl (mtd_ M2))), (r 20, .inl (cI, 451, .inl (flatK (va_up (mkp_ M2) 2 B)))), (r 25, .inl (cI, 7, .inl (mof_ M2))), (r 26, .inl (cI, 7, .inl (mfa_ M2))), (r 30, .inl (cI, 12, .inl (mrw_ M2))), (r 32, .inl (cI, 8, .inl (mhb_ M2)))]) H := (va_P.m [true, true, true, true, true, true, true, true, true, true, true, true, true, true, true, true] [] hP)
                    refine lv_lconst (v := 1) hx hb dX5_thunder_116 rfl ?_
                    refine lv_lstore (lv' := [(11, .long 1), (10, .int (nI i)), (8, .long (pw_l (nI t_).toInt64 v_)), (6, .long (wy_ B a_ v_ (nI t_) i)), (5, .int (wTh_ (sn_ B) (nI a_) (nI v_) (nI t_) p_9)), (0, .ref (r 0)), (1, .int (nI a_)), (2, .int (nI v_)), (3, .int (nI t_)), (4, .int p_9)]) hx hb dX5_thunder_117 hl (by decide) rfl (fun ls hl => ?_)
                    refine lv_iconst (v := 0) hx hb dX5_thunder_119 (by decide) ?_
                    refine lv_istore (lv' := [(13, .int 0), (11, .long 1), (10, .int (nI i)), (8, .long (pw_l (nI t_).toInt64 v_)), (6, .long (wy_ B a_ v_ (nI t_) i)), (5, .int (wTh_ (sn_ B) (nI a_) (nI v_) (nI t_) p_9)), (0, .ref (r 0)), (1, .int (nI a_)), (2, .int (nI v_)), (3, .int (nI t_)), (4, .int p_9)]) hx hb dX5_thunder_120 hl (by decide) rfl (fun ls hl => ?_)
                    have lp_122 : ∀ (fu_122 : Nat) (j : Nat) (x11_122 : Int64) (x13_122 : Int32) (T3 : BayT), (x11_122 = al_ (nI t_) i j) → (x13_122 = nI j) → (T3 = th_ B i j) → (j ≤ v_) → v_ - j < fu_122 → ∀ (H : Heap) (locs : List Loc), va_P D vwCl ([(r 0, .inr (5, [.ref (r 1), .ref (r 2), .ref (r 3), .ref (r 4), .ref (r 5), .ref (r 6), .int (nI (sn_ T3)), .int (qt_ T3), .int (il_ T3), .int (pa_ T3), .int (ho_ T3), .int (dy_ T3), .ref (r 13), .ref (r 14), .ref (r 15), .ref (r 16), .int (nI (mtn_ M2)), .int (nI (mrd_ M2)), .int (nI (msm_ M2)), .ref (r 20), .int (mhi_ M2), .int (1), .int (nI (41 * 2 + 41)), .int (nI (mbk_ M2)), .ref (r 25), .ref (r 26), .int (mlw_ M2), .int (mhg_ M2), .int (msl_ M2), .ref (r 30), .int (nI (mrm_ M2)), .ref (r 32), .int (mlo_ M2)])), (r 1, .inl (cI, 7, .inl (mrf_ M2))), (r 2, .inl (cI, 7, .inl (kd_ T3))), (r 3, .inl (cI, 7, .inl (fg_ T3))), (r 4, .inl (cI, 7, .inl (pl_ T3))), (r 5, .inl (cI, 7, .inl (pw_ T3))), (r 6, .inl (cI, 7, .inl (jy_ T3))), (r 13, .inl (cI, 96, .inl (mtp_ M2))), (r 14, .inl (cI, 48, .inl (mlt_ M2))), (r 15, .inl (cI, 48, .inl (mla_ M2))), (r 16, .inl (cI, 144, .inl (mtd_ M2))), (r 20, .inl (cI, 451, .inl (flatK (va_up (mkp_ M2) 2 B)))), (r 25, .inl (cI, 7, .inl (mof_ M2))), (r 26, .inl (cI, 7, .inl (mfa_ M2))), (r 30, .inl (cI, 12, .inl (mrw_ M2))), (r 32, .inl (cI, 8, .inl (mhb_ M2)))]) H → va_D A ([(r 0, .inr (5, [.ref (r 1), .ref (r 2), .ref (r 3), .ref (r 4), .ref (r 5), .ref (r 6), .int (nI (sn_ T3)), .int (qt_ T3), .int (il_ T3), .int (pa_ T3), .int (ho_ T3), .int (dy_ T3), .ref (r 13), .ref (r 14), .ref (r 15), .ref (r 16), .int (nI (mtn_ M2)), .int (nI (mrd_ M2)), .int (nI (msm_ M2)), .ref (r 20), .int (mhi_ M2), .int (1), .int (nI (41 * 2 + 41)), .int (nI (mbk_ M2)), .ref (r 25), .ref (r 26), .int (mlw_ M2), .int (mhg_ M2), .int (msl_ M2), .ref (r 30), .int (nI (mrm_ M2)), .ref (r 32), .int (mlo_ M2)])), (r 1, .inl (cI, 7, .inl (mrf_ M2))), (r 2, .inl (cI, 7, .inl (kd_ T3))), (r 3, .inl (cI, 7, .inl (fg_ T3))), (r 4, .inl (cI, 7, .inl (pl_ T3))), (r 5, .inl (cI, 7, .inl (pw_ T3))), (r 6, .inl (cI, 7, .inl (jy_ T3))), (r 13, .inl (cI, 96, .inl (mtp_ M2))), (r 14, .inl (cI, 48, .inl (mlt_ M2))), (r 15, .inl (cI, 48, .inl (mla_ M2))), (r 16, .inl (cI, 144, .inl (mtd_ M2))), (r 20, .inl (cI, 451, .inl (flatK (va_up (mkp_ M2) 2 B)))), (r 25, .inl (cI, 7, .inl (mof_ M2))), (r 26, .inl (cI, 7, .inl (mfa_ M2))), (r 30, .inl (cI, 12, .inl (mrw_ M2))), (r 32, .inl (cI, 8, .inl (mhb_ M2)))]) → va_S A s.heap H locs → ∀ ls : Array Slot, lv_has ls 14 [(13, .int x13_122), (11, .long x11_122), (10, .int (nI i)), (8, .long (pw_l (nI t_).toInt64 v_)), (6, .long (wy_ B a_ v_ (nI t_) i)), (5, .int (wTh_ (sn_ B) (nI a_) (nI v_) (nI t_) p_9)), (0, .ref (r 0)), (1, .int (nI a_)), (2, .int (nI v_)), (3, .int (nI t_)), (4, .int p_9)] → W p l e (jR 6) s m ([.ref (r 0), .int (nI a_), .int (nI v_), .int (nI t_), .int p_9] : List Value).toArray below meth c H locs 0 0 (MQ below (va_Ql (S := MT) (fun r u => r = (if wTh_ (sn_ B) (nI a_) (nI v_) (nI t_) p_9 = 0 then it_ (wy_ B (tn_ (nI a_)) (tn_ (nI v_)) (nI t_) (p2_ (tn_ (nI v_)))) (pw_l (nI t_).toInt64 (tn_ (nI v_))) p_9 else lref_ (wTh_ (sn_ B) (nI a_) (nI v_) (nI t_) p_9)) ∧ oQ_ M u (wTh_ (sn_ B) (nI a_) (nI v_) (nI t_) p_9)) (fun u t => va_P D vwCl ((fun u => mW cI r B u) u) t.heap) A) ([.ref (r 0), .int (nI a_), .int (nI v_), .int (nI t_), .int p_9] : List Value).toArray s 0 0 A) (F0 m 122 ls []) := by
                      intro fu_122
                      induction fu_122 with
                      | zero => intro j x11_122 x13_122 T3 hx11_122 hx13_122 hT3 hj hfu; exact absurd hfu (Nat.not_lt_zero _)
                      | succ fu_122 ih_122 =>
                        intro j x11_122 x13_122 T3 hx11_122 hx13_122 hT3 hj hfu_122 H locs hP hD hS ls hl
                        subst x11_122
                        subst x13_122
                        subst T3
                        replace hl : lv_has ls 14 [(13, .int (nI j)), (11, .long (al_ (nI t_) i j)), (10, .int (nI i)), (8, .long (pw_l (nI t_).toInt64 v_)), (6, .long (wy_ B a_ v_ (nI t_) i)), (5, .int (wTh_ (sn_ B) (nI a_) (nI v_) (nI t_) p_9)), (0, .ref (r 0)), (1, .int (nI a_)), (2, .int (nI v_)), (3, .int (nI t_)), (4, .int p_9)] := hl
                        replace hP : va_P D vwCl ([(r 0, .inr (5, [.ref (r 1), .ref (r 2), .ref (r 3), .ref (r 4), .ref (r 5), .ref (r 6), .int (nI (sn_ (th_ B i j))), .int (qt_ (th_ B i j)), .int (il_ (th_ B i j)), .int (pa_ (th_ B i j)), .int (ho_ (th_ B i j)), .int (dy_ (th_ B i j)), .ref (r 13), .ref (r 14), .ref (r 15), .ref (r 16), .int (nI (mtn_ M2)), .int (nI (mrd_ M2)), .int (nI (msm_ M2)), .ref (r 20), .int (mhi_ M2), .int (1), .int (nI (41 * 2 + 41)), .int (nI (mbk_ M2)), .ref (r 25), .ref (r 26), .int (mlw_ M2), .int (mhg_ M2), .int (msl_ M2), .ref (r 30), .int (nI (mrm_ M2)), .ref (r 32), .int (mlo_ M2)])), (r 1, .inl (cI, 7, .inl (mrf_ M2))), (r 2, .inl (cI, 7, .inl (kd_ (th_ B i j)))), (r 3, .inl (cI, 7, .inl (fg_ (th_ B i j)))), (r 4, .inl (cI, 7, .inl (pl_ (th_ B i j)))), (r 5, .inl (cI, 7, .inl (pw_ (th_ B i j)))), (r 6, .inl (cI, 7, .inl (jy_ (th_ B i j)))), (r 13, .inl (cI, 96, .inl (mtp_ M2))), (r 14, .inl (cI, 48, .inl (mlt_ M2))), (r 15, .inl (cI, 48, .inl (mla_ M2))), (r 16, .inl (cI, 144, .inl (mtd_ M2))), (r 20, .inl (cI, 451, .inl (flatK (va_up (mkp_ M2) 2 B)))), (r 25, .inl (cI, 7, .inl (mof_ M2))), (r 26, .inl (cI, 7, .inl (mfa_ M2))), (r 30, .inl (cI, 12, .inl (mrw_ M2))), (r 32, .inl (cI, 8, .inl (mhb_ M2)))]) H := hP
                        refine lv_iload hx hb dX5_thunder_122 (lv_at hl 0 rfl) ?_
                        refine lv_iload_n hx hb dX5_thunder_124 rfl (lv_at hl 8 rfl) ?_
                        refine lv_icmp_ge (tgt := 168) hx hb dX5_thunder_125 (by decide) (fun c_125 => ?_) (fun c_125 => ?_)
                        · replace c_125 : nI v_ ≤ nI j := c_125
                          rw [jle (by omega) (by omega)] at c_125
                          refine lv_lload hx hb dX5_thunder_168 (lv_at hl 4 rfl) ?_
                          refine lv_aload_n hx hb dX5_thunder_170 rfl (lv_at hl 6 rfl) ?_
                          refine kSiV hx hb hml hown hts hK hP gX5_thunder_X5_holder okX5_holder (qX5_holder l D cI cB r (th_ B i j) (mkM (mrf_ M2) (mtp_ M2) (mlt_ M2) (mla_ M2) (mtd_ M2) (va_up (mkp_ M2) 2 B) (mof_ M2) (mfa_ M2) (mrw_ M2) (mhb_ M2) (mtn_ M2) (mrd_ M2) (msm_ M2) (41 * 2 + 41) (mbk_ M2) (mrm_ M2) (mhi_ M2) 1 (mlw_ M2) (mhg_ M2) (msl_ M2) (mlo_ M2)) (bI_th hI _ _).1) [0, 1, 2, 3, 4, 5, 6, 7, 8, 9, 10, 11, 12, 13, 14, 15] rfl rfl rfl rfl (by decide) hl.1 rfl rfl (Nat.le_of_ble_eq_true rfl) dX5_thunder_171 (by decide) (fun r_6 hr_7 => ?_)
                          replace hr_7 : r_6 = oI_ (ow_ (th_ B i j)) := hr_7
                          subst r_6
                          refine lv_iload_n hx hb dX5_thunder_174 rfl (lv_at hl 7 rfl) ?_
                          refine lv_icmp_ne (tgt := 183) hx hb dX5_thunder_175 (by decide) (fun c_175 => ?_) (fun c_175 => ?_)
                          · skip
                            refine lv_lconst (v := 0) hx hb dX5_thunder_183 rfl ?_
                            refine lv_ladd hx hb dX5_thunder_184 ?_
                            refine lv_lstore (lv' := [(6, .long ((wy_ B a_ v_ (nI t_) i) + 0)), (13, .int (nI j)), (11, .long (al_ (nI t_) i j)), (10, .int (nI i)), (8, .long (pw_l (nI t_).toInt64 v_)), (5, .int (wTh_ (sn_ B) (nI a_) (nI v_) (nI t_) p_9)), (0, .ref (r 0)), (1, .int (nI a_)), (2, .int (nI v_)), (3, .int (nI t_)), (4, .int p_9)]) hx hb dX5_thunder_185 hl (by decide) rfl (fun ls hl => ?_)
                            refine lv_aload_n hx hb dX5_thunder_187 rfl (lv_at hl 6 rfl) ?_
                            refine kMvV hx hb hml hown hts hK hP (va_D.adr hD0 (mW_adE rfl)) hA hS gX5_thunder_X5_forgets okX5_forgets (qX5_forgetsE l D cI cB r (th_ B i j) (mkM (mrf_ M2) (mtp_ M2) (mlt_ M2) (mla_ M2) (mtd_ M2) (va_up (mkp_ M2) 2 B) (mof_ M2) (mfa_ M2) (mrw_ M2) (mhb_ M2) (mtn_ M2) (mrd_ M2) (msm_ M2) (41 * 2 + 41) (mbk_ M2) (mrm_ M2) (mhi_ M2) 1 (mlw_ M2) (mhg_ M2) (msl_ M2) (mlo_ M2)) ) [0, 1, 2, 3, 4, 5, 6, 7, 8, 9, 10, 11, 12, 13, 14, 15] rfl (by decide) (fun _ => mW_adE rfl) rfl rfl rfl (by decide) hl.1 rfl rfl (Nat.le_of_ble_eq_true rfl) dX5_thunder_188 (by decide) (fun u_9 H locs hw_10 hP hD hS => ?_)
                            replace hP : va_P D vwCl ([(r 0, .inr (5, [.ref (r 1), .ref (r 2), .ref (r 3), .ref (r 4), .ref (r 5), .ref (r 6), .int (nI (sn_ B)), .int (qt_ B), .int (il_ B), .int (pa_ B), .int (ho_ B), .int (dy_ B), .ref (r 13), .ref (r 14), .ref (r 15), .ref (r 16), .int (nI (mtn_ M2)), .int (nI (mrd_ M2)), .int (nI (msm_ M2)), .ref (r 20), .int (mhi_ M2), .int (0), .int (nI (41 * 2 + 41)), .int (nI (mbk_ M2)), .ref (r 25), .ref (r 26), .int (mlw_ M2), .int (mhg_ M2), .int (msl_ M2), .ref (r 30), .int (nI (mrm_ M2)), .ref (r 32), .int (mlo_ M2)])), (r 1, .inl (cI, 7, .inl (mrf_ M2))), (r 2, .inl (cI, 7, .inl (kd_ B))), (r 3, .inl (cI, 7, .inl (fg_ B))), (r 4, .inl (cI, 7, .inl (pl_ B))), (r 5, .inl (cI, 7, .inl (pw_ B))), (r 6, .inl (cI, 7, .inl (jy_ B))), (r 13, .inl (cI, 96, .inl (mtp_ M2))), (r 14, .inl (cI, 48, .inl (mlt_ M2))), (r 15, .inl (cI, 48, .inl (mla_ M2))), (r 16, .inl (cI, 144, .inl (mtd_ M2))), (r 20, .inl (cI, 451, .inl (flatK (va_up (mkp_ M2) 2 B)))), (r 25, .inl (cI, 7, .inl (mof_ M2))), (r 26, .inl (cI, 7, .inl (mfa_ M2))), (r 30, .inl (cI, 12, .inl (mrw_ M2))), (r 32, .inl (cI, 8, .inl (mhb_ M2)))]) H := (va_P.m [true, true, true, true, true, true, true, true, true, true, true, true, true, true, true, true] [] hP)
                            refine lv_iinc (v := (nI i) + 1) (lv' := [(10, .int ((nI i) + 1)), (6, .long ((wy_ B a_ v_ (nI t_) i) + 0)), (13, .int (nI j)), (11, .long (al_ (nI t_) i j)), (8, .long (pw_l (nI t_).toInt64 v_)), (5, .int (wTh_ (sn_ B) (nI a_) (nI v_) (nI t_) p_9)), (0, .ref (r 0)), (1, .int (nI a_)), (2, .int (nI v_)), (3, .int (nI t_)), (4, .int p_9)]) hx hb dX5_thunder_191 hl (k := 3) rfl (by first | rfl | decide) (by decide) rfl (fun ls hl => ?_)
                            refine lv_goto (tgt := 104) hx hb dX5_thunder_194 (by decide) ?_
                            exact ih_104 (i + 1) ((wy_ B a_ v_ (nI t_) i) + 0) ((nI i) + 1) (mkM (mrf_ M2) (mtp_ M2) (mlt_ M2) (mla_ M2) (mtd_ M2) (va_up (mkp_ M2) 2 B) (mof_ M2) (mfa_ M2) (mrw_ M2) (mhb_ M2) (mtn_ M2) (mrd_ M2) (msm_ M2) (41 * 2 + 41) (mbk_ M2) (mrm_ M2) (mhi_ M2) 0 (mlw_ M2) (mhg_ M2) (msl_ M2) (mlo_ M2)) (by first | exact wy_y (by omega) ((ow_own (bI_th hI _ _) (by rw [sn_th]; exact ha_)).mp c_175) | exact wy_n (by omega) (fun z => c_175 ((ow_own (bI_th hI _ _) (by rw [sn_th]; exact ha_)).mpr z))) (by first | rfl | exact nI_1 _) (by omega) (oN_.tr hM (oN_pp _ _)) (by omega) _ _ hP (va_D.adr hD0 (mW_adE rfl)) hS ls (lv_sub hl [0, 4, 1, 5, 6, 7, 8, 9, 10] rfl)
                          · skip
                            refine lv_lload hx hb dX5_thunder_178 (lv_at hl 1 rfl) ?_
                            refine lv_goto (tgt := 184) hx hb dX5_thunder_180 (by decide) ?_
                            refine lv_ladd hx hb dX5_thunder_184 ?_
                            refine lv_lstore (lv' := [(6, .long ((wy_ B a_ v_ (nI t_) i) + (al_ (nI t_) i j))), (13, .int (nI j)), (11, .long (al_ (nI t_) i j)), (10, .int (nI i)), (8, .long (pw_l (nI t_).toInt64 v_)), (5, .int (wTh_ (sn_ B) (nI a_) (nI v_) (nI t_) p_9)), (0, .ref (r 0)), (1, .int (nI a_)), (2, .int (nI v_)), (3, .int (nI t_)), (4, .int p_9)]) hx hb dX5_thunder_185 hl (by decide) rfl (fun ls hl => ?_)
                            refine lv_aload_n hx hb dX5_thunder_187 rfl (lv_at hl 6 rfl) ?_
                            refine kMvV hx hb hml hown hts hK hP (va_D.adr hD0 (mW_adE rfl)) hA hS gX5_thunder_X5_forgets okX5_forgets (qX5_forgetsE l D cI cB r (th_ B i j) (mkM (mrf_ M2) (mtp_ M2) (mlt_ M2) (mla_ M2) (mtd_ M2) (va_up (mkp_ M2) 2 B) (mof_ M2) (mfa_ M2) (mrw_ M2) (mhb_ M2) (mtn_ M2) (mrd_ M2) (msm_ M2) (41 * 2 + 41) (mbk_ M2) (mrm_ M2) (mhi_ M2) 1 (mlw_ M2) (mhg_ M2) (msl_ M2) (mlo_ M2)) ) [0, 1, 2, 3, 4, 5, 6, 7, 8, 9, 10, 11, 12, 13, 14, 15] rfl (by decide) (fun _ => mW_adE rfl) rfl rfl rfl (by decide) hl.1 rfl rfl (Nat.le_of_ble_eq_true rfl) dX5_thunder_188 (by decide) (fun u_12 H locs hw_13 hP hD hS => ?_)
                            replace hP : va_P D vwCl ([(r 0, .inr (5, [.ref (r 1), .ref (r 2), .ref (r 3), .ref (r 4), .ref (r 5), .ref (r 6), .int (nI (sn_ B)), .int (qt_ B), .int (il_ B), .int (pa_ B), .int (ho_ B), .int (dy_ B), .ref (r 13), .ref (r 14), .ref (r 15), .ref (r 16), .int (nI (mtn_ M2)), .int (nI (mrd_ M2)), .int (nI (msm_ M2)), .ref (r 20), .int (mhi_ M2), .int (0), .int (nI (41 * 2 + 41)), .int (nI (mbk_ M2)), .ref (r 25), .ref (r 26), .int (mlw_ M2), .int (mhg_ M2), .int (msl_ M2), .ref (r 30), .int (nI (mrm_ M2)), .ref (r 32), .int (mlo_ M2)])), (r 1, .inl (cI, 7, .inl (mrf_ M2))), (r 2, .inl (cI, 7, .inl (kd_ B))), (r 3, .inl (cI, 7, .inl (fg_ B))), (r 4, .inl (cI, 7, .inl (pl_ B))), (r 5, .inl (cI, 7, .inl (pw_ B))), (r 6, .inl (cI, 7, .inl (jy_ B))), (r 13, .inl (cI, 96, .inl (mtp_ M2))), (r 14, .inl (cI, 48, .inl (mlt_ M2))), (r 15, .inl (cI, 48, .inl (mla_ M2))), (r 16, .inl (cI, 144, .inl (mtd_ M2))), (r 20, .inl (cI, 451, .inl (flatK (va_up (mkp_ M2) 2 B)))), (r 25, .inl (cI, 7, .inl (mof_ M2))), (r 26, .inl (cI, 7, .inl (mfa_ M2))), (r 30, .inl (cI, 12, .inl (mrw_ M2))), (r 32, .inl (cI, 8, .inl (mhb_ M2)))]) H := (va_P.m [true, true, true, true, true, true, true, true, true, true, true, true, true, true, true, true] [] hP)
                            refine lv_iinc (v := (nI i) + 1) (lv' := [(10, .int ((nI i) + 1)), (6, .long ((wy_ B a_ v_ (nI t_) i) + (al_ (nI t_) i j))), (13, .int (nI j)), (11, .long (al_ (nI t_) i j)), (8, .long (pw_l (nI t_).toInt64 v_)), (5, .int (wTh_ (sn_ B) (nI a_) (nI v_) (nI t_) p_9)), (0, .ref (r 0)), (1, .int (nI a_)), (2, .int (nI v_)), (3, .int (nI t_)), (4, .int p_9)]) hx hb dX5_thunder_191 hl (k := 3) rfl (by first | rfl | decide) (by decide) rfl (fun ls hl => ?_)
                            refine lv_goto (tgt := 104) hx hb dX5_thunder_194 (by decide) ?_
                            exact ih_104 (i + 1) ((wy_ B a_ v_ (nI t_) i) + (al_ (nI t_) i j)) ((nI i) + 1) (mkM (mrf_ M2) (mtp_ M2) (mlt_ M2) (mla_ M2) (mtd_ M2) (va_up (mkp_ M2) 2 B) (mof_ M2) (mfa_ M2) (mrw_ M2) (mhb_ M2) (mtn_ M2) (mrd_ M2) (msm_ M2) (41 * 2 + 41) (mbk_ M2) (mrm_ M2) (mhi_ M2) 0 (mlw_ M2) (mhg_ M2) (msl_ M2) (mlo_ M2)) (by first | exact wy_y (by omega) ((ow_own (bI_th hI _ _) (by rw [sn_th]; exact ha_)).mp c_175) | exact wy_n (by omega) (fun z => c_175 ((ow_own (bI_th hI _ _) (by rw [sn_th]; exact ha_)).mpr z))) (by first | rfl | exact nI_1 _) (by omega) (oN_.tr hM (oN_pp _ _)) (by omega) _ _ hP (va_D.adr hD0 (mW_adE rfl)) hS ls (lv_sub hl [0, 4, 1, 5, 6, 7, 8, 9, 10] rfl)
                        · replace c_125 : ¬ nI v_ ≤ nI j := c_125
                          rw [jle (by omega) (by omega)] at c_125
                          refine lv_lload hx hb dX5_thunder_128 (lv_at hl 1 rfl) ?_
                          refine lv_iload hx hb dX5_thunder_130 (lv_at hl 2 rfl) ?_
                          refine lv_iload hx hb dX5_thunder_132 (lv_at hl 0 rfl) ?_
                          refine kSiS hx hb hml hown hts hK hP gX5_thunder_X5_has okX5_has (qX5_has l D cI cB (nI i) j ) [] rfl (by decide) hl.1 rfl rfl (Nat.le_of_ble_eq_true rfl) dX5_thunder_134 (by decide) (fun r_14 hr_15 => ?_)
                          replace hr_15 : r_14 = b1 (qb_ (nI i) j = 1) := hr_15
                          subst r_14
                          refine lv_if_eq (tgt := 144) hx hb dX5_thunder_137 (by decide) (fun c_137 => ?_) (fun c_137 => ?_)
                          · replace c_137 := b1_z c_137
                            refine lv_iload_n hx hb dX5_thunder_144 rfl (lv_at hl 9 rfl) ?_
                            refine lv_iconst (v := 1) hx hb dX5_thunder_145 (by decide) ?_
                            refine lv_isub hx hb dX5_thunder_146 ?_
                            refine lv_i2l (v := ((nI t_) - 1 : Int32).toInt64) hx hb dX5_thunder_147 rfl ?_
                            refine lv_lmul hx hb dX5_thunder_148 ?_
                            refine lv_lstore (lv' := [(11, .long ((al_ (nI t_) i j) * (((nI t_) - 1 : Int32).toInt64))), (13, .int (nI j)), (10, .int (nI i)), (8, .long (pw_l (nI t_).toInt64 v_)), (6, .long (wy_ B a_ v_ (nI t_) i)), (5, .int (wTh_ (sn_ B) (nI a_) (nI v_) (nI t_) p_9)), (0, .ref (r 0)), (1, .int (nI a_)), (2, .int (nI v_)), (3, .int (nI t_)), (4, .int p_9)]) hx hb dX5_thunder_149 hl (by decide) rfl (fun ls hl => ?_)
                            refine lv_aload_n hx hb dX5_thunder_151 rfl (lv_at hl 6 rfl) ?_
                            refine lv_iload hx hb dX5_thunder_152 (lv_at hl 2 rfl) ?_
                            refine lv_iload hx hb dX5_thunder_154 (lv_at hl 1 rfl) ?_
                            refine kSiS hx hb hml hown hts hK hP gX5_thunder_X5_has okX5_has (qX5_has l D cI cB (nI i) j ) [] rfl (by decide) hl.1 rfl rfl (Nat.le_of_ble_eq_true rfl) dX5_thunder_156 (by decide) (fun r_16 hr_17 => ?_)
                            replace hr_17 : r_16 = b1 (qb_ (nI i) j = 1) := hr_17
                            subst r_16
                            refine kMvV hx hb hml hown hts hK hP (va_D.adr hD0 (mW_adE rfl)) hA hS gX5_thunder_X5_goesHour okX5_goesHour (qX5_goesHour l D cI cB r (th_ B i j) (mkM (mrf_ M2) (mtp_ M2) (mlt_ M2) (mla_ M2) (mtd_ M2) (va_up (mkp_ M2) 2 B) (mof_ M2) (mfa_ M2) (mrw_ M2) (mhb_ M2) (mtn_ M2) (mrd_ M2) (msm_ M2) (41 * 2 + 41) (mbk_ M2) (mrm_ M2) (mhi_ M2) 1 (mlw_ M2) (mhg_ M2) (msl_ M2) (mlo_ M2)) (qb_ (nI i) j = 1) inferInstance (bI_th hI _ _)) [0, 1, 2, 3, 4, 5, 6, 7, 8, 9, 10, 11, 12, 13, 14, 15] rfl (by decide) (fun _ => mW_adr _ _ _ _ _ _) rfl rfl rfl (by decide) hl.1 rfl rfl (Nat.le_of_ble_eq_true rfl) dX5_thunder_159 (by decide) (fun u_19 H locs hw_20 hP hD hS => ?_)
                            replace hw_20 : u_19 = hb_ (qb_ (nI i) j = 1) (th_ B i j) := hw_20
                            subst u_19
                            replace hP : va_P D vwCl ([(r 0, .inr (5, [.ref (r 1), .ref (r 2), .ref (r 3), .ref (r 4), .ref (r 5), .ref (r 6), .int (nI (sn_ (hb_ (qb_ (nI i) j = 1) (th_ B i j)))), .int (qt_ (hb_ (qb_ (nI i) j = 1) (th_ B i j))), .int (il_ (hb_ (qb_ (nI i) j = 1) (th_ B i j))), .int (pa_ (hb_ (qb_ (nI i) j = 1) (th_ B i j))), .int (ho_ (hb_ (qb_ (nI i) j = 1) (th_ B i j))), .int (dy_ (hb_ (qb_ (nI i) j = 1) (th_ B i j))), .ref (r 13), .ref (r 14), .ref (r 15), .ref (r 16), .int (nI (mtn_ M2)), .int (nI (mrd_ M2)), .int (nI (msm_ M2)), .ref (r 20), .int (mhi_ M2), .int (1), .int (nI (41 * 2 + 41)), .int (nI (mbk_ M2)), .ref (r 25), .ref (r 26), .int (mlw_ M2), .int (mhg_ M2), .int (msl_ M2), .ref (r 30), .int (nI (mrm_ M2)), .ref (r 32), .int (mlo_ M2)])), (r 1, .inl (cI, 7, .inl (mrf_ M2))), (r 2, .inl (cI, 7, .inl (kd_ (hb_ (qb_ (nI i) j = 1) (th_ B i j))))), (r 3, .inl (cI, 7, .inl (fg_ (hb_ (qb_ (nI i) j = 1) (th_ B i j))))), (r 4, .inl (cI, 7, .inl (pl_ (hb_ (qb_ (nI i) j = 1) (th_ B i j))))), (r 5, .inl (cI, 7, .inl (pw_ (hb_ (qb_ (nI i) j = 1) (th_ B i j))))), (r 6, .inl (cI, 7, .inl (jy_ (hb_ (qb_ (nI i) j = 1) (th_ B i j))))), (r 13, .inl (cI, 96, .inl (mtp_ M2))), (r 14, .inl (cI, 48, .inl (mlt_ M2))), (r 15, .inl (cI, 48, .inl (mla_ M2))), (r 16, .inl (cI, 144, .inl (mtd_ M2))), (r 20, .inl (cI, 451, .inl (flatK (va_up (mkp_ M2) 2 B)))), (r 25, .inl (cI, 7, .inl (mof_ M2))), (r 26, .inl (cI, 7, .inl (mfa_ M2))), (r 30, .inl (cI, 12, .inl (mrw_ M2))), (r 32, .inl (cI, 8, .inl (mhb_ M2)))]) H := (va_P.m [true, true, true, true, true, true, true, true, true, true, true, true, true, true, true, true] [] hP)
                            refine lv_iinc (v := (nI j) + 1) (lv' := [(13, .int ((nI j) + 1)), (11, .long ((al_ (nI t_) i j) * (((nI t_) - 1 : Int32).toInt64))), (10, .int (nI i)), (8, .long (pw_l (nI t_).toInt64 v_)), (6, .long (wy_ B a_ v_ (nI t_) i)), (5, .int (wTh_ (sn_ B) (nI a_) (nI v_) (nI t_) p_9)), (0, .ref (r 0)), (1, .int (nI a_)), (2, .int (nI v_)), (3, .int (nI t_)), (4, .int p_9)]) hx hb dX5_thunder_162 hl (k := 1) rfl (by first | rfl | decide) (by decide) rfl (fun ls hl => ?_)
                            refine lv_goto (tgt := 122) hx hb dX5_thunder_165 (by decide) ?_
                            exact ih_122 (j + 1) ((al_ (nI t_) i j) * (((nI t_) - 1 : Int32).toInt64)) ((nI j) + 1) (hb_ (qb_ (nI i) j = 1) (th_ B i j)) (by simp only [al_]; first | rw [if_pos c_137] | rw [if_neg c_137]) (by first | rfl | exact nI_1 _) (rfl) (by omega) (by omega) _ _ hP (va_D.adr hD0 (mW_adE rfl)) hS ls (lv_sub hl [0, 1, 2, 3, 4, 5, 6, 7, 8, 9, 10] rfl)
                          · replace c_137 := b1_n c_137
                            refine lv_lconst (v := 1) hx hb dX5_thunder_140 rfl ?_
                            refine lv_goto (tgt := 148) hx hb dX5_thunder_141 (by decide) ?_
                            refine lv_lmul hx hb dX5_thunder_148 ?_
                            refine lv_lstore (lv' := [(11, .long ((al_ (nI t_) i j) * 1)), (13, .int (nI j)), (10, .int (nI i)), (8, .long (pw_l (nI t_).toInt64 v_)), (6, .long (wy_ B a_ v_ (nI t_) i)), (5, .int (wTh_ (sn_ B) (nI a_) (nI v_) (nI t_) p_9)), (0, .ref (r 0)), (1, .int (nI a_)), (2, .int (nI v_)), (3, .int (nI t_)), (4, .int p_9)]) hx hb dX5_thunder_149 hl (by decide) rfl (fun ls hl => ?_)
                            refine lv_aload_n hx hb dX5_thunder_151 rfl (lv_at hl 6 rfl) ?_
                            refine lv_iload hx hb dX5_thunder_152 (lv_at hl 2 rfl) ?_
                            refine lv_iload hx hb dX5_thunder_154 (lv_at hl 1 rfl) ?_
                            refine kSiS hx hb hml hown hts hK hP gX5_thunder_X5_has okX5_has (qX5_has l D cI cB (nI i) j ) [] rfl (by decide) hl.1 rfl rfl (Nat.le_of_ble_eq_true rfl) dX5_thunder_156 (by decide) (fun r_21 hr_22 => ?_)
                            replace hr_22 : r_21 = b1 (qb_ (nI i) j = 1) := hr_22
                            subst r_21
                            refine kMvV hx hb hml hown hts hK hP (va_D.adr hD0 (mW_adE rfl)) hA hS gX5_thunder_X5_goesHour okX5_goesHour (qX5_goesHour l D cI cB r (th_ B i j) (mkM (mrf_ M2) (mtp_ M2) (mlt_ M2) (mla_ M2) (mtd_ M2) (va_up (mkp_ M2) 2 B) (mof_ M2) (mfa_ M2) (mrw_ M2) (mhb_ M2) (mtn_ M2) (mrd_ M2) (msm_ M2) (41 * 2 + 41) (mbk_ M2) (mrm_ M2) (mhi_ M2) 1 (mlw_ M2) (mhg_ M2) (msl_ M2) (mlo_ M2)) (qb_ (nI i) j = 1) inferInstance (bI_th hI _ _)) [0, 1, 2, 3, 4, 5, 6, 7, 8, 9, 10, 11, 12, 13, 14, 15] rfl (by decide) (fun _ => mW_adr _ _ _ _ _ _) rfl rfl rfl (by decide) hl.1 rfl rfl (Nat.le_of_ble_eq_true rfl) dX5_thunder_159 (by decide) (fun u_24 H locs hw_25 hP hD hS => ?_)
                            replace hw_25 : u_24 = hb_ (qb_ (nI i) j = 1) (th_ B i j) := hw_25
                            subst u_24
                            replace hP : va_P D vwCl ([(r 0, .inr (5, [.ref (r 1), .ref (r 2), .ref (r 3), .ref (r 4), .ref (r 5), .ref (r 6), .int (nI (sn_ (hb_ (qb_ (nI i) j = 1) (th_ B i j)))), .int (qt_ (hb_ (qb_ (nI i) j = 1) (th_ B i j))), .int (il_ (hb_ (qb_ (nI i) j = 1) (th_ B i j))), .int (pa_ (hb_ (qb_ (nI i) j = 1) (th_ B i j))), .int (ho_ (hb_ (qb_ (nI i) j = 1) (th_ B i j))), .int (dy_ (hb_ (qb_ (nI i) j = 1) (th_ B i j))), .ref (r 13), .ref (r 14), .ref (r 15), .ref (r 16), .int (nI (mtn_ M2)), .int (nI (mrd_ M2)), .int (nI (msm_ M2)), .ref (r 20), .int (mhi_ M2), .int (1), .int (nI (41 * 2 + 41)), .int (nI (mbk_ M2)), .ref (r 25), .ref (r 26), .int (mlw_ M2), .int (mhg_ M2), .int (msl_ M2), .ref (r 30), .int (nI (mrm_ M2)), .ref (r 32), .int (mlo_ M2)])), (r 1, .inl (cI, 7, .inl (mrf_ M2))), (r 2, .inl (cI, 7, .inl (kd_ (hb_ (qb_ (nI i) j = 1) (th_ B i j))))), (r 3, .inl (cI, 7, .inl (fg_ (hb_ (qb_ (nI i) j = 1) (th_ B i j))))), (r 4, .inl (cI, 7, .inl (pl_ (hb_ (qb_ (nI i) j = 1) (th_ B i j))))), (r 5, .inl (cI, 7, .inl (pw_ (hb_ (qb_ (nI i) j = 1) (th_ B i j))))), (r 6, .inl (cI, 7, .inl (jy_ (hb_ (qb_ (nI i) j = 1) (th_ B i j))))), (r 13, .inl (cI, 96, .inl (mtp_ M2))), (r 14, .inl (cI, 48, .inl (mlt_ M2))), (r 15, .inl (cI, 48, .inl (mla_ M2))), (r 16, .inl (cI, 144, .inl (mtd_ M2))), (r 20, .inl (cI, 451, .inl (flatK (va_up (mkp_ M2) 2 B)))), (r 25, .inl (cI, 7, .inl (mof_ M2))), (r 26, .inl (cI, 7, .inl (mfa_ M2))), (r 30, .inl (cI, 12, .inl (mrw_ M2))), (r 32, .inl (cI, 8, .inl (mhb_ M2)))]) H := (va_P.m [true, true, true, true, true, true, true, true, true, true, true, true, true, true, true, true] [] hP)
                            refine lv_iinc (v := (nI j) + 1) (lv' := [(13, .int ((nI j) + 1)), (11, .long ((al_ (nI t_) i j) * 1)), (10, .int (nI i)), (8, .long (pw_l (nI t_).toInt64 v_)), (6, .long (wy_ B a_ v_ (nI t_) i)), (5, .int (wTh_ (sn_ B) (nI a_) (nI v_) (nI t_) p_9)), (0, .ref (r 0)), (1, .int (nI a_)), (2, .int (nI v_)), (3, .int (nI t_)), (4, .int p_9)]) hx hb dX5_thunder_162 hl (k := 1) rfl (by first | rfl | decide) (by decide) rfl (fun ls hl => ?_)
                            refine lv_goto (tgt := 122) hx hb dX5_thunder_165 (by decide) ?_
                            exact ih_122 (j + 1) ((al_ (nI t_) i j) * 1) ((nI j) + 1) (hb_ (qb_ (nI i) j = 1) (th_ B i j)) (by simp only [al_]; first | rw [if_pos c_137] | rw [if_neg c_137]) (by first | rfl | exact nI_1 _) (rfl) (by omega) (by omega) _ _ hP (va_D.adr hD0 (mW_adE rfl)) hS ls (lv_sub hl [0, 1, 2, 3, 4, 5, 6, 7, 8, 9, 10] rfl)
                    exact lp_122 (v_ + 1) 0 1 0 B (rfl) (by first | rfl | exact nI_0.symm) (rfl) (by omega) (by omega) _ _ hP (va_D.adr hD0 (mW_adE rfl)) hS ls (lv_sub hl [0, 1, 2, 3, 4, 5, 6, 7, 8, 9, 10] rfl)
              exact lp_104 ((p2_ v_) + 1) 0 0 0 M (rfl) (by first | rfl | exact nI_0.symm) (by omega) (oN_.rf _) (by omega) _ _ hP (va_D.adr hD0 (mW_adE rfl)) hS ls (lv_sub hl [0, 1, 2, 3, 4, 5, 6, 7, 8] rfl)
            · replace c_85 : ¬ nI v_ ≤ nI i8 := c_85
              rw [jle (by omega) (by omega)] at c_85
              refine lv_lload hx hb dX5_thunder_88 (lv_at hl 1 rfl) ?_
              refine lv_iload_n hx hb dX5_thunder_90 rfl (lv_at hl 7 rfl) ?_
              refine lv_i2l (v := ((nI t_) : Int32).toInt64) hx hb dX5_thunder_91 rfl ?_
              refine lv_lmul hx hb dX5_thunder_92 ?_
              refine lv_lstore (lv' := [(8, .long ((pw_l (nI t_).toInt64 i8) * (((nI t_) : Int32).toInt64))), (10, .int (nI i8)), (6, .long 0), (5, .int (wTh_ (sn_ B) (nI a_) (nI v_) (nI t_) p_9)), (0, .ref (r 0)), (1, .int (nI a_)), (2, .int (nI v_)), (3, .int (nI t_)), (4, .int p_9)]) hx hb dX5_thunder_93 hl (by decide) rfl (fun ls hl => ?_)
              refine lv_iinc (v := (nI i8) + 1) (lv' := [(10, .int ((nI i8) + 1)), (8, .long ((pw_l (nI t_).toInt64 i8) * (((nI t_) : Int32).toInt64))), (6, .long 0), (5, .int (wTh_ (sn_ B) (nI a_) (nI v_) (nI t_) p_9)), (0, .ref (r 0)), (1, .int (nI a_)), (2, .int (nI v_)), (3, .int (nI t_)), (4, .int p_9)]) hx hb dX5_thunder_95 hl (k := 1) rfl (by first | rfl | decide) (by decide) rfl (fun ls hl => ?_)
              refine lv_goto (tgt := 82) hx hb dX5_thunder_98 (by decide) ?_
              exact ih_82 (i8 + 1) ((pw_l (nI t_).toInt64 i8) * (((nI t_) : Int32).toInt64)) ((nI i8) + 1)  (rfl) (by first | rfl | exact nI_1 _) (by omega) (by omega) _ _ hP (va_D.adr hD0 (mW_adE rfl)) hS ls (lv_sub hl [0, 1, 2, 3, 4, 5, 6, 7, 8] rfl)
        exact lp_82 (v_ + 1) 0 1 0  (rfl) (by first | rfl | exact nI_0.symm) (by omega) (by omega) _ _ hP (va_D.adr hD0 (mW_adE rfl)) hS ls (lv_sub hl [0, 1, 2, 3, 4, 5, 6, 7, 8] rfl)
      · skip
        refine lv_aload_n hx hb dX5_thunder_66 rfl (lv_at hl 1 rfl) ?_
        refine lv_iload hx hb dX5_thunder_67 (lv_at hl 0 rfl) ?_
        refine kMlV hx hb hml hown hts hK hP (va_D.adr hD0 (mW_adE rfl)) hA hS gX5_thunder_X5_lowestOf okX5_lowestOf (qX5_lowestOf l D cI cB r B M (wTh_ (sn_ B) a v t_9 p_9) (rc0_n (by first | exact rc0_wS _ _ | exact rc0_wSN _ _ _ | exact rc0_wSNW _ _ _ _ | exact rc0_wNW _ _ | exact rc0_wTh _ _ _ _ _ | exact rc0_wTr _ _ _ _ | exact rc0_nb _ _ | exact rc0_uk _ _ | exact rc0_ob _ _ _ | exact rc0_f2 (rc0_nb _ _) (rc0_nb _ _) | exact rc0_f2 (rc0_nb _ _) (rc0_uk _ _) | exact rc0_f2 (rc0_ob _ _ _) (rc0_uk _ _) | exact rc0_f2 (rc0_uk _ _) (rc0_f2 (rc0_uk _ _) (rc0_ob _ _ _))) c_63)) [0, 1, 2, 3, 4, 5, 6, 7, 8, 9, 10, 11, 12, 13, 14, 15] rfl (by decide) (fun _ => mW_adr _ _ _ _ _ _) rfl rfl rfl (by decide) hl.1 rfl rfl (Nat.le_of_ble_eq_true rfl) dX5_thunder_69 (by decide) (fun r_26 u_27 H locs hw_28 hP hD hS => ?_)
        replace hw_28 : r_26 = lref_ (wTh_ (sn_ B) a v t_9 p_9) ∧ u_27 = (rfm_ M (wTh_ (sn_ B) a v t_9 p_9)) := hw_28
        obtain ⟨hw_28a, hw_28b⟩ := hw_28
        subst r_26
        subst u_27
        replace hP : va_P D vwCl ([(r 0, .inr (5, [.ref (r 1), .ref (r 2), .ref (r 3), .ref (r 4), .ref (r 5), .ref (r 6), .int (nI (sn_ B)), .int (qt_ B), .int (il_ B), .int (pa_ B), .int (ho_ B), .int (dy_ B), .ref (r 13), .ref (r 14), .ref (r 15), .ref (r 16), .int (nI (mtn_ M)), .int (nI (mrd_ M)), .int (nI (msm_ M)), .ref (r 20), .int (mhi_ M), .int (mik_ M), .int (nI (mcu_ M)), .int (nI (mbk_ M)), .ref (r 25), .ref (r 26), .int (mlw_ M), .int (mhg_ M), .int (msl_ M), .ref (r 30), .int (nI (mrm_ M)), .ref (r 32), .int (mlo_ M)])), (r 1, .inl (cI, 7, .inl (rfx_ (mrf_ M) (wTh_ (sn_ B) a v t_9 p_9)))), (r 2, .inl (cI, 7, .inl (kd_ B))), (r 3, .inl (cI, 7, .inl (fg_ B))), (r 4, .inl (cI, 7, .inl (pl_ B))), (r 5, .inl (cI, 7, .inl (pw_ B))), (r 6, .inl (cI, 7, .inl (jy_ B))), (r 13, .inl (cI, 96, .inl (mtp_ M))), (r 14, .inl (cI, 48, .inl (mlt_ M))), (r 15, .inl (cI, 48, .inl (mla_ M))), (r 16, .inl (cI, 144, .inl (mtd_ M))), (r 20, .inl (cI, 451, .inl (flatK (mkp_ M)))), (r 25, .inl (cI, 7, .inl (mof_ M))), (r 26, .inl (cI, 7, .inl (mfa_ M))), (r 30, .inl (cI, 12, .inl (mrw_ M))), (r 32, .inl (cI, 8, .inl (mhb_ M)))]) H := (va_P.m [true, true, true, true, true, true, true, true, true, true, true, true, true, true, true, true] [] hP)
        refine rMl hx hb hr hlk hS (rfm_ M (wTh_ (sn_ B) a v t_9 p_9)) hP ?_ dX5_thunder_72
        first | exact ⟨(if_neg c_63).symm, oQ_n _ _⟩ | exact ⟨by (rw [if_pos c_63]; simp only [tn_n (show a_ < 2147483648 by omega), tn_n (show v_ < 2147483648 by omega), tn_n (show t_ < 2147483648 by omega)]; rw [show i = p2_ v_ by omega]), oQ_0 c_63 (by (first | exact (oN_mk (by assumption)).m | exact oM_.rf _ | exact (oN_pp _ _).m | exact (oN_fo _ _ _ _).m | assumption | (apply oN_.m; assumption) | exact oM_.tr (by assumption) (by assumption)))⟩
  refine lv_aload_n hx hb dX5_thunder_0 rfl (lv_at hl 0 rfl) ?_
  refine lv_iload_n hx hb dX5_thunder_1 rfl (lv_at hl 1 rfl) ?_
  refine kSiV hx hb hml hown hts hK hP gX5_thunder_X5_isShore okX5_isShore (qX5_isShore l D cI cB r B M a (by show sn_ B ≤ 7; omega)) [0, 1, 2, 3, 4, 5, 6, 7, 8, 9, 10, 11, 12, 13, 14, 15] rfl rfl rfl rfl (by decide) hl.1 rfl rfl (Nat.le_of_ble_eq_true rfl) dX5_thunder_2 (by decide) (fun r_29 hr_30 => ?_)
  replace hr_30 : r_29 = b1 (0 ≤ a ∧ a < nI (sn_ B)) := hr_30
  subst r_29
  refine lv_if_ne (tgt := 12) hx hb dX5_thunder_5 (by decide) (fun c_5 => ?_) (fun c_5 => ?_)
  · replace c_5 := b1_n c_5
    refine lv_iload_n hx hb dX5_thunder_12 rfl (lv_at hl 2 rfl) ?_
    refine lv_if_lt (tgt := 21) hx hb dX5_thunder_13 (by decide) (fun c_13 => ?_) (fun c_13 => ?_)
    · have d_13 := Int32.not_le.mpr c_13
      refine lv_bipush (v := (-4)) hx hb dX5_thunder_21 (by decide) ?_
      refine lv_goto (tgt := 59) hx hb dX5_thunder_23 (by decide) ?_
      refine lv_istore (lv' := [(5, .int (-4)), (0, .ref (r 0)), (1, .int a), (2, .int v), (3, .int t_9), (4, .int p_9)]) hx hb dX5_thunder_59 hl (by decide) rfl (fun ls hl => ?_)
      exact jn_61  (-4)  (by first | exact (th_1 c_5).symm | exact (th_2 c_5 c_13).symm | exact (th_3 c_5 c_13 c_18).symm | exact (th_4 c_5 c_13 c_18 c_29).symm | exact (th_5 c_5 c_13 c_18 c_29 c_35).symm | exact (th_6 c_5 c_13 c_18 c_29 c_35 c_50).symm | exact (th_7 c_5 c_13 c_18 c_29 c_35 c_50).symm)   _ _ hP (va_D.adr hD0 (mW_adE rfl)) hS ls (lv_sub hl [0, 1, 2, 3, 4, 5] rfl)
    · have d_13 := Int32.not_lt.mp c_13
      refine lv_iload_n hx hb dX5_thunder_16 rfl (lv_at hl 3 rfl) ?_
      refine lv_iconst (v := 2) hx hb dX5_thunder_17 (by decide) ?_
      refine lv_icmp_ge (tgt := 26) hx hb dX5_thunder_18 (by decide) (fun c_18 => ?_) (fun c_18 => ?_)
      · have d_18 := Int32.not_lt.mpr c_18
        refine lv_iload_n hx hb dX5_thunder_26 rfl (lv_at hl 2 rfl) ?_
        refine lv_bipush (v := 7) hx hb dX5_thunder_27 (by decide) ?_
        refine lv_icmp_gt (tgt := 38) hx hb dX5_thunder_29 (by decide) (fun c_29 => ?_) (fun c_29 => ?_)
        · have d_29 := Int32.not_le.mpr c_29
          refine lv_bipush (v := (-6)) hx hb dX5_thunder_38 (by decide) ?_
          refine lv_goto (tgt := 59) hx hb dX5_thunder_40 (by decide) ?_
          refine lv_istore (lv' := [(5, .int (-6)), (0, .ref (r 0)), (1, .int a), (2, .int v), (3, .int t_9), (4, .int p_9)]) hx hb dX5_thunder_59 hl (by decide) rfl (fun ls hl => ?_)
          exact jn_61  (-6)  (by first | exact (th_1 c_5).symm | exact (th_2 c_5 c_13).symm | exact (th_3 c_5 c_13 c_18).symm | exact (th_4 c_5 c_13 c_18 c_29).symm | exact (th_5 c_5 c_13 c_18 c_29 c_35).symm | exact (th_6 c_5 c_13 c_18 c_29 c_35 c_50).symm | exact (th_7 c_5 c_13 c_18 c_29 c_35 c_50).symm)   _ _ hP (va_D.adr hD0 (mW_adE rfl)) hS ls (lv_sub hl [0, 1, 2, 3, 4, 5] rfl)
        · have d_29 := Int32.not_lt.mp c_29
          refine lv_iload_n hx hb dX5_thunder_32 rfl (lv_at hl 3 rfl) ?_
          refine lv_bipush (v := 20) hx hb dX5_thunder_33 (by decide) ?_
          refine lv_icmp_le (tgt := 43) hx hb dX5_thunder_35 (by decide) (fun c_35 => ?_) (fun c_35 => ?_)
          · have d_35 := Int32.not_lt.mpr c_35
            refine lv_iload hx hb dX5_thunder_43 (lv_at hl 4 rfl) ?_
            refine lv_iconst (v := 0) hx hb dX5_thunder_45 (by decide) ?_
            refine lv_iconst (v := 1) hx hb dX5_thunder_46 (by decide) ?_
            refine kSiS hx hb hml hown hts hK hP gX5_thunder_X5_isIn okX5_isIn (qX5_isIn l D cI cB p_9 0 1 ) [] rfl (by decide) hl.1 rfl rfl (Nat.le_of_ble_eq_true rfl) dX5_thunder_47 (by decide) (fun r_31 hr_32 => ?_)
            replace hr_32 : r_31 = b1 (0 ≤ p_9 ∧ p_9 ≤ 1) := hr_32
            subst r_31
            refine lv_if_ne (tgt := 58) hx hb dX5_thunder_50 (by decide) (fun c_50 => ?_) (fun c_50 => ?_)
            · replace c_50 := b1_n c_50
              refine lv_iconst (v := 0) hx hb dX5_thunder_58 (by decide) ?_
              refine lv_istore (lv' := [(5, .int 0), (0, .ref (r 0)), (1, .int a), (2, .int v), (3, .int t_9), (4, .int p_9)]) hx hb dX5_thunder_59 hl (by decide) rfl (fun ls hl => ?_)
              exact jn_61  0  (by first | exact (th_1 c_5).symm | exact (th_2 c_5 c_13).symm | exact (th_3 c_5 c_13 c_18).symm | exact (th_4 c_5 c_13 c_18 c_29).symm | exact (th_5 c_5 c_13 c_18 c_29 c_35).symm | exact (th_6 c_5 c_13 c_18 c_29 c_35 c_50).symm | exact (th_7 c_5 c_13 c_18 c_29 c_35 c_50).symm)   _ _ hP (va_D.adr hD0 (mW_adE rfl)) hS ls (lv_sub hl [0, 1, 2, 3, 4, 5] rfl)
            · replace c_50 := b1_z c_50
              refine lv_bipush (v := (-2)) hx hb dX5_thunder_53 (by decide) ?_
              refine lv_goto (tgt := 59) hx hb dX5_thunder_55 (by decide) ?_
              refine lv_istore (lv' := [(5, .int (-2)), (0, .ref (r 0)), (1, .int a), (2, .int v), (3, .int t_9), (4, .int p_9)]) hx hb dX5_thunder_59 hl (by decide) rfl (fun ls hl => ?_)
              exact jn_61  (-2)  (by first | exact (th_1 c_5).symm | exact (th_2 c_5 c_13).symm | exact (th_3 c_5 c_13 c_18).symm | exact (th_4 c_5 c_13 c_18 c_29).symm | exact (th_5 c_5 c_13 c_18 c_29 c_35).symm | exact (th_6 c_5 c_13 c_18 c_29 c_35 c_50).symm | exact (th_7 c_5 c_13 c_18 c_29 c_35 c_50).symm)   _ _ hP (va_D.adr hD0 (mW_adE rfl)) hS ls (lv_sub hl [0, 1, 2, 3, 4, 5] rfl)
          · have d_35 := Int32.not_le.mp c_35
            refine lv_bipush (v := (-6)) hx hb dX5_thunder_38 (by decide) ?_
            refine lv_goto (tgt := 59) hx hb dX5_thunder_40 (by decide) ?_
            refine lv_istore (lv' := [(5, .int (-6)), (0, .ref (r 0)), (1, .int a), (2, .int v), (3, .int t_9), (4, .int p_9)]) hx hb dX5_thunder_59 hl (by decide) rfl (fun ls hl => ?_)
            exact jn_61  (-6)  (by first | exact (th_1 c_5).symm | exact (th_2 c_5 c_13).symm | exact (th_3 c_5 c_13 c_18).symm | exact (th_4 c_5 c_13 c_18 c_29).symm | exact (th_5 c_5 c_13 c_18 c_29 c_35).symm | exact (th_6 c_5 c_13 c_18 c_29 c_35 c_50).symm | exact (th_7 c_5 c_13 c_18 c_29 c_35 c_50).symm)   _ _ hP (va_D.adr hD0 (mW_adE rfl)) hS ls (lv_sub hl [0, 1, 2, 3, 4, 5] rfl)
      · have d_18 := Int32.not_le.mp c_18
        refine lv_bipush (v := (-4)) hx hb dX5_thunder_21 (by decide) ?_
        refine lv_goto (tgt := 59) hx hb dX5_thunder_23 (by decide) ?_
        refine lv_istore (lv' := [(5, .int (-4)), (0, .ref (r 0)), (1, .int a), (2, .int v), (3, .int t_9), (4, .int p_9)]) hx hb dX5_thunder_59 hl (by decide) rfl (fun ls hl => ?_)
        exact jn_61  (-4)  (by first | exact (th_1 c_5).symm | exact (th_2 c_5 c_13).symm | exact (th_3 c_5 c_13 c_18).symm | exact (th_4 c_5 c_13 c_18 c_29).symm | exact (th_5 c_5 c_13 c_18 c_29 c_35).symm | exact (th_6 c_5 c_13 c_18 c_29 c_35 c_50).symm | exact (th_7 c_5 c_13 c_18 c_29 c_35 c_50).symm)   _ _ hP (va_D.adr hD0 (mW_adE rfl)) hS ls (lv_sub hl [0, 1, 2, 3, 4, 5] rfl)
  · replace c_5 := b1_z c_5
    refine lv_iconst (v := (-1)) hx hb dX5_thunder_8 (by decide) ?_
    refine lv_goto (tgt := 59) hx hb dX5_thunder_9 (by decide) ?_
    refine lv_istore (lv' := [(5, .int (-1)), (0, .ref (r 0)), (1, .int a), (2, .int v), (3, .int t_9), (4, .int p_9)]) hx hb dX5_thunder_59 hl (by decide) rfl (fun ls hl => ?_)
    exact jn_61  (-1)  (by first | exact (th_1 c_5).symm | exact (th_2 c_5 c_13).symm | exact (th_3 c_5 c_13 c_18).symm | exact (th_4 c_5 c_13 c_18 c_29).symm | exact (th_5 c_5 c_13 c_18 c_29 c_35).symm | exact (th_6 c_5 c_13 c_18 c_29 c_35 c_50).symm | exact (th_7 c_5 c_13 c_18 c_29 c_35 c_50).symm)   _ _ hP (va_D.adr hD0 (mW_adE rfl)) hS ls (lv_sub hl [0, 1, 2, 3, 4, 5] rfl)

