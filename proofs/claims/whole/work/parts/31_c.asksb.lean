theorem okX5_nearest : jok yX5_nearest wsX5_nearest cX5_nearest 4 (some .int) 1 := ⟨⟨_, rfl⟩, by decide +kernel, by decide +kernel⟩
set_option maxHeartbeats 2000000 in
set_option maxRecDepth 100000 in
theorem qX5_nearest (l : Launch) (D : va_G) (cI cB : ClassId) (r : Nat → Nat) (B : BayT) (M : MT) (q : Int32) (hI : bI_ B) : jMi D cI cB l yX5_nearest wsX5_nearest 1 [.ref (r 0), .int q] (mW cI r B M) (S := MT) (fun r u => r = (if uk_ q 1 = 0 then (if q = 0 then oI_ (ne_ B (sn_ B)) else dNe_ B) else uk_ q 1) ∧ oQ_ M u (uk_ q 1)) (fun u => mW cI r B u) := by
  refine jMi.of (cc := cX5_nearest) (maxL := 4) (ret := (some .int)) okX5_nearest (Nat.le_of_ble_eq_true rfl) ?_
  intro p e s m below meth c ls A hx hb hr hts hown hlk hml hP hK hD hA hS hl
  replace hown : s.vm.findClass RX5 = some m.cls := hown
  replace hl : lv_has ls 4 [(0, .ref (r 0)), (1, .int q)] := hl
  have hD0 := hD
  have hn7 := hI.1
  have hinX5 : ∀ w ∈ wsX50, w ∈ wsX5_nearest := by decide +kernel
  refine lv_iload_n hx hb dX5_nearest_0 rfl (lv_at hl 1 rfl) ?_
  refine lv_iconst (v := 0) hx hb dX5_nearest_1 (by decide) ?_
  refine lv_iconst (v := 1) hx hb dX5_nearest_2 (by decide) ?_
  refine kSiS hx hb hml hown hts hK hP gX5_nearest_X5_isIn okX5_isIn (qX5_isIn l D cI cB q 0 1 ) [] rfl (by decide) hl.1 rfl rfl (Nat.le_of_ble_eq_true rfl) dX5_nearest_3 (by decide) (fun r_1 hr_2 => ?_)
  replace hr_2 : r_1 = b1 (0 ≤ q ∧ q ≤ 1) := hr_2
  subst r_1
  refine lv_if_ne (tgt := 16) hx hb dX5_nearest_6 (by decide) (fun c_6 => ?_) (fun c_6 => ?_)
  · replace c_6 := b1_n c_6
    refine lv_bipush (v := (-9)) hx hb dX5_nearest_16 (by decide) ?_
    refine lv_istore_n (lv' := [(2, .int (-9)), (0, .ref (r 0)), (1, .int q)]) hx hb dX5_nearest_18 rfl hl (by decide) rfl (fun ls hl => ?_)
    refine lv_iconst (v := 0) hx hb dX5_nearest_19 (by decide) ?_
    refine lv_istore_n (lv' := [(3, .int 0), (2, .int (-9)), (0, .ref (r 0)), (1, .int q)]) hx hb dX5_nearest_20 rfl hl (by decide) rfl (fun ls hl => ?_)
    have lp_21 : ∀ (fu_21 : Nat) (i : Nat) (x2_21 : Int32) (x3_21 : Int32) , (x2_21 = oI_ (ne_ B i)) → (x3_21 = nI i) → (i ≤ sn_ B) → sn_ B - i < fu_21 → ∀ (H : Heap) (locs : List Loc), va_P D vwCl (mW cI r B M) H → va_D A (mW cI r B M) → va_S A s.heap H locs → ∀ ls : Array Slot, lv_has ls 4 [(3, .int x3_21), (2, .int x2_21), (0, .ref (r 0)), (1, .int q)] → W p l e (jR 1) s m ([.ref (r 0), .int q] : List Value).toArray below meth c H locs 0 0 (MQ below (va_Qi (S := MT) (fun r u => r = (if uk_ q 1 = 0 then (if q = 0 then oI_ (ne_ B (sn_ B)) else dNe_ B) else uk_ q 1) ∧ oQ_ M u (uk_ q 1)) (fun u t => va_P D vwCl ((fun u => mW cI r B u) u) t.heap) A) ([.ref (r 0), .int q] : List Value).toArray s 0 0 A) (F0 m 21 ls []) := by
      intro fu_21
      induction fu_21 with
      | zero => intro i x2_21 x3_21 hx2_21 hx3_21 hi hfu; exact absurd hfu (Nat.not_lt_zero _)
      | succ fu_21 ih_21 =>
        intro i x2_21 x3_21 hx2_21 hx3_21 hi hfu_21 H locs hP hD hS ls hl
        subst x2_21
        subst x3_21
        replace hl : lv_has ls 4 [(3, .int (nI i)), (2, .int (oI_ (ne_ B i))), (0, .ref (r 0)), (1, .int q)] := hl
        replace hP : va_P D vwCl (mW cI r B M) H := hP
        rcases hL : ne_ B i with _ | t
        · rw [hL] at hl
          replace hl : lv_has ls 4 [(3, .int (nI i)), (2, .int (-9)), (0, .ref (r 0)), (1, .int q)] := hl
          refine lv_iload_n hx hb dX5_nearest_21 rfl (lv_at hl 0 rfl) ?_
          refine lv_aload_n hx hb dX5_nearest_22 rfl (lv_at hl 2 rfl) ?_
          refine va_get (ci := 5) (C := RX5) (T := TX5) (N := 33) hx hb hts hinX5 hown hK.1 hP 0 rfl rfl 6 (by decide) (hts _ (List.mem_of_getElem? (i := 1) rfl)) (fun _ h9 => h9) rfl dX5_nearest_23 ?_
          refine lv_icmp_ge (tgt := 70) hx hb dX5_nearest_26 (by decide) (fun c_26 => ?_) (fun c_26 => ?_)
          · replace c_26 : nI (sn_ B) ≤ nI i := c_26
            rw [jle (by omega) (by omega)] at c_26
            refine lv_iload_n hx hb dX5_nearest_70 rfl (lv_at hl 3 rfl) ?_
            refine lv_if_eq (tgt := 78) hx hb dX5_nearest_71 (by decide) (fun c_71 => ?_) (fun c_71 => ?_)
            · skip
              refine lv_iload_n hx hb dX5_nearest_78 rfl (lv_at hl 1 rfl) ?_
              refine lv_goto (tgt := 95) hx hb dX5_nearest_79 (by decide) ?_
              refine rMi hx hb hr hlk hS M hP ?_ dX5_nearest_95
              first | (have hW : uk_ q 1 = -2 := uk_o c_6; rw [hW]; exact ⟨(if_neg (by decide)).symm, oQ_n _ _⟩) | (have hW : uk_ q 1 = 0 := uk_i c_6; rw [hW]; exact ⟨by (rw [if_pos rfl]; have e9 : i = sn_ B := (by omega); rw [e9] at hL; unfold dNe_; first | (rw [hL]; done) | (rw [hL, if_pos c_71]; done) | (rw [hL, if_pos c_71]; rfl) | (rw [hL, if_neg c_71]; done) | (rw [hL, if_neg c_71]; rfl) | (rw [hL, if_neg c_71]; exact (di_i hI (by omega)).symm)), oQ_0 rfl (by (first | exact (oN_mk (by assumption)).m | exact oM_.rf _ | exact (oN_pp _ _).m | exact (oN_fo _ _ _ _).m | assumption | (apply oN_.m; assumption) | exact oM_.tr (by assumption) (by assumption)))⟩)
            · skip
              refine lv_iload_n hx hb dX5_nearest_74 rfl (lv_at hl 1 rfl) ?_
              refine lv_if_ge (tgt := 82) hx hb dX5_nearest_75 (by decide) (fun q => absurd q (by decide)) (fun _ => ?_)
              refine lv_iload_n hx hb dX5_nearest_78 rfl (lv_at hl 1 rfl) ?_
              refine lv_goto (tgt := 95) hx hb dX5_nearest_79 (by decide) ?_
              refine rMi hx hb hr hlk hS M hP ?_ dX5_nearest_95
              first | (have hW : uk_ q 1 = -2 := uk_o c_6; rw [hW]; exact ⟨(if_neg (by decide)).symm, oQ_n _ _⟩) | (have hW : uk_ q 1 = 0 := uk_i c_6; rw [hW]; exact ⟨by (rw [if_pos rfl]; have e9 : i = sn_ B := (by omega); rw [e9] at hL; unfold dNe_; first | (rw [hL]; done) | (rw [hL, if_pos c_71]; done) | (rw [hL, if_pos c_71]; rfl) | (rw [hL, if_neg c_71]; done) | (rw [hL, if_neg c_71]; rfl) | (rw [hL, if_neg c_71]; exact (di_i hI (by omega)).symm)), oQ_0 rfl (by (first | exact (oN_mk (by assumption)).m | exact oM_.rf _ | exact (oN_pp _ _).m | exact (oN_fo _ _ _ _).m | assumption | (apply oN_.m; assumption) | exact oM_.tr (by assumption) (by assumption)))⟩)
          · replace c_26 : ¬ nI (sn_ B) ≤ nI i := c_26
            rw [jle (by omega) (by omega)] at c_26
            refine lv_iload_n hx hb dX5_nearest_29 rfl (lv_at hl 1 rfl) ?_
            refine lv_if_lt (tgt := 62) hx hb dX5_nearest_30 (by decide) (fun _ => ?_) (fun q => absurd q (by decide))
            refine lv_iload_n hx hb dX5_nearest_62 rfl (lv_at hl 0 rfl) ?_
            refine lv_istore_n (lv' := [(2, .int (nI i)), (3, .int (nI i)), (0, .ref (r 0)), (1, .int q)]) hx hb dX5_nearest_63 rfl hl (by decide) rfl (fun ls hl => ?_)
            refine lv_iinc (v := (nI i) + 1) (lv' := [(3, .int ((nI i) + 1)), (2, .int (nI i)), (0, .ref (r 0)), (1, .int q)]) hx hb dX5_nearest_64 hl (k := 1) rfl (by first | rfl | decide) (by decide) rfl (fun ls hl => ?_)
            refine lv_goto (tgt := 21) hx hb dX5_nearest_67 (by decide) ?_
            exact ih_21 (i + 1) (nI i) ((nI i) + 1)  (by first | (simp only [ne_, hL]; done) | (simp only [ne_, hL]; rfl) | (simp only [ne_, hL]; rw [if_neg (by rw [di_i hI (by omega), di_i hI (by omega)]; exact d_59)]; rfl) | (simp only [ne_, hL]; rw [if_pos (by rw [di_i hI (by omega), di_i hI (by omega)]; exact d_59)]; rfl)) (by first | rfl | exact nI_1 _) (by omega) (by omega) _ _ hP (va_D.adr hD0 (mW_adE rfl)) hS ls (lv_sub hl [0, 1, 2, 3] rfl)
        · rw [hL] at hl
          replace hl : lv_has ls 4 [(3, .int (nI i)), (2, .int (nI t)), (0, .ref (r 0)), (1, .int q)] := hl
          have ht := ne_lt _ _ hL
          refine lv_iload_n hx hb dX5_nearest_21 rfl (lv_at hl 0 rfl) ?_
          refine lv_aload_n hx hb dX5_nearest_22 rfl (lv_at hl 2 rfl) ?_
          refine va_get (ci := 5) (C := RX5) (T := TX5) (N := 33) hx hb hts hinX5 hown hK.1 hP 0 rfl rfl 6 (by decide) (hts _ (List.mem_of_getElem? (i := 1) rfl)) (fun _ h9 => h9) rfl dX5_nearest_23 ?_
          refine lv_icmp_ge (tgt := 70) hx hb dX5_nearest_26 (by decide) (fun c_26 => ?_) (fun c_26 => ?_)
          · replace c_26 : nI (sn_ B) ≤ nI i := c_26
            rw [jle (by omega) (by omega)] at c_26
            refine lv_iload_n hx hb dX5_nearest_70 rfl (lv_at hl 3 rfl) ?_
            refine lv_if_eq (tgt := 78) hx hb dX5_nearest_71 (by decide) (fun c_71 => ?_) (fun c_71 => ?_)
            · skip
              refine lv_iload_n hx hb dX5_nearest_78 rfl (lv_at hl 1 rfl) ?_
              refine lv_goto (tgt := 95) hx hb dX5_nearest_79 (by decide) ?_
              refine rMi hx hb hr hlk hS M hP ?_ dX5_nearest_95
              first | (have hW : uk_ q 1 = -2 := uk_o c_6; rw [hW]; exact ⟨(if_neg (by decide)).symm, oQ_n _ _⟩) | (have hW : uk_ q 1 = 0 := uk_i c_6; rw [hW]; exact ⟨by (rw [if_pos rfl]; have e9 : i = sn_ B := (by omega); rw [e9] at hL; unfold dNe_; first | (rw [hL]; done) | (rw [hL, if_pos c_71]; done) | (rw [hL, if_pos c_71]; rfl) | (rw [hL, if_neg c_71]; done) | (rw [hL, if_neg c_71]; rfl) | (rw [hL, if_neg c_71]; exact (di_i hI (by omega)).symm)), oQ_0 rfl (by (first | exact (oN_mk (by assumption)).m | exact oM_.rf _ | exact (oN_pp _ _).m | exact (oN_fo _ _ _ _).m | assumption | (apply oN_.m; assumption) | exact oM_.tr (by assumption) (by assumption)))⟩)
            · skip
              refine lv_iload_n hx hb dX5_nearest_74 rfl (lv_at hl 1 rfl) ?_
              refine lv_if_ge (tgt := 82) hx hb dX5_nearest_75 (by decide) (fun _ => ?_) (fun q => absurd (nI_pos' (by omega)) q)
              refine lv_aload_n hx hb dX5_nearest_82 rfl (lv_at hl 2 rfl) ?_
              refine va_get (ci := 5) (C := RX5) (T := TX5) (N := 33) hx hb hts hinX5 hown hK.1 hP 0 rfl rfl 3 (by decide) (hts _ (List.mem_of_getElem? (i := 2) rfl)) (fun _ h9 => h9) rfl dX5_nearest_83 ?_
              refine lv_iload_n hx hb dX5_nearest_86 rfl (lv_at hl 1 rfl) ?_
              refine jald hx hb hK.1 hP 4 0 t rfl rfl rfl (by omega) (Nat.le_of_ble_eq_true rfl) dX5_nearest_87 ?_
              refine lv_aload_n hx hb dX5_nearest_88 rfl (lv_at hl 2 rfl) ?_
              refine va_get (ci := 5) (C := RX5) (T := TX5) (N := 33) hx hb hts hinX5 hown hK.1 hP 0 rfl rfl 8 (by decide) (hts _ (List.mem_of_getElem? (i := 3) rfl)) (fun _ h9 => h9) rfl dX5_nearest_89 ?_
              refine kSiS hx hb hml hown hts hK hP gX5_nearest_X5_far okX5_far (qX5_far l D cI cB ((pl_ B) t) (il_ B) ) [] rfl (by decide) hl.1 rfl rfl (Nat.le_of_ble_eq_true rfl) dX5_nearest_92 (by decide) (fun r_3 hr_4 => ?_)
              replace hr_4 : r_3 = fr_ ((pl_ B) t) (il_ B) := hr_4
              subst r_3
              refine rMi hx hb hr hlk hS M hP ?_ dX5_nearest_95
              first | (have hW : uk_ q 1 = -2 := uk_o c_6; rw [hW]; exact ⟨(if_neg (by decide)).symm, oQ_n _ _⟩) | (have hW : uk_ q 1 = 0 := uk_i c_6; rw [hW]; exact ⟨by (rw [if_pos rfl]; have e9 : i = sn_ B := (by omega); rw [e9] at hL; unfold dNe_; first | (rw [hL]; done) | (rw [hL, if_pos c_71]; done) | (rw [hL, if_pos c_71]; rfl) | (rw [hL, if_neg c_71]; done) | (rw [hL, if_neg c_71]; rfl) | (rw [hL, if_neg c_71]; exact (di_i hI (by omega)).symm)), oQ_0 rfl (by (first | exact (oN_mk (by assumption)).m | exact oM_.rf _ | exact (oN_pp _ _).m | exact (oN_fo _ _ _ _).m | assumption | (apply oN_.m; assumption) | exact oM_.tr (by assumption) (by assumption)))⟩)
          · replace c_26 : ¬ nI (sn_ B) ≤ nI i := c_26
            rw [jle (by omega) (by omega)] at c_26
            refine lv_iload_n hx hb dX5_nearest_29 rfl (lv_at hl 1 rfl) ?_
            refine lv_if_lt (tgt := 62) hx hb dX5_nearest_30 (by decide) (fun q => absurd q (nI_pos (by omega))) (fun _ => ?_)
            refine lv_aload_n hx hb dX5_nearest_33 rfl (lv_at hl 2 rfl) ?_
            refine va_get (ci := 5) (C := RX5) (T := TX5) (N := 33) hx hb hts hinX5 hown hK.1 hP 0 rfl rfl 3 (by decide) (hts _ (List.mem_of_getElem? (i := 2) rfl)) (fun _ h9 => h9) rfl dX5_nearest_34 ?_
            refine lv_iload_n hx hb dX5_nearest_37 rfl (lv_at hl 0 rfl) ?_
            refine jald hx hb hK.1 hP 4 0 i rfl rfl rfl (by omega) (Nat.le_of_ble_eq_true rfl) dX5_nearest_38 ?_
            refine lv_aload_n hx hb dX5_nearest_39 rfl (lv_at hl 2 rfl) ?_
            refine va_get (ci := 5) (C := RX5) (T := TX5) (N := 33) hx hb hts hinX5 hown hK.1 hP 0 rfl rfl 8 (by decide) (hts _ (List.mem_of_getElem? (i := 3) rfl)) (fun _ h9 => h9) rfl dX5_nearest_40 ?_
            refine kSiS hx hb hml hown hts hK hP gX5_nearest_X5_far okX5_far (qX5_far l D cI cB ((pl_ B) i) (il_ B) ) [] rfl (by decide) hl.1 rfl rfl (Nat.le_of_ble_eq_true rfl) dX5_nearest_43 (by decide) (fun r_5 hr_6 => ?_)
            replace hr_6 : r_5 = fr_ ((pl_ B) i) (il_ B) := hr_6
            subst r_5
            refine lv_aload_n hx hb dX5_nearest_46 rfl (lv_at hl 2 rfl) ?_
            refine va_get (ci := 5) (C := RX5) (T := TX5) (N := 33) hx hb hts hinX5 hown hK.1 hP 0 rfl rfl 3 (by decide) (hts _ (List.mem_of_getElem? (i := 2) rfl)) (fun _ h9 => h9) rfl dX5_nearest_47 ?_
            refine lv_iload_n hx hb dX5_nearest_50 rfl (lv_at hl 1 rfl) ?_
            refine jald hx hb hK.1 hP 4 0 t rfl rfl rfl (by omega) (Nat.le_of_ble_eq_true rfl) dX5_nearest_51 ?_
            refine lv_aload_n hx hb dX5_nearest_52 rfl (lv_at hl 2 rfl) ?_
            refine va_get (ci := 5) (C := RX5) (T := TX5) (N := 33) hx hb hts hinX5 hown hK.1 hP 0 rfl rfl 8 (by decide) (hts _ (List.mem_of_getElem? (i := 3) rfl)) (fun _ h9 => h9) rfl dX5_nearest_53 ?_
            refine kSiS hx hb hml hown hts hK hP gX5_nearest_X5_far okX5_far (qX5_far l D cI cB ((pl_ B) t) (il_ B) ) [] rfl (by decide) hl.1 rfl rfl (Nat.le_of_ble_eq_true rfl) dX5_nearest_56 (by decide) (fun r_7 hr_8 => ?_)
            replace hr_8 : r_7 = fr_ ((pl_ B) t) (il_ B) := hr_8
            subst r_7
            refine lv_icmp_ge (tgt := 64) hx hb dX5_nearest_59 (by decide) (fun c_59 => ?_) (fun c_59 => ?_)
            · have d_59 := Int32.not_lt.mpr c_59
              refine lv_iinc (v := (nI i) + 1) (lv' := [(3, .int ((nI i) + 1)), (2, .int (nI t)), (0, .ref (r 0)), (1, .int q)]) hx hb dX5_nearest_64 hl (k := 0) rfl (by first | rfl | decide) (by decide) rfl (fun ls hl => ?_)
              refine lv_goto (tgt := 21) hx hb dX5_nearest_67 (by decide) ?_
              exact ih_21 (i + 1) (nI t) ((nI i) + 1)  (by first | (simp only [ne_, hL]; done) | (simp only [ne_, hL]; rfl) | (simp only [ne_, hL]; rw [if_neg (by rw [di_i hI (by omega), di_i hI (by omega)]; exact d_59)]; rfl) | (simp only [ne_, hL]; rw [if_pos (by rw [di_i hI (by omega), di_i hI (by omega)]; exact d_59)]; rfl)) (by first | rfl | exact nI_1 _) (by omega) (by omega) _ _ hP (va_D.adr hD0 (mW_adE rfl)) hS ls (lv_sub hl [0, 1, 2, 3] rfl)
            · have d_59 := Int32.not_le.mp c_59
              refine lv_iload_n hx hb dX5_nearest_62 rfl (lv_at hl 0 rfl) ?_
              refine lv_istore_n (lv' := [(2, .int (nI i)), (3, .int (nI i)), (0, .ref (r 0)), (1, .int q)]) hx hb dX5_nearest_63 rfl hl (by decide) rfl (fun ls hl => ?_)
              refine lv_iinc (v := (nI i) + 1) (lv' := [(3, .int ((nI i) + 1)), (2, .int (nI i)), (0, .ref (r 0)), (1, .int q)]) hx hb dX5_nearest_64 hl (k := 1) rfl (by first | rfl | decide) (by decide) rfl (fun ls hl => ?_)
              refine lv_goto (tgt := 21) hx hb dX5_nearest_67 (by decide) ?_
              exact ih_21 (i + 1) (nI i) ((nI i) + 1)  (by first | (simp only [ne_, hL]; done) | (simp only [ne_, hL]; rfl) | (simp only [ne_, hL]; rw [if_neg (by rw [di_i hI (by omega), di_i hI (by omega)]; exact d_59)]; rfl) | (simp only [ne_, hL]; rw [if_pos (by rw [di_i hI (by omega), di_i hI (by omega)]; exact d_59)]; rfl)) (by first | rfl | exact nI_1 _) (by omega) (by omega) _ _ hP (va_D.adr hD0 (mW_adE rfl)) hS ls (lv_sub hl [0, 1, 2, 3] rfl)
    exact lp_21 ((sn_ B) + 1) 0 (-9) 0  (rfl) (by first | rfl | exact nI_0.symm) (by omega) (by omega) _ _ hP (va_D.adr hD0 (mW_adE rfl)) hS ls (lv_sub hl [0, 1, 2, 3] rfl)
  · replace c_6 := b1_z c_6
    refine lv_aload_n hx hb dX5_nearest_9 rfl (lv_at hl 0 rfl) ?_
    refine lv_bipush (v := (-2)) hx hb dX5_nearest_10 (by decide) ?_
    refine kMiV hx hb hml hown hts hK hP (va_D.adr hD0 (mW_adE rfl)) hA hS gX5_nearest_X5_no okX5_no (qX5_no l D cI cB r B M (-2) (Or.inr (Or.inl rfl))) [0, 1, 2, 3, 4, 5, 6, 7, 8, 9, 10, 11, 12, 13, 14, 15] rfl (by decide) (fun _ => mW_adr _ _ _ _ _ _) rfl rfl rfl (by decide) hl.1 rfl rfl (Nat.le_of_ble_eq_true rfl) dX5_nearest_12 (by decide) (fun r_9 u_10 H locs hw_11 hP hD hS => ?_)
    replace hw_11 : r_9 = (-2) ∧ u_10 = (rfm_ M (-2)) := hw_11
    obtain ⟨hw_11a, hw_11b⟩ := hw_11
    subst r_9
    subst u_10
    replace hP : va_P D vwCl ([(r 0, .inr (5, [.ref (r 1), .ref (r 2), .ref (r 3), .ref (r 4), .ref (r 5), .ref (r 6), .int (nI (sn_ B)), .int (qt_ B), .int (il_ B), .int (pa_ B), .int (ho_ B), .int (dy_ B), .ref (r 13), .ref (r 14), .ref (r 15), .ref (r 16), .int (nI (mtn_ M)), .int (nI (mrd_ M)), .int (nI (msm_ M)), .ref (r 20), .int (mhi_ M), .int (mik_ M), .int (nI (mcu_ M)), .int (nI (mbk_ M)), .ref (r 25), .ref (r 26), .int (mlw_ M), .int (mhg_ M), .int (msl_ M), .ref (r 30), .int (nI (mrm_ M)), .ref (r 32), .int (mlo_ M)])), (r 1, .inl (cI, 7, .inl (rfx_ (mrf_ M) (-2)))), (r 2, .inl (cI, 7, .inl (kd_ B))), (r 3, .inl (cI, 7, .inl (fg_ B))), (r 4, .inl (cI, 7, .inl (pl_ B))), (r 5, .inl (cI, 7, .inl (pw_ B))), (r 6, .inl (cI, 7, .inl (jy_ B))), (r 13, .inl (cI, 96, .inl (mtp_ M))), (r 14, .inl (cI, 48, .inl (mlt_ M))), (r 15, .inl (cI, 48, .inl (mla_ M))), (r 16, .inl (cI, 144, .inl (mtd_ M))), (r 20, .inl (cI, 451, .inl (flatK (mkp_ M)))), (r 25, .inl (cI, 7, .inl (mof_ M))), (r 26, .inl (cI, 7, .inl (mfa_ M))), (r 30, .inl (cI, 12, .inl (mrw_ M))), (r 32, .inl (cI, 8, .inl (mhb_ M)))]) H := (va_P.m [true, true, true, true, true, true, true, true, true, true, true, true, true, true, true, true] [] hP)
    refine rMi hx hb hr hlk hS (rfm_ M (-2)) hP ?_ dX5_nearest_15
    first | (have hW : uk_ q 1 = -2 := uk_o c_6; rw [hW]; exact ⟨(if_neg (by decide)).symm, oQ_n _ _⟩) | (have hW : uk_ q 1 = 0 := uk_i c_6; rw [hW]; exact ⟨by (rw [if_pos rfl]; have e9 : i = sn_ B := (by omega); rw [e9] at hL; unfold dNe_; first | (rw [hL]; done) | (rw [hL, if_pos c_71]; done) | (rw [hL, if_pos c_71]; rfl) | (rw [hL, if_neg c_71]; done) | (rw [hL, if_neg c_71]; rfl) | (rw [hL, if_neg c_71]; exact (di_i hI (by omega)).symm)), oQ_0 rfl (by (first | exact (oN_mk (by assumption)).m | exact oM_.rf _ | exact (oN_pp _ _).m | exact (oN_fo _ _ _ _).m | assumption | (apply oN_.m; assumption) | exact oM_.tr (by assumption) (by assumption)))⟩)

theorem okX5_hush : jok yX5_hush wsX5_hush cX5_hush 8 (some .int) 2 := ⟨⟨_, rfl⟩, by decide +kernel, by decide +kernel⟩
set_option maxHeartbeats 2000000 in
set_option maxRecDepth 100000 in
theorem qX5_hush (l : Launch) (D : va_G) (cI cB : ClassId) (r : Nat → Nat) (B : BayT) (M : MT) (a : Int32) (v : Int32) (hI : bI_ B) : jMi D cI cB l yX5_hush wsX5_hush 9 [.ref (r 0), .int a, .int v] (mW cI r B M) (S := MT) (fun r u => r = (if wSN_ (sn_ B) a v = 0 then oI_ (bs_ (hu_ B (tn_ a) (tn_ v)) (tc_ B (tn_ a) (tn_ v)) (sn_ B)).1 else wSN_ (sn_ B) a v) ∧ oQ_ M u (wSN_ (sn_ B) a v)) (fun u => mW cI r B u) := by
  refine jMi.of (cc := cX5_hush) (maxL := 8) (ret := (some .int)) okX5_hush (Nat.le_of_ble_eq_true rfl) ?_
  intro p e s m below meth c ls A hx hb hr hts hown hlk hml hP hK hD hA hS hl
  replace hown : s.vm.findClass RX5 = some m.cls := hown
  replace hl : lv_has ls 8 [(0, .ref (r 0)), (1, .int a), (2, .int v)] := hl
  have hD0 := hD
  have hn7 := hI.1
  have hinX5 : ∀ w ∈ wsX50, w ∈ wsX5_hush := by decide +kernel
  have jn_17 : ∀  (x3_17 : Int32) , (x3_17 = wSN_ (sn_ B) a v) → ∀ (H : Heap) (locs : List Loc), va_P D vwCl (mW cI r B M) H → va_D A (mW cI r B M) → va_S A s.heap H locs → ∀ ls : Array Slot, lv_has ls 8 [(3, .int x3_17), (0, .ref (r 0)), (1, .int a), (2, .int v)] → W p l e (jR 9) s m ([.ref (r 0), .int a, .int v] : List Value).toArray below meth c H locs 0 0 (MQ below (va_Qi (S := MT) (fun r u => r = (if wSN_ (sn_ B) a v = 0 then oI_ (bs_ (hu_ B (tn_ a) (tn_ v)) (tc_ B (tn_ a) (tn_ v)) (sn_ B)).1 else wSN_ (sn_ B) a v) ∧ oQ_ M u (wSN_ (sn_ B) a v)) (fun u t => va_P D vwCl ((fun u => mW cI r B u) u) t.heap) A) ([.ref (r 0), .int a, .int v] : List Value).toArray s 0 0 A) (F0 m 17 ls []) := by
      intro x3_17 hx3_17 H locs hP hD hS ls hl
      subst x3_17
      replace hl : lv_has ls 8 [(3, .int (wSN_ (sn_ B) a v)), (0, .ref (r 0)), (1, .int a), (2, .int v)] := hl
      replace hP : va_P D vwCl (mW cI r B M) H := hP
      refine lv_iload_n hx hb dX5_hush_17 rfl (lv_at hl 0 rfl) ?_
      refine lv_if_eq (tgt := 27) hx hb dX5_hush_18 (by decide) (fun c_18 => ?_) (fun c_18 => ?_)
      · skip
        have w0 := c_18
        simp only [wS_, wSN_, wSNW_, wNW_, wTh_, wTr_, f2_0, nb_0, ob_0, uk_0, lo_0, hi_0] at w0
        obtain ⟨a_, ha_, rfl⟩ := pl_lt (n := sn_ B) (by omega) w0.1
        obtain ⟨v_, hv_, rfl⟩ := pl_le (n := 99) (by decide) w0.2
        replace hl : lv_has ls 8 [(3, .int (wSN_ (sn_ B) (nI a_) (nI v_))), (0, .ref (r 0)), (1, .int (nI a_)), (2, .int (nI v_))] := hl
        refine lv_bipush (v := (-9)) hx hb dX5_hush_27 (by decide) ?_
        refine lv_istore (lv' := [(4, .int (-9)), (3, .int (wSN_ (sn_ B) (nI a_) (nI v_))), (0, .ref (r 0)), (1, .int (nI a_)), (2, .int (nI v_))]) hx hb dX5_hush_29 hl (by decide) rfl (fun ls hl => ?_)
        refine lv_aload_n hx hb dX5_hush_31 rfl (lv_at hl 2 rfl) ?_
        refine lv_iload_n hx hb dX5_hush_32 rfl (lv_at hl 3 rfl) ?_
        refine lv_iload_n hx hb dX5_hush_33 rfl (lv_at hl 4 rfl) ?_
        refine kMiV hx hb hml hown hts hK hP (va_D.adr hD0 (mW_adE rfl)) hA hS gX5_hush_X5_oftenOf okX5_oftenOf (qX5_oftenOf l D cI cB r B M a_ v_ hI ha_ (by omega)) [0, 1, 2, 3, 4, 5, 6, 7, 8, 9, 10, 11, 12, 13, 14, 15] rfl (by decide) (fun _ => mW_adr _ _ _ _ _ _) rfl rfl rfl (by decide) hl.1 rfl rfl (Nat.le_of_ble_eq_true rfl) dX5_hush_34 (by decide) (fun r_1 u_2 H locs hw_3 hP hD hS => ?_)
        replace hw_3 : r_1 = tc_ B a_ v_ ∧ oN_ M u_2 := hw_3
        obtain ⟨hw_3a, hw_3b⟩ := hw_3
        subst r_1
        replace hP : va_P D vwCl (mW cI r B u_2) H := (va_P.m [true, true, true, true, true, true, true, true, true, true, true, true, true, true, true, true] [] hP)
        refine lv_istore (lv' := [(5, .int (tc_ B a_ v_)), (4, .int (-9)), (3, .int (wSN_ (sn_ B) (nI a_) (nI v_))), (0, .ref (r 0)), (1, .int (nI a_)), (2, .int (nI v_))]) hx hb dX5_hush_37 hl (by decide) rfl (fun ls hl => ?_)
        refine lv_iconst (v := 0) hx hb dX5_hush_39 (by decide) ?_
        refine lv_istore (lv' := [(6, .int 0), (5, .int (tc_ B a_ v_)), (4, .int (-9)), (3, .int (wSN_ (sn_ B) (nI a_) (nI v_))), (0, .ref (r 0)), (1, .int (nI a_)), (2, .int (nI v_))]) hx hb dX5_hush_40 hl (by decide) rfl (fun ls hl => ?_)
        have lp_42 : ∀ (fu_42 : Nat) (i : Nat) (x4_42 : Int32) (x5_42 : Int32) (x6_42 : Int32) (M2 : MT), (x4_42 = oI_ (bs_ (hu_ B a_ v_) (tc_ B a_ v_) i).1) → (x5_42 = (bs_ (hu_ B a_ v_) (tc_ B a_ v_) i).2) → (x6_42 = nI i) → (i ≤ sn_ B) → (oN_ M M2) → sn_ B - i < fu_42 → ∀ (H : Heap) (locs : List Loc), va_P D vwCl (mW cI r B M2) H → va_D A (mW cI r B M2) → va_S A s.heap H locs → ∀ ls : Array Slot, lv_has ls 8 [(6, .int x6_42), (5, .int x5_42), (4, .int x4_42), (3, .int (wSN_ (sn_ B) (nI a_) (nI v_))), (0, .ref (r 0)), (1, .int (nI a_)), (2, .int (nI v_))] → W p l e (jR 9) s m ([.ref (r 0), .int (nI a_), .int (nI v_)] : List Value).toArray below meth c H locs 0 0 (MQ below (va_Qi (S := MT) (fun r u => r = (if wSN_ (sn_ B) (nI a_) (nI v_) = 0 then oI_ (bs_ (hu_ B (tn_ (nI a_)) (tn_ (nI v_))) (tc_ B (tn_ (nI a_)) (tn_ (nI v_))) (sn_ B)).1 else wSN_ (sn_ B) (nI a_) (nI v_)) ∧ oQ_ M u (wSN_ (sn_ B) (nI a_) (nI v_))) (fun u t => va_P D vwCl ((fun u => mW cI r B u) u) t.heap) A) ([.ref (r 0), .int (nI a_), .int (nI v_)] : List Value).toArray s 0 0 A) (F0 m 42 ls []) := by
          intro fu_42
          induction fu_42 with
          | zero => intro i x4_42 x5_42 x6_42 M2 hx4_42 hx5_42 hx6_42 hi hM hfu; exact absurd hfu (Nat.not_lt_zero _)
          | succ fu_42 ih_42 =>
            intro i x4_42 x5_42 x6_42 M2 hx4_42 hx5_42 hx6_42 hi hM hfu_42 H locs hP hD hS ls hl
            subst x4_42
            subst x5_42
            subst x6_42
            replace hl : lv_has ls 8 [(6, .int (nI i)), (5, .int ((bs_ (hu_ B a_ v_) (tc_ B a_ v_) i).2)), (4, .int (oI_ (bs_ (hu_ B a_ v_) (tc_ B a_ v_) i).1)), (3, .int (wSN_ (sn_ B) (nI a_) (nI v_))), (0, .ref (r 0)), (1, .int (nI a_)), (2, .int (nI v_))] := hl
            replace hP : va_P D vwCl (mW cI r B M2) H := hP
            have hge := Int32.le_trans (tc_pos B a_ (n := v_) (by omega)) (bs_ge (f := (hu_ B a_ v_)) (m0 := tc_ B a_ v_) i)
            refine lv_iload hx hb dX5_hush_42 (lv_at hl 0 rfl) ?_
            refine lv_aload_n hx hb dX5_hush_44 rfl (lv_at hl 4 rfl) ?_
            refine va_get (ci := 5) (C := RX5) (T := TX5) (N := 33) hx hb hts hinX5 hown hK.1 hP 0 rfl rfl 6 (by decide) (hts _ (List.mem_of_getElem? (i := 1) rfl)) (fun _ h9 => h9) rfl dX5_hush_45 ?_
            refine lv_icmp_ge (tgt := 98) hx hb dX5_hush_48 (by decide) (fun c_48 => ?_) (fun c_48 => ?_)
            · replace c_48 : nI (sn_ B) ≤ nI i := c_48
              rw [jle (by omega) (by omega)] at c_48
              refine lv_iload hx hb dX5_hush_98 (lv_at hl 2 rfl) ?_
              refine rMi hx hb hr hlk hS M2 hP ?_ dX5_hush_100
              first | exact ⟨(if_neg c_18).symm, oQ_n _ _⟩ | exact ⟨by (rw [if_pos c_18]; simp only [tn_n (show a_ < 2147483648 by omega), tn_n (show v_ < 2147483648 by omega)]; rw [show i = sn_ B by omega]), oQ_0 c_18 (by (first | exact (oN_mk (by assumption)).m | exact oM_.rf _ | exact (oN_pp _ _).m | exact (oN_fo _ _ _ _).m | assumption | (apply oN_.m; assumption) | exact oM_.tr (by assumption) (by assumption)))⟩
            · replace c_48 : ¬ nI (sn_ B) ≤ nI i := c_48
              rw [jle (by omega) (by omega)] at c_48
              refine lv_iload hx hb dX5_hush_51 (lv_at hl 0 rfl) ?_
              refine lv_iload_n hx hb dX5_hush_53 rfl (lv_at hl 5 rfl) ?_
              refine lv_icmp_ne (tgt := 62) hx hb dX5_hush_54 (by decide) (fun c_54 => ?_) (fun c_54 => ?_)
              · replace c_54 : ¬ nI i = nI a_ := c_54
                rw [jeq (by omega) (by omega)] at c_54
                refine lv_aload_n hx hb dX5_hush_62 rfl (lv_at hl 4 rfl) ?_
                refine lv_iload_n hx hb dX5_hush_63 rfl (lv_at hl 5 rfl) ?_
                refine lv_iload_n hx hb dX5_hush_64 rfl (lv_at hl 6 rfl) ?_
                refine lv_iconst (v := 1) hx hb dX5_hush_65 (by decide) ?_
                refine lv_iload hx hb dX5_hush_66 (lv_at hl 0 rfl) ?_
                refine lv_ishl hx hb dX5_hush_68 ?_
                refine sti (x := 1 <<< ((nI i) &&& 31)) (y := nI (p2_ i)) (sh_n (by omega)) ?_
                refine kMiV hx hb hml hown hts hK hP (va_D.adr hD0 (mW_adE rfl)) hA hS gX5_hush_X5_oftenHushed okX5_oftenHushed (qX5_oftenHushed l D cI cB r B M2 a_ v_ (p2_ i) hI ha_ (by omega) (p2_lt (by omega))) [0, 1, 2, 3, 4, 5, 6, 7, 8, 9, 10, 11, 12, 13, 14, 15] rfl (by decide) (fun _ => mW_adr _ _ _ _ _ _) rfl rfl rfl (by decide) hl.1 rfl rfl (Nat.le_of_ble_eq_true rfl) dX5_hush_69 (by decide) (fun r_4 u_5 H locs hw_6 hP hD hS => ?_)
                replace hw_6 : r_4 = tc_ (uq_ B (qt_ B ||| nI (p2_ i))) a_ v_ ∧ oN_ M2 u_5 := hw_6
                obtain ⟨hw_6a, hw_6b⟩ := hw_6
                subst r_4
                replace hP : va_P D vwCl (mW cI r B u_5) H := (va_P.m [true, true, true, true, true, true, true, true, true, true, true, true, true, true, true, true] [] hP)
                refine lv_istore (lv' := [(7, .int (tc_ (uq_ B (qt_ B ||| nI (p2_ i))) a_ v_)), (6, .int (nI i)), (5, .int ((bs_ (hu_ B a_ v_) (tc_ B a_ v_) i).2)), (4, .int (oI_ (bs_ (hu_ B a_ v_) (tc_ B a_ v_) i).1)), (3, .int (wSN_ (sn_ B) (nI a_) (nI v_))), (0, .ref (r 0)), (1, .int (nI a_)), (2, .int (nI v_))]) hx hb dX5_hush_72 hl (by decide) rfl (fun ls hl => ?_)
                refine lv_iload hx hb dX5_hush_74 (lv_at hl 0 rfl) ?_
                refine lv_iload hx hb dX5_hush_76 (lv_at hl 2 rfl) ?_
                refine lv_icmp_gt (tgt := 84) hx hb dX5_hush_78 (by decide) (fun c_78 => ?_) (fun c_78 => ?_)
                · have d_78 := Int32.not_le.mpr c_78
                  refine lv_iload hx hb dX5_hush_84 (lv_at hl 1 rfl) ?_
                  refine lv_istore (lv' := [(4, .int (nI i)), (7, .int (tc_ (uq_ B (qt_ B ||| nI (p2_ i))) a_ v_)), (6, .int (nI i)), (5, .int ((bs_ (hu_ B a_ v_) (tc_ B a_ v_) i).2)), (3, .int (wSN_ (sn_ B) (nI a_) (nI v_))), (0, .ref (r 0)), (1, .int (nI a_)), (2, .int (nI v_))]) hx hb dX5_hush_86 hl (by decide) rfl (fun ls hl => ?_)
                  refine lv_iload hx hb dX5_hush_88 (lv_at hl 1 rfl) ?_
                  refine lv_istore (lv' := [(5, .int (tc_ (uq_ B (qt_ B ||| nI (p2_ i))) a_ v_)), (4, .int (nI i)), (7, .int (tc_ (uq_ B (qt_ B ||| nI (p2_ i))) a_ v_)), (6, .int (nI i)), (3, .int (wSN_ (sn_ B) (nI a_) (nI v_))), (0, .ref (r 0)), (1, .int (nI a_)), (2, .int (nI v_))]) hx hb dX5_hush_90 hl (by decide) rfl (fun ls hl => ?_)
                  refine lv_iinc (v := (nI i) + 1) (lv' := [(6, .int ((nI i) + 1)), (5, .int (tc_ (uq_ B (qt_ B ||| nI (p2_ i))) a_ v_)), (4, .int (nI i)), (7, .int (tc_ (uq_ B (qt_ B ||| nI (p2_ i))) a_ v_)), (3, .int (wSN_ (sn_ B) (nI a_) (nI v_))), (0, .ref (r 0)), (1, .int (nI a_)), (2, .int (nI v_))]) hx hb dX5_hush_92 hl (k := 3) rfl (by first | rfl | decide) (by decide) rfl (fun ls hl => ?_)
                  refine lv_goto (tgt := 42) hx hb dX5_hush_95 (by decide) ?_
                  exact ih_42 (i + 1) (nI i) (tc_ (uq_ B (qt_ B ||| nI (p2_ i))) a_ v_) ((nI i) + 1) u_5 (by first | exact bs_o1 (f := (hu_ B a_ v_)) (by unfold hu_; rw [if_neg (by assumption), ← sh_n (by omega)]) d_78 | exact bs_o2 (f := (hu_ B a_ v_)) (by unfold hu_; rw [if_neg (by assumption), ← sh_n (by omega)]) d_78 | exact bs_o2 (f := (hu_ B a_ v_)) (v := 0) (by unfold hu_; rw [if_pos (by assumption)]) hge | exact absurd (Int32.lt_of_le_of_lt hge c_78) (by decide)) (by first | exact bs_m1 (f := (hu_ B a_ v_)) (by unfold hu_; rw [if_neg (by assumption), ← sh_n (by omega)]) d_78 | exact bs_m2 (f := (hu_ B a_ v_)) (by unfold hu_; rw [if_neg (by assumption), ← sh_n (by omega)]) d_78 | exact bs_m2 (f := (hu_ B a_ v_)) (v := 0) (by unfold hu_; rw [if_pos (by assumption)]) hge | exact absurd (Int32.lt_of_le_of_lt hge c_78) (by decide)) (by first | rfl | exact nI_1 _) (by omega) (by first | assumption | exact oN_.tr hM (by assumption)) (by omega) _ _ hP (va_D.adr hD0 (mW_adE rfl)) hS ls (lv_sub hl [0, 1, 2, 4, 5, 6, 7] rfl)
                · have d_78 := Int32.not_lt.mp c_78
                  refine lv_goto (tgt := 92) hx hb dX5_hush_81 (by decide) ?_
                  refine lv_iinc (v := (nI i) + 1) (lv' := [(6, .int ((nI i) + 1)), (7, .int (tc_ (uq_ B (qt_ B ||| nI (p2_ i))) a_ v_)), (5, .int ((bs_ (hu_ B a_ v_) (tc_ B a_ v_) i).2)), (4, .int (oI_ (bs_ (hu_ B a_ v_) (tc_ B a_ v_) i).1)), (3, .int (wSN_ (sn_ B) (nI a_) (nI v_))), (0, .ref (r 0)), (1, .int (nI a_)), (2, .int (nI v_))]) hx hb dX5_hush_92 hl (k := 1) rfl (by first | rfl | decide) (by decide) rfl (fun ls hl => ?_)
                  refine lv_goto (tgt := 42) hx hb dX5_hush_95 (by decide) ?_
                  exact ih_42 (i + 1) (oI_ (bs_ (hu_ B a_ v_) (tc_ B a_ v_) i).1) ((bs_ (hu_ B a_ v_) (tc_ B a_ v_) i).2) ((nI i) + 1) u_5 (by first | exact bs_o1 (f := (hu_ B a_ v_)) (by unfold hu_; rw [if_neg (by assumption), ← sh_n (by omega)]) d_78 | exact bs_o2 (f := (hu_ B a_ v_)) (by unfold hu_; rw [if_neg (by assumption), ← sh_n (by omega)]) d_78 | exact bs_o2 (f := (hu_ B a_ v_)) (v := 0) (by unfold hu_; rw [if_pos (by assumption)]) hge | exact absurd (Int32.lt_of_le_of_lt hge c_78) (by decide)) (by first | exact bs_m1 (f := (hu_ B a_ v_)) (by unfold hu_; rw [if_neg (by assumption), ← sh_n (by omega)]) d_78 | exact bs_m2 (f := (hu_ B a_ v_)) (by unfold hu_; rw [if_neg (by assumption), ← sh_n (by omega)]) d_78 | exact bs_m2 (f := (hu_ B a_ v_)) (v := 0) (by unfold hu_; rw [if_pos (by assumption)]) hge | exact absurd (Int32.lt_of_le_of_lt hge c_78) (by decide)) (by first | rfl | exact nI_1 _) (by omega) (by first | assumption | exact oN_.tr hM (by assumption)) (by omega) _ _ hP (va_D.adr hD0 (mW_adE rfl)) hS ls (lv_sub hl [0, 2, 3, 4, 5, 6, 7] rfl)
              · replace c_54 : nI i = nI a_ := c_54
                rw [jeq (by omega) (by omega)] at c_54
                refine lv_bipush (v := (-9)) hx hb dX5_hush_57 (by decide) ?_
                refine lv_goto (tgt := 72) hx hb dX5_hush_59 (by decide) ?_
                refine lv_istore (lv' := [(7, .int (-9)), (6, .int (nI i)), (5, .int ((bs_ (hu_ B a_ v_) (tc_ B a_ v_) i).2)), (4, .int (oI_ (bs_ (hu_ B a_ v_) (tc_ B a_ v_) i).1)), (3, .int (wSN_ (sn_ B) (nI a_) (nI v_))), (0, .ref (r 0)), (1, .int (nI a_)), (2, .int (nI v_))]) hx hb dX5_hush_72 hl (by decide) rfl (fun ls hl => ?_)
                refine lv_iload hx hb dX5_hush_74 (lv_at hl 0 rfl) ?_
                refine lv_iload hx hb dX5_hush_76 (lv_at hl 2 rfl) ?_
                refine lv_icmp_gt (tgt := 84) hx hb dX5_hush_78 (by decide) (fun c_78 => ?_) (fun c_78 => ?_)
                · have d_78 := Int32.not_le.mpr c_78
                  refine lv_iload hx hb dX5_hush_84 (lv_at hl 1 rfl) ?_
                  refine lv_istore (lv' := [(4, .int (nI i)), (7, .int (-9)), (6, .int (nI i)), (5, .int ((bs_ (hu_ B a_ v_) (tc_ B a_ v_) i).2)), (3, .int (wSN_ (sn_ B) (nI a_) (nI v_))), (0, .ref (r 0)), (1, .int (nI a_)), (2, .int (nI v_))]) hx hb dX5_hush_86 hl (by decide) rfl (fun ls hl => ?_)
                  refine lv_iload hx hb dX5_hush_88 (lv_at hl 1 rfl) ?_
                  refine lv_istore (lv' := [(5, .int (-9)), (4, .int (nI i)), (7, .int (-9)), (6, .int (nI i)), (3, .int (wSN_ (sn_ B) (nI a_) (nI v_))), (0, .ref (r 0)), (1, .int (nI a_)), (2, .int (nI v_))]) hx hb dX5_hush_90 hl (by decide) rfl (fun ls hl => ?_)
                  refine lv_iinc (v := (nI i) + 1) (lv' := [(6, .int ((nI i) + 1)), (5, .int (-9)), (4, .int (nI i)), (7, .int (-9)), (3, .int (wSN_ (sn_ B) (nI a_) (nI v_))), (0, .ref (r 0)), (1, .int (nI a_)), (2, .int (nI v_))]) hx hb dX5_hush_92 hl (k := 3) rfl (by first | rfl | decide) (by decide) rfl (fun ls hl => ?_)
                  refine lv_goto (tgt := 42) hx hb dX5_hush_95 (by decide) ?_
                  exact ih_42 (i + 1) (nI i) (-9) ((nI i) + 1) M2 (by first | exact bs_o1 (f := (hu_ B a_ v_)) (by unfold hu_; rw [if_neg (by assumption), ← sh_n (by omega)]) d_78 | exact bs_o2 (f := (hu_ B a_ v_)) (by unfold hu_; rw [if_neg (by assumption), ← sh_n (by omega)]) d_78 | exact bs_o2 (f := (hu_ B a_ v_)) (v := 0) (by unfold hu_; rw [if_pos (by assumption)]) hge | exact absurd (Int32.lt_of_le_of_lt hge c_78) (by decide)) (by first | exact bs_m1 (f := (hu_ B a_ v_)) (by unfold hu_; rw [if_neg (by assumption), ← sh_n (by omega)]) d_78 | exact bs_m2 (f := (hu_ B a_ v_)) (by unfold hu_; rw [if_neg (by assumption), ← sh_n (by omega)]) d_78 | exact bs_m2 (f := (hu_ B a_ v_)) (v := 0) (by unfold hu_; rw [if_pos (by assumption)]) hge | exact absurd (Int32.lt_of_le_of_lt hge c_78) (by decide)) (by first | rfl | exact nI_1 _) (by omega) (by first | assumption | exact oN_.tr hM (by assumption)) (by omega) _ _ hP (va_D.adr hD0 (mW_adE rfl)) hS ls (lv_sub hl [0, 1, 2, 4, 5, 6, 7] rfl)
                · have d_78 := Int32.not_lt.mp c_78
                  refine lv_goto (tgt := 92) hx hb dX5_hush_81 (by decide) ?_
                  refine lv_iinc (v := (nI i) + 1) (lv' := [(6, .int ((nI i) + 1)), (7, .int (-9)), (5, .int ((bs_ (hu_ B a_ v_) (tc_ B a_ v_) i).2)), (4, .int (oI_ (bs_ (hu_ B a_ v_) (tc_ B a_ v_) i).1)), (3, .int (wSN_ (sn_ B) (nI a_) (nI v_))), (0, .ref (r 0)), (1, .int (nI a_)), (2, .int (nI v_))]) hx hb dX5_hush_92 hl (k := 1) rfl (by first | rfl | decide) (by decide) rfl (fun ls hl => ?_)
                  refine lv_goto (tgt := 42) hx hb dX5_hush_95 (by decide) ?_
                  exact ih_42 (i + 1) (oI_ (bs_ (hu_ B a_ v_) (tc_ B a_ v_) i).1) ((bs_ (hu_ B a_ v_) (tc_ B a_ v_) i).2) ((nI i) + 1) M2 (by first | exact bs_o1 (f := (hu_ B a_ v_)) (by unfold hu_; rw [if_neg (by assumption), ← sh_n (by omega)]) d_78 | exact bs_o2 (f := (hu_ B a_ v_)) (by unfold hu_; rw [if_neg (by assumption), ← sh_n (by omega)]) d_78 | exact bs_o2 (f := (hu_ B a_ v_)) (v := 0) (by unfold hu_; rw [if_pos (by assumption)]) hge | exact absurd (Int32.lt_of_le_of_lt hge c_78) (by decide)) (by first | exact bs_m1 (f := (hu_ B a_ v_)) (by unfold hu_; rw [if_neg (by assumption), ← sh_n (by omega)]) d_78 | exact bs_m2 (f := (hu_ B a_ v_)) (by unfold hu_; rw [if_neg (by assumption), ← sh_n (by omega)]) d_78 | exact bs_m2 (f := (hu_ B a_ v_)) (v := 0) (by unfold hu_; rw [if_pos (by assumption)]) hge | exact absurd (Int32.lt_of_le_of_lt hge c_78) (by decide)) (by first | rfl | exact nI_1 _) (by omega) (by first | assumption | exact oN_.tr hM (by assumption)) (by omega) _ _ hP (va_D.adr hD0 (mW_adE rfl)) hS ls (lv_sub hl [0, 2, 3, 4, 5, 6, 7] rfl)
        exact lp_42 ((sn_ B) + 1) 0 (-9) (tc_ B a_ v_) 0 u_2 (rfl) (rfl) (by first | rfl | exact nI_0.symm) (by omega) (by first | assumption | exact oN_.rf _) (by omega) _ _ hP (va_D.adr hD0 (mW_adE rfl)) hS ls (lv_sub hl [0, 1, 2, 3, 4, 5, 6] rfl)
      · skip
        refine lv_aload_n hx hb dX5_hush_21 rfl (lv_at hl 1 rfl) ?_
        refine lv_iload_n hx hb dX5_hush_22 rfl (lv_at hl 0 rfl) ?_
        refine kMiV hx hb hml hown hts hK hP (va_D.adr hD0 (mW_adE rfl)) hA hS gX5_hush_X5_no okX5_no (qX5_no l D cI cB r B M (wSN_ (sn_ B) a v) (rc0_n (by first | exact rc0_wS _ _ | exact rc0_wSN _ _ _ | exact rc0_wSNW _ _ _ _ | exact rc0_wNW _ _ | exact rc0_wTh _ _ _ _ _ | exact rc0_wTr _ _ _ _ | exact rc0_nb _ _ | exact rc0_uk _ _ | exact rc0_ob _ _ _ | exact rc0_f2 (rc0_nb _ _) (rc0_nb _ _) | exact rc0_f2 (rc0_nb _ _) (rc0_uk _ _) | exact rc0_f2 (rc0_ob _ _ _) (rc0_uk _ _) | exact rc0_f2 (rc0_uk _ _) (rc0_f2 (rc0_uk _ _) (rc0_ob _ _ _))) c_18)) [0, 1, 2, 3, 4, 5, 6, 7, 8, 9, 10, 11, 12, 13, 14, 15] rfl (by decide) (fun _ => mW_adr _ _ _ _ _ _) rfl rfl rfl (by decide) hl.1 rfl rfl (Nat.le_of_ble_eq_true rfl) dX5_hush_23 (by decide) (fun r_7 u_8 H locs hw_9 hP hD hS => ?_)
        replace hw_9 : r_7 = wSN_ (sn_ B) a v ∧ u_8 = (rfm_ M (wSN_ (sn_ B) a v)) := hw_9
        obtain ⟨hw_9a, hw_9b⟩ := hw_9
        subst r_7
        subst u_8
        replace hP : va_P D vwCl ([(r 0, .inr (5, [.ref (r 1), .ref (r 2), .ref (r 3), .ref (r 4), .ref (r 5), .ref (r 6), .int (nI (sn_ B)), .int (qt_ B), .int (il_ B), .int (pa_ B), .int (ho_ B), .int (dy_ B), .ref (r 13), .ref (r 14), .ref (r 15), .ref (r 16), .int (nI (mtn_ M)), .int (nI (mrd_ M)), .int (nI (msm_ M)), .ref (r 20), .int (mhi_ M), .int (mik_ M), .int (nI (mcu_ M)), .int (nI (mbk_ M)), .ref (r 25), .ref (r 26), .int (mlw_ M), .int (mhg_ M), .int (msl_ M), .ref (r 30), .int (nI (mrm_ M)), .ref (r 32), .int (mlo_ M)])), (r 1, .inl (cI, 7, .inl (rfx_ (mrf_ M) (wSN_ (sn_ B) a v)))), (r 2, .inl (cI, 7, .inl (kd_ B))), (r 3, .inl (cI, 7, .inl (fg_ B))), (r 4, .inl (cI, 7, .inl (pl_ B))), (r 5, .inl (cI, 7, .inl (pw_ B))), (r 6, .inl (cI, 7, .inl (jy_ B))), (r 13, .inl (cI, 96, .inl (mtp_ M))), (r 14, .inl (cI, 48, .inl (mlt_ M))), (r 15, .inl (cI, 48, .inl (mla_ M))), (r 16, .inl (cI, 144, .inl (mtd_ M))), (r 20, .inl (cI, 451, .inl (flatK (mkp_ M)))), (r 25, .inl (cI, 7, .inl (mof_ M))), (r 26, .inl (cI, 7, .inl (mfa_ M))), (r 30, .inl (cI, 12, .inl (mrw_ M))), (r 32, .inl (cI, 8, .inl (mhb_ M)))]) H := (va_P.m [true, true, true, true, true, true, true, true, true, true, true, true, true, true, true, true] [] hP)
        refine rMi hx hb hr hlk hS (rfm_ M (wSN_ (sn_ B) a v)) hP ?_ dX5_hush_26
        first | exact ⟨(if_neg c_18).symm, oQ_n _ _⟩ | exact ⟨by (rw [if_pos c_18]; simp only [tn_n (show a_ < 2147483648 by omega), tn_n (show v_ < 2147483648 by omega)]; rw [show i = sn_ B by omega]), oQ_0 c_18 (by (first | exact (oN_mk (by assumption)).m | exact oM_.rf _ | exact (oN_pp _ _).m | exact (oN_fo _ _ _ _).m | assumption | (apply oN_.m; assumption) | exact oM_.tr (by assumption) (by assumption)))⟩
  refine lv_aload_n hx hb dX5_hush_0 rfl (lv_at hl 0 rfl) ?_
  refine lv_iload_n hx hb dX5_hush_1 rfl (lv_at hl 1 rfl) ?_
  refine kSiV hx hb hml hown hts hK hP gX5_hush_X5_isShore okX5_isShore (qX5_isShore l D cI cB r B M a (by show sn_ B ≤ 7; omega)) [0, 1, 2, 3, 4, 5, 6, 7, 8, 9, 10, 11, 12, 13, 14, 15] rfl rfl rfl rfl (by decide) hl.1 rfl rfl (Nat.le_of_ble_eq_true rfl) dX5_hush_2 (by decide) (fun r_10 hr_11 => ?_)
  replace hr_11 : r_10 = b1 (0 ≤ a ∧ a < nI (sn_ B)) := hr_11
  subst r_10
  refine lv_if_ne (tgt := 12) hx hb dX5_hush_5 (by decide) (fun c_5 => ?_) (fun c_5 => ?_)
  · replace c_5 := b1_n c_5
    refine lv_iload_n hx hb dX5_hush_12 rfl (lv_at hl 2 rfl) ?_
    refine kSiS hx hb hml hown hts hK hP gX5_hush_X5_notHours okX5_notHours (qX5_notHours l D cI cB v ) [] rfl (by decide) hl.1 rfl rfl (Nat.le_of_ble_eq_true rfl) dX5_hush_13 (by decide) (fun r_12 hr_13 => ?_)
    replace hr_13 : r_12 = ob_ v 0 99 := hr_13
    subst r_12
    refine lv_istore_n (lv' := [(3, .int (ob_ v 0 99)), (0, .ref (r 0)), (1, .int a), (2, .int v)]) hx hb dX5_hush_16 rfl hl (by decide) rfl (fun ls hl => ?_)
    exact jn_17  (ob_ v 0 99)  (by first | exact (f2_b (nb_i c_5)).symm | exact ((f2_a (by rw [nb_o c_5]; decide)).trans (nb_o c_5)).symm)   _ _ hP (va_D.adr hD0 (mW_adE rfl)) hS ls (lv_sub hl [0, 1, 2, 3] rfl)
  · replace c_5 := b1_z c_5
    refine lv_iconst (v := (-1)) hx hb dX5_hush_8 (by decide) ?_
    refine lv_goto (tgt := 16) hx hb dX5_hush_9 (by decide) ?_
    refine lv_istore_n (lv' := [(3, .int (-1)), (0, .ref (r 0)), (1, .int a), (2, .int v)]) hx hb dX5_hush_16 rfl hl (by decide) rfl (fun ls hl => ?_)
    exact jn_17  (-1)  (by first | exact (f2_b (nb_i c_5)).symm | exact ((f2_a (by rw [nb_o c_5]; decide)).trans (nb_o c_5)).symm)   _ _ hP (va_D.adr hD0 (mW_adE rfl)) hS ls (lv_sub hl [0, 1, 2, 3] rfl)

theorem okX5_fewest : jok yX5_fewest wsX5_fewest cX5_fewest 6 (some .int) 2 := ⟨⟨_, rfl⟩, by decide +kernel, by decide +kernel⟩
set_option maxHeartbeats 2000000 in
set_option maxRecDepth 100000 in
theorem qX5_fewest (l : Launch) (D : va_G) (cI cB : ClassId) (r : Nat → Nat) (B : BayT) (M : MT) (a : Int32) (v : Int32) (hI : bI_ B) : jMi D cI cB l yX5_fewest wsX5_fewest 9 [.ref (r 0), .int a, .int v] (mW cI r B M) (S := MT) (fun r u => r = (if wSN_ (sn_ B) a v = 0 then (fw_ B (tn_ a) (tn_ v) (p2_ (sn_ B))).1 else wSN_ (sn_ B) a v) ∧ oQ_ M u (wSN_ (sn_ B) a v)) (fun u => mW cI r B u) := by
  refine jMi.of (cc := cX5_fewest) (maxL := 6) (ret := (some .int)) okX5_fewest (Nat.le_of_ble_eq_true rfl) ?_
  intro p e s m below meth c ls A hx hb hr hts hown hlk hml hP hK hD hA hS hl
  replace hown : s.vm.findClass RX5 = some m.cls := hown
  replace hl : lv_has ls 6 [(0, .ref (r 0)), (1, .int a), (2, .int v)] := hl
  have hD0 := hD
  have hn7 := hI.1
  have hinX5 : ∀ w ∈ wsX50, w ∈ wsX5_fewest := by decide +kernel
  have jn_17 : ∀  (x3_17 : Int32) , (x3_17 = wSN_ (sn_ B) a v) → ∀ (H : Heap) (locs : List Loc), va_P D vwCl (mW cI r B M) H → va_D A (mW cI r B M) → va_S A s.heap H locs → ∀ ls : Array Slot, lv_has ls 6 [(3, .int x3_17), (0, .ref (r 0)), (1, .int a), (2, .int v)] → W p l e (jR 9) s m ([.ref (r 0), .int a, .int v] : List Value).toArray below meth c H locs 0 0 (MQ below (va_Qi (S := MT) (fun r u => r = (if wSN_ (sn_ B) a v = 0 then (fw_ B (tn_ a) (tn_ v) (p2_ (sn_ B))).1 else wSN_ (sn_ B) a v) ∧ oQ_ M u (wSN_ (sn_ B) a v)) (fun u t => va_P D vwCl ((fun u => mW cI r B u) u) t.heap) A) ([.ref (r 0), .int a, .int v] : List Value).toArray s 0 0 A) (F0 m 17 ls []) := by
      intro x3_17 hx3_17 H locs hP hD hS ls hl
      subst x3_17
      replace hl : lv_has ls 6 [(3, .int (wSN_ (sn_ B) a v)), (0, .ref (r 0)), (1, .int a), (2, .int v)] := hl
      replace hP : va_P D vwCl (mW cI r B M) H := hP
      refine lv_iload_n hx hb dX5_fewest_17 rfl (lv_at hl 0 rfl) ?_
      refine lv_if_eq (tgt := 27) hx hb dX5_fewest_18 (by decide) (fun c_18 => ?_) (fun c_18 => ?_)
      · skip
        have w0 := c_18
        simp only [wS_, wSN_, wSNW_, wNW_, wTh_, wTr_, f2_0, nb_0, ob_0, uk_0, lo_0, hi_0] at w0
        obtain ⟨a_, ha_, rfl⟩ := pl_lt (n := sn_ B) (by omega) w0.1
        obtain ⟨v_, hv_, rfl⟩ := pl_le (n := 99) (by decide) w0.2
        replace hl : lv_has ls 6 [(3, .int (wSN_ (sn_ B) (nI a_) (nI v_))), (0, .ref (r 0)), (1, .int (nI a_)), (2, .int (nI v_))] := hl
        refine lv_bipush (v := (-9)) hx hb dX5_fewest_27 (by decide) ?_
        refine lv_istore (lv' := [(4, .int (-9)), (3, .int (wSN_ (sn_ B) (nI a_) (nI v_))), (0, .ref (r 0)), (1, .int (nI a_)), (2, .int (nI v_))]) hx hb dX5_fewest_29 hl (by decide) rfl (fun ls hl => ?_)
        refine lv_iconst (v := 0) hx hb dX5_fewest_31 (by decide) ?_
        refine lv_istore (lv' := [(5, .int 0), (4, .int (-9)), (3, .int (wSN_ (sn_ B) (nI a_) (nI v_))), (0, .ref (r 0)), (1, .int (nI a_)), (2, .int (nI v_))]) hx hb dX5_fewest_32 hl (by decide) rfl (fun ls hl => ?_)
        have hp2 := p2_7 hn7
        have lp_34 : ∀ (fu_34 : Nat) (i : Nat) (x4_34 : Int32) (x5_34 : Int32) (M2 : MT), (x4_34 = oI_ (fwo_ B a_ v_ i)) → (x5_34 = nI i) → (i ≤ p2_ (sn_ B)) → (oN_ M M2) → p2_ (sn_ B) - i < fu_34 → ∀ (H : Heap) (locs : List Loc), va_P D vwCl (mW cI r B M2) H → va_D A (mW cI r B M2) → va_S A s.heap H locs → ∀ ls : Array Slot, lv_has ls 6 [(5, .int x5_34), (4, .int x4_34), (3, .int (wSN_ (sn_ B) (nI a_) (nI v_))), (0, .ref (r 0)), (1, .int (nI a_)), (2, .int (nI v_))] → W p l e (jR 9) s m ([.ref (r 0), .int (nI a_), .int (nI v_)] : List Value).toArray below meth c H locs 0 0 (MQ below (va_Qi (S := MT) (fun r u => r = (if wSN_ (sn_ B) (nI a_) (nI v_) = 0 then (fw_ B (tn_ (nI a_)) (tn_ (nI v_)) (p2_ (sn_ B))).1 else wSN_ (sn_ B) (nI a_) (nI v_)) ∧ oQ_ M u (wSN_ (sn_ B) (nI a_) (nI v_))) (fun u t => va_P D vwCl ((fun u => mW cI r B u) u) t.heap) A) ([.ref (r 0), .int (nI a_), .int (nI v_)] : List Value).toArray s 0 0 A) (F0 m 34 ls []) := by
          intro fu_34
          induction fu_34 with
          | zero => intro i x4_34 x5_34 M2 hx4_34 hx5_34 hi hM hfu; exact absurd hfu (Nat.not_lt_zero _)
          | succ fu_34 ih_34 =>
            intro i x4_34 x5_34 M2 hx4_34 hx5_34 hi hM hfu_34 H locs hP hD hS ls hl
            subst x4_34
            subst x5_34
            replace hl : lv_has ls 6 [(5, .int (nI i)), (4, .int (oI_ (fwo_ B a_ v_ i))), (3, .int (wSN_ (sn_ B) (nI a_) (nI v_))), (0, .ref (r 0)), (1, .int (nI a_)), (2, .int (nI v_))] := hl
            replace hP : va_P D vwCl (mW cI r B M2) H := hP
            rcases hL : fwo_ B a_ v_ i with _ | t
            · rw [hL] at hl
              replace hl : lv_has ls 6 [(5, .int (nI i)), (4, .int (-9)), (3, .int (wSN_ (sn_ B) (nI a_) (nI v_))), (0, .ref (r 0)), (1, .int (nI a_)), (2, .int (nI v_))] := hl
              refine lv_iload hx hb dX5_fewest_34 (lv_at hl 0 rfl) ?_
              refine lv_iconst (v := 1) hx hb dX5_fewest_36 (by decide) ?_
              refine lv_aload_n hx hb dX5_fewest_37 rfl (lv_at hl 3 rfl) ?_
              refine va_get (ci := 5) (C := RX5) (T := TX5) (N := 33) hx hb hts hinX5 hown hK.1 hP 0 rfl rfl 6 (by decide) (hts _ (List.mem_of_getElem? (i := 1) rfl)) (fun _ h9 => h9) rfl dX5_fewest_38 ?_
              refine lv_ishl hx hb dX5_fewest_41 ?_
              refine lv_icmp_ge (tgt := 96) hx hb dX5_fewest_42 (by decide) (fun c_42 => ?_) (fun c_42 => ?_)
              · rw [sh_n hn7, jle (by omega) (by omega)] at c_42
                refine lv_iload hx hb dX5_fewest_96 (lv_at hl 1 rfl) ?_
                refine rMi hx hb hr hlk hS M2 hP ?_ dX5_fewest_98
                first | exact ⟨(if_neg c_18).symm, oQ_n _ _⟩ | exact ⟨by (rw [if_pos c_18]; simp only [tn_n (show a_ < 2147483648 by omega), tn_n (show v_ < 2147483648 by omega)]; have e9 : i = p2_ (sn_ B) := (by omega); rw [e9] at hL; rw [fwo_fw (by omega) _ (by omega), hL]; rfl), oQ_0 c_18 (by (first | exact (oN_mk (by assumption)).m | exact oM_.rf _ | exact (oN_pp _ _).m | exact (oN_fo _ _ _ _).m | assumption | (apply oN_.m; assumption) | exact oM_.tr (by assumption) (by assumption)))⟩
              · rw [sh_n hn7, jle (by omega) (by omega)] at c_42
                refine lv_iload hx hb dX5_fewest_45 (lv_at hl 0 rfl) ?_
                refine lv_iload_n hx hb dX5_fewest_47 rfl (lv_at hl 4 rfl) ?_
                refine kSiS hx hb hml hown hts hK hP gX5_fewest_X5_has okX5_has (qX5_has l D cI cB (nI i) a_ ) [] rfl (by decide) hl.1 rfl rfl (Nat.le_of_ble_eq_true rfl) dX5_fewest_48 (by decide) (fun r_1 hr_2 => ?_)
                replace hr_2 : r_1 = b1 (qb_ (nI i) a_ = 1) := hr_2
                subst r_1
                refine lv_if_ne (tgt := 90) hx hb dX5_fewest_51 (by decide) (fun c_51 => ?_) (fun c_51 => ?_)
                · replace c_51 := b1_n c_51
                  refine lv_iinc (v := (nI i) + 1) (lv' := [(5, .int ((nI i) + 1)), (4, .int (-9)), (3, .int (wSN_ (sn_ B) (nI a_) (nI v_))), (0, .ref (r 0)), (1, .int (nI a_)), (2, .int (nI v_))]) hx hb dX5_fewest_90 hl (k := 0) rfl (by first | rfl | decide) (by decide) rfl (fun ls hl => ?_)
                  refine lv_goto (tgt := 34) hx hb dX5_fewest_93 (by decide) ?_
                  exact ih_34 (i + 1) (-9) ((nI i) + 1) M2 (by first | (rw [fwo_n1 (fun q => by rw [c_51] at q; exact absurd q (by decide)), hL]; rfl) | (rw [fwo_n2 hL c_69, hL]; rfl) | (rw [fwo_n2 hL (by omega), hL]; rfl) | (rw [fwo_n3 (Int32.not_lt.mpr c_83), hL]; rfl) | (rw [fwo_y (qb_01 c_51) (fun u q => by rw [hL] at q; cases q; omega) (Int32.not_le.mp c_83)]; rfl) | (rw [fwo_y (qb_01 c_51) (fun u q => by rw [hL] at q; cases q) (Int32.not_le.mp c_83)]; rfl)) (by first | rfl | exact nI_1 _) (by omega) (by first | assumption | exact oN_.tr hM (by assumption)) (by omega) _ _ hP (va_D.adr hD0 (mW_adE rfl)) hS ls (lv_sub hl [0, 1, 2, 3, 4, 5] rfl)
                · replace c_51 := b1_z c_51
                  refine lv_iload hx hb dX5_fewest_54 (lv_at hl 1 rfl) ?_
                  refine lv_if_lt (tgt := 75) hx hb dX5_fewest_56 (by decide) (fun _ => ?_) (fun q => absurd q (by decide))
                  refine lv_aload_n hx hb dX5_fewest_75 rfl (lv_at hl 3 rfl) ?_
                  refine lv_iload_n hx hb dX5_fewest_76 rfl (lv_at hl 4 rfl) ?_
                  refine lv_iload_n hx hb dX5_fewest_77 rfl (lv_at hl 5 rfl) ?_
                  refine lv_iload hx hb dX5_fewest_78 (lv_at hl 0 rfl) ?_
                  refine kMiV hx hb hml hown hts hK hP (va_D.adr hD0 (mW_adE rfl)) hA hS gX5_fewest_X5_oftenHushed okX5_oftenHushed (qX5_oftenHushed l D cI cB r B M2 a_ v_ i hI ha_ (by omega) (by omega)) [0, 1, 2, 3, 4, 5, 6, 7, 8, 9, 10, 11, 12, 13, 14, 15] rfl (by decide) (fun _ => mW_adr _ _ _ _ _ _) rfl rfl rfl (by decide) hl.1 rfl rfl (Nat.le_of_ble_eq_true rfl) dX5_fewest_80 (by decide) (fun r_3 u_4 H locs hw_5 hP hD hS => ?_)
                  replace hw_5 : r_3 = tc_ (uq_ B (qt_ B ||| nI i)) a_ v_ ∧ oN_ M2 u_4 := hw_5
                  obtain ⟨hw_5a, hw_5b⟩ := hw_5
                  subst r_3
                  replace hP : va_P D vwCl (mW cI r B u_4) H := (va_P.m [true, true, true, true, true, true, true, true, true, true, true, true, true, true, true, true] [] hP)
                  refine lv_if_le (tgt := 90) hx hb dX5_fewest_83 (by decide) (fun c_83 => ?_) (fun c_83 => ?_)
                  · have d_83 := Int32.not_lt.mpr c_83
                    refine lv_iinc (v := (nI i) + 1) (lv' := [(5, .int ((nI i) + 1)), (4, .int (-9)), (3, .int (wSN_ (sn_ B) (nI a_) (nI v_))), (0, .ref (r 0)), (1, .int (nI a_)), (2, .int (nI v_))]) hx hb dX5_fewest_90 hl (k := 0) rfl (by first | rfl | decide) (by decide) rfl (fun ls hl => ?_)
                    refine lv_goto (tgt := 34) hx hb dX5_fewest_93 (by decide) ?_
                    exact ih_34 (i + 1) (-9) ((nI i) + 1) u_4 (by first | (rw [fwo_n1 (fun q => by rw [c_51] at q; exact absurd q (by decide)), hL]; rfl) | (rw [fwo_n2 hL c_69, hL]; rfl) | (rw [fwo_n2 hL (by omega), hL]; rfl) | (rw [fwo_n3 (Int32.not_lt.mpr c_83), hL]; rfl) | (rw [fwo_y (qb_01 c_51) (fun u q => by rw [hL] at q; cases q; omega) (Int32.not_le.mp c_83)]; rfl) | (rw [fwo_y (qb_01 c_51) (fun u q => by rw [hL] at q; cases q) (Int32.not_le.mp c_83)]; rfl)) (by first | rfl | exact nI_1 _) (by omega) (by first | assumption | exact oN_.tr hM (by assumption)) (by omega) _ _ hP (va_D.adr hD0 (mW_adE rfl)) hS ls (lv_sub hl [0, 1, 2, 3, 4, 5] rfl)
                  · have d_83 := Int32.not_le.mp c_83
                    refine lv_iload hx hb dX5_fewest_86 (lv_at hl 0 rfl) ?_
                    refine lv_istore (lv' := [(4, .int (nI i)), (5, .int (nI i)), (3, .int (wSN_ (sn_ B) (nI a_) (nI v_))), (0, .ref (r 0)), (1, .int (nI a_)), (2, .int (nI v_))]) hx hb dX5_fewest_88 hl (by decide) rfl (fun ls hl => ?_)
                    refine lv_iinc (v := (nI i) + 1) (lv' := [(5, .int ((nI i) + 1)), (4, .int (nI i)), (3, .int (wSN_ (sn_ B) (nI a_) (nI v_))), (0, .ref (r 0)), (1, .int (nI a_)), (2, .int (nI v_))]) hx hb dX5_fewest_90 hl (k := 1) rfl (by first | rfl | decide) (by decide) rfl (fun ls hl => ?_)
                    refine lv_goto (tgt := 34) hx hb dX5_fewest_93 (by decide) ?_
                    exact ih_34 (i + 1) (nI i) ((nI i) + 1) u_4 (by first | (rw [fwo_n1 (fun q => by rw [c_51] at q; exact absurd q (by decide)), hL]; rfl) | (rw [fwo_n2 hL c_69, hL]; rfl) | (rw [fwo_n2 hL (by omega), hL]; rfl) | (rw [fwo_n3 (Int32.not_lt.mpr c_83), hL]; rfl) | (rw [fwo_y (qb_01 c_51) (fun u q => by rw [hL] at q; cases q; omega) (Int32.not_le.mp c_83)]; rfl) | (rw [fwo_y (qb_01 c_51) (fun u q => by rw [hL] at q; cases q) (Int32.not_le.mp c_83)]; rfl)) (by first | rfl | exact nI_1 _) (by omega) (by first | assumption | exact oN_.tr hM (by assumption)) (by omega) _ _ hP (va_D.adr hD0 (mW_adE rfl)) hS ls (lv_sub hl [0, 1, 2, 3, 4, 5] rfl)
            · rw [hL] at hl
              replace hl : lv_has ls 6 [(5, .int (nI i)), (4, .int (nI t)), (3, .int (wSN_ (sn_ B) (nI a_) (nI v_))), (0, .ref (r 0)), (1, .int (nI a_)), (2, .int (nI v_))] := hl
              have ht := fwo_lt _ _ hL
              have hpt := pn_le t
              have hpi := pn_le i
              refine lv_iload hx hb dX5_fewest_34 (lv_at hl 0 rfl) ?_
              refine lv_iconst (v := 1) hx hb dX5_fewest_36 (by decide) ?_
              refine lv_aload_n hx hb dX5_fewest_37 rfl (lv_at hl 3 rfl) ?_
              refine va_get (ci := 5) (C := RX5) (T := TX5) (N := 33) hx hb hts hinX5 hown hK.1 hP 0 rfl rfl 6 (by decide) (hts _ (List.mem_of_getElem? (i := 1) rfl)) (fun _ h9 => h9) rfl dX5_fewest_38 ?_
              refine lv_ishl hx hb dX5_fewest_41 ?_
              refine lv_icmp_ge (tgt := 96) hx hb dX5_fewest_42 (by decide) (fun c_42 => ?_) (fun c_42 => ?_)
              · rw [sh_n hn7, jle (by omega) (by omega)] at c_42
                refine lv_iload hx hb dX5_fewest_96 (lv_at hl 1 rfl) ?_
                refine rMi hx hb hr hlk hS M2 hP ?_ dX5_fewest_98
                first | exact ⟨(if_neg c_18).symm, oQ_n _ _⟩ | exact ⟨by (rw [if_pos c_18]; simp only [tn_n (show a_ < 2147483648 by omega), tn_n (show v_ < 2147483648 by omega)]; have e9 : i = p2_ (sn_ B) := (by omega); rw [e9] at hL; rw [fwo_fw (by omega) _ (by omega), hL]; rfl), oQ_0 c_18 (by (first | exact (oN_mk (by assumption)).m | exact oM_.rf _ | exact (oN_pp _ _).m | exact (oN_fo _ _ _ _).m | assumption | (apply oN_.m; assumption) | exact oM_.tr (by assumption) (by assumption)))⟩
              · rw [sh_n hn7, jle (by omega) (by omega)] at c_42
                refine lv_iload hx hb dX5_fewest_45 (lv_at hl 0 rfl) ?_
                refine lv_iload_n hx hb dX5_fewest_47 rfl (lv_at hl 4 rfl) ?_
                refine kSiS hx hb hml hown hts hK hP gX5_fewest_X5_has okX5_has (qX5_has l D cI cB (nI i) a_ ) [] rfl (by decide) hl.1 rfl rfl (Nat.le_of_ble_eq_true rfl) dX5_fewest_48 (by decide) (fun r_6 hr_7 => ?_)
                replace hr_7 : r_6 = b1 (qb_ (nI i) a_ = 1) := hr_7
                subst r_6
                refine lv_if_ne (tgt := 90) hx hb dX5_fewest_51 (by decide) (fun c_51 => ?_) (fun c_51 => ?_)
                · replace c_51 := b1_n c_51
                  refine lv_iinc (v := (nI i) + 1) (lv' := [(5, .int ((nI i) + 1)), (4, .int (nI t)), (3, .int (wSN_ (sn_ B) (nI a_) (nI v_))), (0, .ref (r 0)), (1, .int (nI a_)), (2, .int (nI v_))]) hx hb dX5_fewest_90 hl (k := 0) rfl (by first | rfl | decide) (by decide) rfl (fun ls hl => ?_)
                  refine lv_goto (tgt := 34) hx hb dX5_fewest_93 (by decide) ?_
                  exact ih_34 (i + 1) (nI t) ((nI i) + 1) M2 (by first | (rw [fwo_n1 (fun q => by rw [c_51] at q; exact absurd q (by decide)), hL]; rfl) | (rw [fwo_n2 hL c_69, hL]; rfl) | (rw [fwo_n2 hL (by omega), hL]; rfl) | (rw [fwo_n3 (Int32.not_lt.mpr c_83), hL]; rfl) | (rw [fwo_y (qb_01 c_51) (fun u q => by rw [hL] at q; cases q; omega) (Int32.not_le.mp c_83)]; rfl) | (rw [fwo_y (qb_01 c_51) (fun u q => by rw [hL] at q; cases q) (Int32.not_le.mp c_83)]; rfl)) (by first | rfl | exact nI_1 _) (by omega) (by first | assumption | exact oN_.tr hM (by assumption)) (by omega) _ _ hP (va_D.adr hD0 (mW_adE rfl)) hS ls (lv_sub hl [0, 1, 2, 3, 4, 5] rfl)
                · replace c_51 := b1_z c_51
                  refine lv_iload hx hb dX5_fewest_54 (lv_at hl 1 rfl) ?_
                  refine lv_if_lt (tgt := 75) hx hb dX5_fewest_56 (by decide) (fun q => absurd q (nI_pos (by omega))) (fun _ => ?_)
                  refine lv_iload hx hb dX5_fewest_59 (lv_at hl 0 rfl) ?_
                  refine kSiS hx hb hml hown hts hK hP gX5_fewest_X5_bits okX5_bits (qX5_bits l D cI cB i (by omega)) [] rfl (by decide) hl.1 rfl rfl (Nat.le_of_ble_eq_true rfl) dX5_fewest_61 (by decide) (fun r_8 hr_9 => ?_)
                  replace hr_9 : r_8 = nI (pn_ i) := hr_9
                  subst r_8
                  refine lv_iload hx hb dX5_fewest_64 (lv_at hl 1 rfl) ?_
                  refine kSiS hx hb hml hown hts hK hP gX5_fewest_X5_bits okX5_bits (qX5_bits l D cI cB t (by omega)) [] rfl (by decide) hl.1 rfl rfl (Nat.le_of_ble_eq_true rfl) dX5_fewest_66 (by decide) (fun r_10 hr_11 => ?_)
                  replace hr_11 : r_10 = nI (pn_ t) := hr_11
                  subst r_10
                  refine lv_icmp_lt (tgt := 75) hx hb dX5_fewest_69 (by decide) (fun c_69 => ?_) (fun c_69 => ?_)
                  · replace c_69 : nI (pn_ i) < nI (pn_ t) := c_69
                    rw [jlt (by omega) (by omega)] at c_69
                    refine lv_aload_n hx hb dX5_fewest_75 rfl (lv_at hl 3 rfl) ?_
                    refine lv_iload_n hx hb dX5_fewest_76 rfl (lv_at hl 4 rfl) ?_
                    refine lv_iload_n hx hb dX5_fewest_77 rfl (lv_at hl 5 rfl) ?_
                    refine lv_iload hx hb dX5_fewest_78 (lv_at hl 0 rfl) ?_
                    refine kMiV hx hb hml hown hts hK hP (va_D.adr hD0 (mW_adE rfl)) hA hS gX5_fewest_X5_oftenHushed okX5_oftenHushed (qX5_oftenHushed l D cI cB r B M2 a_ v_ i hI ha_ (by omega) (by omega)) [0, 1, 2, 3, 4, 5, 6, 7, 8, 9, 10, 11, 12, 13, 14, 15] rfl (by decide) (fun _ => mW_adr _ _ _ _ _ _) rfl rfl rfl (by decide) hl.1 rfl rfl (Nat.le_of_ble_eq_true rfl) dX5_fewest_80 (by decide) (fun r_12 u_13 H locs hw_14 hP hD hS => ?_)
                    replace hw_14 : r_12 = tc_ (uq_ B (qt_ B ||| nI i)) a_ v_ ∧ oN_ M2 u_13 := hw_14
                    obtain ⟨hw_14a, hw_14b⟩ := hw_14
                    subst r_12
                    replace hP : va_P D vwCl (mW cI r B u_13) H := (va_P.m [true, true, true, true, true, true, true, true, true, true, true, true, true, true, true, true] [] hP)
                    refine lv_if_le (tgt := 90) hx hb dX5_fewest_83 (by decide) (fun c_83 => ?_) (fun c_83 => ?_)
                    · have d_83 := Int32.not_lt.mpr c_83
                      refine lv_iinc (v := (nI i) + 1) (lv' := [(5, .int ((nI i) + 1)), (4, .int (nI t)), (3, .int (wSN_ (sn_ B) (nI a_) (nI v_))), (0, .ref (r 0)), (1, .int (nI a_)), (2, .int (nI v_))]) hx hb dX5_fewest_90 hl (k := 0) rfl (by first | rfl | decide) (by decide) rfl (fun ls hl => ?_)
                      refine lv_goto (tgt := 34) hx hb dX5_fewest_93 (by decide) ?_
                      exact ih_34 (i + 1) (nI t) ((nI i) + 1) u_13 (by first | (rw [fwo_n1 (fun q => by rw [c_51] at q; exact absurd q (by decide)), hL]; rfl) | (rw [fwo_n2 hL c_69, hL]; rfl) | (rw [fwo_n2 hL (by omega), hL]; rfl) | (rw [fwo_n3 (Int32.not_lt.mpr c_83), hL]; rfl) | (rw [fwo_y (qb_01 c_51) (fun u q => by rw [hL] at q; cases q; omega) (Int32.not_le.mp c_83)]; rfl) | (rw [fwo_y (qb_01 c_51) (fun u q => by rw [hL] at q; cases q) (Int32.not_le.mp c_83)]; rfl)) (by first | rfl | exact nI_1 _) (by omega) (by first | assumption | exact oN_.tr hM (by assumption)) (by omega) _ _ hP (va_D.adr hD0 (mW_adE rfl)) hS ls (lv_sub hl [0, 1, 2, 3, 4, 5] rfl)
                    · have d_83 := Int32.not_le.mp c_83
                      refine lv_iload hx hb dX5_fewest_86 (lv_at hl 0 rfl) ?_
                      refine lv_istore (lv' := [(4, .int (nI i)), (5, .int (nI i)), (3, .int (wSN_ (sn_ B) (nI a_) (nI v_))), (0, .ref (r 0)), (1, .int (nI a_)), (2, .int (nI v_))]) hx hb dX5_fewest_88 hl (by decide) rfl (fun ls hl => ?_)
                      refine lv_iinc (v := (nI i) + 1) (lv' := [(5, .int ((nI i) + 1)), (4, .int (nI i)), (3, .int (wSN_ (sn_ B) (nI a_) (nI v_))), (0, .ref (r 0)), (1, .int (nI a_)), (2, .int (nI v_))]) hx hb dX5_fewest_90 hl (k := 1) rfl (by first | rfl | decide) (by decide) rfl (fun ls hl => ?_)
                      refine lv_goto (tgt := 34) hx hb dX5_fewest_93 (by decide) ?_
                      exact ih_34 (i + 1) (nI i) ((nI i) + 1) u_13 (by first | (rw [fwo_n1 (fun q => by rw [c_51] at q; exact absurd q (by decide)), hL]; rfl) | (rw [fwo_n2 hL c_69, hL]; rfl) | (rw [fwo_n2 hL (by omega), hL]; rfl) | (rw [fwo_n3 (Int32.not_lt.mpr c_83), hL]; rfl) | (rw [fwo_y (qb_01 c_51) (fun u q => by rw [hL] at q; cases q; omega) (Int32.not_le.mp c_83)]; rfl) | (rw [fwo_y (qb_01 c_51) (fun u q => by rw [hL] at q; cases q) (Int32.not_le.mp c_83)]; rfl)) (by first | rfl | exact nI_1 _) (by omega) (by first | assumption | exact oN_.tr hM (by assumption)) (by omega) _ _ hP (va_D.adr hD0 (mW_adE rfl)) hS ls (lv_sub hl [0, 1, 2, 3, 4, 5] rfl)
                  · replace c_69 : ¬ nI (pn_ i) < nI (pn_ t) := c_69
                    rw [jlt (by omega) (by omega)] at c_69
                    refine lv_goto (tgt := 90) hx hb dX5_fewest_72 (by decide) ?_
                    refine lv_iinc (v := (nI i) + 1) (lv' := [(5, .int ((nI i) + 1)), (4, .int (nI t)), (3, .int (wSN_ (sn_ B) (nI a_) (nI v_))), (0, .ref (r 0)), (1, .int (nI a_)), (2, .int (nI v_))]) hx hb dX5_fewest_90 hl (k := 0) rfl (by first | rfl | decide) (by decide) rfl (fun ls hl => ?_)
                    refine lv_goto (tgt := 34) hx hb dX5_fewest_93 (by decide) ?_
                    exact ih_34 (i + 1) (nI t) ((nI i) + 1) M2 (by first | (rw [fwo_n1 (fun q => by rw [c_51] at q; exact absurd q (by decide)), hL]; rfl) | (rw [fwo_n2 hL c_69, hL]; rfl) | (rw [fwo_n2 hL (by omega), hL]; rfl) | (rw [fwo_n3 (Int32.not_lt.mpr c_83), hL]; rfl) | (rw [fwo_y (qb_01 c_51) (fun u q => by rw [hL] at q; cases q; omega) (Int32.not_le.mp c_83)]; rfl) | (rw [fwo_y (qb_01 c_51) (fun u q => by rw [hL] at q; cases q) (Int32.not_le.mp c_83)]; rfl)) (by first | rfl | exact nI_1 _) (by omega) (by first | assumption | exact oN_.tr hM (by assumption)) (by omega) _ _ hP (va_D.adr hD0 (mW_adE rfl)) hS ls (lv_sub hl [0, 1, 2, 3, 4, 5] rfl)
        exact lp_34 ((p2_ (sn_ B)) + 1) 0 (-9) 0 M (rfl) (by first | rfl | exact nI_0.symm) (by omega) (by first | assumption | exact oN_.rf _) (by omega) _ _ hP (va_D.adr hD0 (mW_adE rfl)) hS ls (lv_sub hl [0, 1, 2, 3, 4, 5] rfl)
      · skip
        refine lv_aload_n hx hb dX5_fewest_21 rfl (lv_at hl 1 rfl) ?_
        refine lv_iload_n hx hb dX5_fewest_22 rfl (lv_at hl 0 rfl) ?_
        refine kMiV hx hb hml hown hts hK hP (va_D.adr hD0 (mW_adE rfl)) hA hS gX5_fewest_X5_no okX5_no (qX5_no l D cI cB r B M (wSN_ (sn_ B) a v) (rc0_n (by first | exact rc0_wS _ _ | exact rc0_wSN _ _ _ | exact rc0_wSNW _ _ _ _ | exact rc0_wNW _ _ | exact rc0_wTh _ _ _ _ _ | exact rc0_wTr _ _ _ _ | exact rc0_nb _ _ | exact rc0_uk _ _ | exact rc0_ob _ _ _ | exact rc0_f2 (rc0_nb _ _) (rc0_nb _ _) | exact rc0_f2 (rc0_nb _ _) (rc0_uk _ _) | exact rc0_f2 (rc0_ob _ _ _) (rc0_uk _ _) | exact rc0_f2 (rc0_uk _ _) (rc0_f2 (rc0_uk _ _) (rc0_ob _ _ _))) c_18)) [0, 1, 2, 3, 4, 5, 6, 7, 8, 9, 10, 11, 12, 13, 14, 15] rfl (by decide) (fun _ => mW_adr _ _ _ _ _ _) rfl rfl rfl (by decide) hl.1 rfl rfl (Nat.le_of_ble_eq_true rfl) dX5_fewest_23 (by decide) (fun r_15 u_16 H locs hw_17 hP hD hS => ?_)
        replace hw_17 : r_15 = wSN_ (sn_ B) a v ∧ u_16 = (rfm_ M (wSN_ (sn_ B) a v)) := hw_17
        obtain ⟨hw_17a, hw_17b⟩ := hw_17
        subst r_15
        subst u_16
        replace hP : va_P D vwCl ([(r 0, .inr (5, [.ref (r 1), .ref (r 2), .ref (r 3), .ref (r 4), .ref (r 5), .ref (r 6), .int (nI (sn_ B)), .int (qt_ B), .int (il_ B), .int (pa_ B), .int (ho_ B), .int (dy_ B), .ref (r 13), .ref (r 14), .ref (r 15), .ref (r 16), .int (nI (mtn_ M)), .int (nI (mrd_ M)), .int (nI (msm_ M)), .ref (r 20), .int (mhi_ M), .int (mik_ M), .int (nI (mcu_ M)), .int (nI (mbk_ M)), .ref (r 25), .ref (r 26), .int (mlw_ M), .int (mhg_ M), .int (msl_ M), .ref (r 30), .int (nI (mrm_ M)), .ref (r 32), .int (mlo_ M)])), (r 1, .inl (cI, 7, .inl (rfx_ (mrf_ M) (wSN_ (sn_ B) a v)))), (r 2, .inl (cI, 7, .inl (kd_ B))), (r 3, .inl (cI, 7, .inl (fg_ B))), (r 4, .inl (cI, 7, .inl (pl_ B))), (r 5, .inl (cI, 7, .inl (pw_ B))), (r 6, .inl (cI, 7, .inl (jy_ B))), (r 13, .inl (cI, 96, .inl (mtp_ M))), (r 14, .inl (cI, 48, .inl (mlt_ M))), (r 15, .inl (cI, 48, .inl (mla_ M))), (r 16, .inl (cI, 144, .inl (mtd_ M))), (r 20, .inl (cI, 451, .inl (flatK (mkp_ M)))), (r 25, .inl (cI, 7, .inl (mof_ M))), (r 26, .inl (cI, 7, .inl (mfa_ M))), (r 30, .inl (cI, 12, .inl (mrw_ M))), (r 32, .inl (cI, 8, .inl (mhb_ M)))]) H := (va_P.m [true, true, true, true, true, true, true, true, true, true, true, true, true, true, true, true] [] hP)
        refine rMi hx hb hr hlk hS (rfm_ M (wSN_ (sn_ B) a v)) hP ?_ dX5_fewest_26
        first | exact ⟨(if_neg c_18).symm, oQ_n _ _⟩ | exact ⟨by (rw [if_pos c_18]; simp only [tn_n (show a_ < 2147483648 by omega), tn_n (show v_ < 2147483648 by omega)]; have e9 : i = p2_ (sn_ B) := (by omega); rw [e9] at hL; rw [fwo_fw (by omega) _ (by omega), hL]; rfl), oQ_0 c_18 (by (first | exact (oN_mk (by assumption)).m | exact oM_.rf _ | exact (oN_pp _ _).m | exact (oN_fo _ _ _ _).m | assumption | (apply oN_.m; assumption) | exact oM_.tr (by assumption) (by assumption)))⟩
  refine lv_aload_n hx hb dX5_fewest_0 rfl (lv_at hl 0 rfl) ?_
  refine lv_iload_n hx hb dX5_fewest_1 rfl (lv_at hl 1 rfl) ?_
  refine kSiV hx hb hml hown hts hK hP gX5_fewest_X5_isShore okX5_isShore (qX5_isShore l D cI cB r B M a (by show sn_ B ≤ 7; omega)) [0, 1, 2, 3, 4, 5, 6, 7, 8, 9, 10, 11, 12, 13, 14, 15] rfl rfl rfl rfl (by decide) hl.1 rfl rfl (Nat.le_of_ble_eq_true rfl) dX5_fewest_2 (by decide) (fun r_18 hr_19 => ?_)
  replace hr_19 : r_18 = b1 (0 ≤ a ∧ a < nI (sn_ B)) := hr_19
  subst r_18
  refine lv_if_ne (tgt := 12) hx hb dX5_fewest_5 (by decide) (fun c_5 => ?_) (fun c_5 => ?_)
  · replace c_5 := b1_n c_5
    refine lv_iload_n hx hb dX5_fewest_12 rfl (lv_at hl 2 rfl) ?_
    refine kSiS hx hb hml hown hts hK hP gX5_fewest_X5_notHours okX5_notHours (qX5_notHours l D cI cB v ) [] rfl (by decide) hl.1 rfl rfl (Nat.le_of_ble_eq_true rfl) dX5_fewest_13 (by decide) (fun r_20 hr_21 => ?_)
    replace hr_21 : r_20 = ob_ v 0 99 := hr_21
    subst r_20
    refine lv_istore_n (lv' := [(3, .int (ob_ v 0 99)), (0, .ref (r 0)), (1, .int a), (2, .int v)]) hx hb dX5_fewest_16 rfl hl (by decide) rfl (fun ls hl => ?_)
    exact jn_17  (ob_ v 0 99)  (by first | exact (f2_b (nb_i c_5)).symm | exact ((f2_a (by rw [nb_o c_5]; decide)).trans (nb_o c_5)).symm)   _ _ hP (va_D.adr hD0 (mW_adE rfl)) hS ls (lv_sub hl [0, 1, 2, 3] rfl)
  · replace c_5 := b1_z c_5
    refine lv_iconst (v := (-1)) hx hb dX5_fewest_8 (by decide) ?_
    refine lv_goto (tgt := 16) hx hb dX5_fewest_9 (by decide) ?_
    refine lv_istore_n (lv' := [(3, .int (-1)), (0, .ref (r 0)), (1, .int a), (2, .int v)]) hx hb dX5_fewest_16 rfl hl (by decide) rfl (fun ls hl => ?_)
    exact jn_17  (-1)  (by first | exact (f2_b (nb_i c_5)).symm | exact ((f2_a (by rw [nb_o c_5]; decide)).trans (nb_o c_5)).symm)   _ _ hP (va_D.adr hD0 (mW_adE rfl)) hS ls (lv_sub hl [0, 1, 2, 3] rfl)

theorem okX5_fromWhere : jok yX5_fromWhere wsX5_fromWhere cX5_fromWhere 8 (some .int) 3 := ⟨⟨_, rfl⟩, by decide +kernel, by decide +kernel⟩
set_option maxHeartbeats 2000000 in
set_option maxRecDepth 100000 in
theorem qX5_fromWhere (l : Launch) (D : va_G) (cI cB : ClassId) (r : Nat → Nat) (B : BayT) (M : MT) (a : Int32) (v : Int32) (q : Int32) (hI : bI_ B) : jMi D cI cB l yX5_fromWhere wsX5_fromWhere 8 [.ref (r 0), .int a, .int v, .int q] (mW cI r B M) (S := MT) (fun r u => r = (if wSNW_ (sn_ B) a v q = 0 then (if q = 0 then cs_ B (tn_ a) (tn_ v) 31 else oI_ (ls_ B (tn_ a) (tn_ v) 31 0)) else wSNW_ (sn_ B) a v q) ∧ oQ_ M u (wSNW_ (sn_ B) a v q)) (fun u => mW cI r B u) := by
  refine jMi.of (cc := cX5_fromWhere) (maxL := 8) (ret := (some .int)) okX5_fromWhere (Nat.le_of_ble_eq_true rfl) ?_
  intro p e s m below meth c ls A hx hb hr hts hown hlk hml hP hK hD hA hS hl
  replace hown : s.vm.findClass RX5 = some m.cls := hown
  replace hl : lv_has ls 8 [(0, .ref (r 0)), (1, .int a), (2, .int v), (3, .int q)] := hl
  have hD0 := hD
  have hn7 := hI.1
  have jn_18 : ∀  (x4_18 : Int32) , (x4_18 = wSN_ (sn_ B) a v) → ∀ (H : Heap) (locs : List Loc), va_P D vwCl (mW cI r B M) H → va_D A (mW cI r B M) → va_S A s.heap H locs → ∀ ls : Array Slot, lv_has ls 8 [(4, .int x4_18), (0, .ref (r 0)), (1, .int a), (2, .int v), (3, .int q)] → W p l e (jR 8) s m ([.ref (r 0), .int a, .int v, .int q] : List Value).toArray below meth c H locs 0 0 (MQ below (va_Qi (S := MT) (fun r u => r = (if wSNW_ (sn_ B) a v q = 0 then (if q = 0 then cs_ B (tn_ a) (tn_ v) 31 else oI_ (ls_ B (tn_ a) (tn_ v) 31 0)) else wSNW_ (sn_ B) a v q) ∧ oQ_ M u (wSNW_ (sn_ B) a v q)) (fun u t => va_P D vwCl ((fun u => mW cI r B u) u) t.heap) A) ([.ref (r 0), .int a, .int v, .int q] : List Value).toArray s 0 0 A) (F0 m 18 ls []) := by
      intro x4_18 hx4_18 H locs hP hD hS ls hl
      subst x4_18
      replace hl : lv_has ls 8 [(4, .int (wSN_ (sn_ B) a v)), (0, .ref (r 0)), (1, .int a), (2, .int v), (3, .int q)] := hl
      replace hP : va_P D vwCl (mW cI r B M) H := hP
      have jn_36 : ∀  (x4_36 : Int32) , (x4_36 = wSNW_ (sn_ B) a v q) → ∀ (H : Heap) (locs : List Loc), va_P D vwCl (mW cI r B M) H → va_D A (mW cI r B M) → va_S A s.heap H locs → ∀ ls : Array Slot, lv_has ls 8 [(4, .int x4_36), (0, .ref (r 0)), (1, .int a), (2, .int v), (3, .int q)] → W p l e (jR 8) s m ([.ref (r 0), .int a, .int v, .int q] : List Value).toArray below meth c H locs 0 0 (MQ below (va_Qi (S := MT) (fun r u => r = (if wSNW_ (sn_ B) a v q = 0 then (if q = 0 then cs_ B (tn_ a) (tn_ v) 31 else oI_ (ls_ B (tn_ a) (tn_ v) 31 0)) else wSNW_ (sn_ B) a v q) ∧ oQ_ M u (wSNW_ (sn_ B) a v q)) (fun u t => va_P D vwCl ((fun u => mW cI r B u) u) t.heap) A) ([.ref (r 0), .int a, .int v, .int q] : List Value).toArray s 0 0 A) (F0 m 36 ls []) := by
          intro x4_36 hx4_36 H locs hP hD hS ls hl
          subst x4_36
          replace hl : lv_has ls 8 [(4, .int (wSNW_ (sn_ B) a v q)), (0, .ref (r 0)), (1, .int a), (2, .int v), (3, .int q)] := hl
          replace hP : va_P D vwCl (mW cI r B M) H := hP
          refine lv_iload hx hb dX5_fromWhere_36 (lv_at hl 0 rfl) ?_
          refine lv_if_eq (tgt := 48) hx hb dX5_fromWhere_38 (by decide) (fun c_38 => ?_) (fun c_38 => ?_)
          · skip
            have w0 := c_38
            simp only [wS_, wSN_, wSNW_, wNW_, wTh_, wTr_, f2_0, nb_0, ob_0, uk_0, lo_0, hi_0] at w0
            obtain ⟨a_, ha_, rfl⟩ := pl_lt (n := sn_ B) (by omega) w0.1.1
            obtain ⟨v_, hv_, rfl⟩ := pl_le (n := 99) (by decide) w0.1.2
            replace hl : lv_has ls 8 [(4, .int (wSNW_ (sn_ B) (nI a_) (nI v_) q)), (0, .ref (r 0)), (1, .int (nI a_)), (2, .int (nI v_)), (3, .int q)] := hl
            refine lv_iconst (v := 0) hx hb dX5_fromWhere_48 (by decide) ?_
            refine lv_istore (lv' := [(5, .int 0), (4, .int (wSNW_ (sn_ B) (nI a_) (nI v_) q)), (0, .ref (r 0)), (1, .int (nI a_)), (2, .int (nI v_)), (3, .int q)]) hx hb dX5_fromWhere_49 hl (by decide) rfl (fun ls hl => ?_)
            refine lv_bipush (v := (-9)) hx hb dX5_fromWhere_51 (by decide) ?_
            refine lv_istore (lv' := [(6, .int (-9)), (5, .int 0), (4, .int (wSNW_ (sn_ B) (nI a_) (nI v_) q)), (0, .ref (r 0)), (1, .int (nI a_)), (2, .int (nI v_)), (3, .int q)]) hx hb dX5_fromWhere_53 hl (by decide) rfl (fun ls hl => ?_)
            refine lv_bipush (v := 30) hx hb dX5_fromWhere_55 (by decide) ?_
            refine lv_istore (lv' := [(7, .int 30), (6, .int (-9)), (5, .int 0), (4, .int (wSNW_ (sn_ B) (nI a_) (nI v_) q)), (0, .ref (r 0)), (1, .int (nI a_)), (2, .int (nI v_)), (3, .int q)]) hx hb dX5_fromWhere_57 hl (by decide) rfl (fun ls hl => ?_)
            have lp_59 : ∀ (fu_59 : Nat) (i : Nat) (x5_59 : Int32) (x6_59 : Int32) (x7_59 : Int32) (M2 : MT), (x5_59 = csd_ B a_ v_ i) → (x6_59 = oI_ (ls_ B a_ v_ i (31 - i))) → (x7_59 = 30 - nI i) → (i ≤ 31) → (oM_ M M2) → 31 - i < fu_59 → ∀ (H : Heap) (locs : List Loc), va_P D vwCl (mW cI r B M2) H → va_D A (mW cI r B M2) → va_S A s.heap H locs → ∀ ls : Array Slot, lv_has ls 8 [(7, .int x7_59), (6, .int x6_59), (5, .int x5_59), (4, .int (wSNW_ (sn_ B) (nI a_) (nI v_) q)), (0, .ref (r 0)), (1, .int (nI a_)), (2, .int (nI v_)), (3, .int q)] → W p l e (jR 8) s m ([.ref (r 0), .int (nI a_), .int (nI v_), .int q] : List Value).toArray below meth c H locs 0 0 (MQ below (va_Qi (S := MT) (fun r u => r = (if wSNW_ (sn_ B) (nI a_) (nI v_) q = 0 then (if q = 0 then cs_ B (tn_ (nI a_)) (tn_ (nI v_)) 31 else oI_ (ls_ B (tn_ (nI a_)) (tn_ (nI v_)) 31 0)) else wSNW_ (sn_ B) (nI a_) (nI v_) q) ∧ oQ_ M u (wSNW_ (sn_ B) (nI a_) (nI v_) q)) (fun u t => va_P D vwCl ((fun u => mW cI r B u) u) t.heap) A) ([.ref (r 0), .int (nI a_), .int (nI v_), .int q] : List Value).toArray s 0 0 A) (F0 m 59 ls []) := by
              intro fu_59
              induction fu_59 with
              | zero => intro i x5_59 x6_59 x7_59 M2 hx5_59 hx6_59 hx7_59 hi hM hfu; exact absurd hfu (Nat.not_lt_zero _)
              | succ fu_59 ih_59 =>
                intro i x5_59 x6_59 x7_59 M2 hx5_59 hx6_59 hx7_59 hi hM hfu_59 H locs hP hD hS ls hl
                subst x5_59
                subst x6_59
                subst x7_59
                replace hl : lv_has ls 8 [(7, .int (30 - nI i)), (6, .int (oI_ (ls_ B a_ v_ i (31 - i)))), (5, .int (csd_ B a_ v_ i)), (4, .int (wSNW_ (sn_ B) (nI a_) (nI v_) q)), (0, .ref (r 0)), (1, .int (nI a_)), (2, .int (nI v_)), (3, .int q)] := hl
                replace hP : va_P D vwCl (mW cI r B M2) H := hP
                refine lv_iload hx hb dX5_fromWhere_59 (lv_at hl 0 rfl) ?_
                refine lv_if_lt (tgt := 91) hx hb dX5_fromWhere_61 (by decide) (fun c_61 => ?_) (fun c_61 => ?_)
                · rw [d30_lt (by omega)] at c_61
                  refine lv_iload_n hx hb dX5_fromWhere_91 rfl (lv_at hl 7 rfl) ?_
                  refine lv_if_ne (tgt := 100) hx hb dX5_fromWhere_92 (by decide) (fun c_92 => ?_) (fun c_92 => ?_)
                  · skip
                    refine lv_iload hx hb dX5_fromWhere_100 (lv_at hl 1 rfl) ?_
                    refine rMi hx hb hr hlk hS M2 hP ?_ dX5_fromWhere_102
                    first | exact ⟨(if_neg c_38).symm, oQ_n _ _⟩ | exact ⟨by (rw [if_pos c_38]; simp only [tn_n (show a_ < 2147483648 by omega), tn_n (show v_ < 2147483648 by omega)]; have e9 : i = 31 := (by omega); subst e9; first | (rw [if_pos c_92]; exact csd_31 _ _ _) | (rw [if_neg c_92]; done)), oQ_0 c_38 (by (first | exact (oN_mk (by assumption)).m | exact oM_.rf _ | exact (oN_pp _ _).m | exact (oN_fo _ _ _ _).m | assumption | (apply oN_.m; assumption) | exact oM_.tr (by assumption) (by assumption)))⟩
                  · skip
                    refine lv_iload hx hb dX5_fromWhere_95 (lv_at hl 2 rfl) ?_
                    refine lv_goto (tgt := 102) hx hb dX5_fromWhere_97 (by decide) ?_
                    refine rMi hx hb hr hlk hS M2 hP ?_ dX5_fromWhere_102
                    first | exact ⟨(if_neg c_38).symm, oQ_n _ _⟩ | exact ⟨by (rw [if_pos c_38]; simp only [tn_n (show a_ < 2147483648 by omega), tn_n (show v_ < 2147483648 by omega)]; have e9 : i = 31 := (by omega); subst e9; first | (rw [if_pos c_92]; exact csd_31 _ _ _) | (rw [if_neg c_92]; done)), oQ_0 c_38 (by (first | exact (oN_mk (by assumption)).m | exact oM_.rf _ | exact (oN_pp _ _).m | exact (oN_fo _ _ _ _).m | assumption | (apply oN_.m; assumption) | exact oM_.tr (by assumption) (by assumption)))⟩
                · rw [d30_lt (by omega)] at c_61
                  refine lv_aload_n hx hb dX5_fromWhere_64 rfl (lv_at hl 4 rfl) ?_
                  refine lv_iload hx hb dX5_fromWhere_65 (lv_at hl 0 rfl) ?_
                  refine sti (x := 30 - nI i) (y := nI (30 - i)) (d30_n (by omega)) ?_
                  refine lv_iload_n hx hb dX5_fromWhere_67 rfl (lv_at hl 5 rfl) ?_
                  refine lv_iload_n hx hb dX5_fromWhere_68 rfl (lv_at hl 6 rfl) ?_
                  refine kMiV hx hb hml hown hts hK hP (va_D.adr hD0 (mW_adE rfl)) hA hS gX5_fromWhere_X5_isThereFrom okX5_isThereFrom (qX5_isThereFrom l D cI cB r B M2 (30 - i) a_ v_ hI (by omega) ha_ (by omega)) [0, 1, 2, 3, 4, 5, 6, 7, 8, 9, 10, 11, 12, 13, 14, 15] rfl (by decide) (fun _ => mW_adr _ _ _ _ _ _) rfl rfl rfl (by decide) hl.1 rfl rfl (Nat.le_of_ble_eq_true rfl) dX5_fromWhere_69 (by decide) (fun r_1 u_2 H locs hw_3 hP hD hS => ?_)
                  replace hw_3 : r_1 = b1 (lead_ B a_ v_ (30 - i)) ∧ oM_ M2 u_2 := hw_3
                  obtain ⟨hw_3a, hw_3b⟩ := hw_3
                  subst r_1
                  replace hP : va_P D vwCl (mW cI r B u_2) H := (va_P.m [true, true, true, true, true, true, true, true, true, true, true, true, true, true, true, true] [] hP)
                  refine lv_if_ne (tgt := 78) hx hb dX5_fromWhere_72 (by decide) (fun c_72 => ?_) (fun c_72 => ?_)
                  · replace c_72 := b1_n c_72
                    refine lv_iinc (v := (csd_ B a_ v_ i) + 1) (lv' := [(5, .int ((csd_ B a_ v_ i) + 1)), (7, .int (30 - nI i)), (6, .int (oI_ (ls_ B a_ v_ i (31 - i)))), (4, .int (wSNW_ (sn_ B) (nI a_) (nI v_) q)), (0, .ref (r 0)), (1, .int (nI a_)), (2, .int (nI v_)), (3, .int q)]) hx hb dX5_fromWhere_78 hl (k := 2) rfl (by first | rfl | decide) (by decide) rfl (fun ls hl => ?_)
                    refine lv_iload hx hb dX5_fromWhere_81 (lv_at hl 1 rfl) ?_
                    refine sti (x := 30 - nI i) (y := nI (30 - i)) (d30_n (by omega)) ?_
                    refine lv_istore (lv' := [(6, .int (nI (30 - i))), (5, .int ((csd_ B a_ v_ i) + 1)), (7, .int (30 - nI i)), (4, .int (wSNW_ (sn_ B) (nI a_) (nI v_) q)), (0, .ref (r 0)), (1, .int (nI a_)), (2, .int (nI v_)), (3, .int q)]) hx hb dX5_fromWhere_83 hl (by decide) rfl (fun ls hl => ?_)
                    refine lv_iinc (v := (30 - nI i) + (-1)) (lv' := [(7, .int ((30 - nI i) + (-1))), (6, .int (nI (30 - i))), (5, .int ((csd_ B a_ v_ i) + 1)), (4, .int (wSNW_ (sn_ B) (nI a_) (nI v_) q)), (0, .ref (r 0)), (1, .int (nI a_)), (2, .int (nI v_)), (3, .int q)]) hx hb dX5_fromWhere_85 hl (k := 2) rfl (by first | rfl | decide) (by decide) rfl (fun ls hl => ?_)
                    refine lv_goto (tgt := 59) hx hb dX5_fromWhere_88 (by decide) ?_
                    exact ih_59 (i + 1) ((csd_ B a_ v_ i) + 1) (nI (30 - i)) ((30 - nI i) + (-1)) u_2 (by first | (rw [csd_, if_pos c_72]; done) | (rw [csd_, if_neg c_72]; done)) (by first | (rw [ls_d (by omega), if_pos c_72]; rfl) | (rw [ls_d (by omega), if_neg c_72]; done)) (d30_s (by omega)) (by omega) (oM_.tr hM (by assumption)) (by omega) _ _ hP (va_D.adr hD0 (mW_adE rfl)) hS ls (lv_sub hl [0, 1, 2, 3, 4, 5, 6, 7] rfl)
                  · replace c_72 := b1_z c_72
                    refine lv_goto (tgt := 85) hx hb dX5_fromWhere_75 (by decide) ?_
                    refine lv_iinc (v := (30 - nI i) + (-1)) (lv' := [(7, .int ((30 - nI i) + (-1))), (6, .int (oI_ (ls_ B a_ v_ i (31 - i)))), (5, .int (csd_ B a_ v_ i)), (4, .int (wSNW_ (sn_ B) (nI a_) (nI v_) q)), (0, .ref (r 0)), (1, .int (nI a_)), (2, .int (nI v_)), (3, .int q)]) hx hb dX5_fromWhere_85 hl (k := 0) rfl (by first | rfl | decide) (by decide) rfl (fun ls hl => ?_)
                    refine lv_goto (tgt := 59) hx hb dX5_fromWhere_88 (by decide) ?_
                    exact ih_59 (i + 1) (csd_ B a_ v_ i) (oI_ (ls_ B a_ v_ i (31 - i))) ((30 - nI i) + (-1)) u_2 (by first | (rw [csd_, if_pos c_72]; done) | (rw [csd_, if_neg c_72]; done)) (by first | (rw [ls_d (by omega), if_pos c_72]; rfl) | (rw [ls_d (by omega), if_neg c_72]; done)) (d30_s (by omega)) (by omega) (oM_.tr hM (by assumption)) (by omega) _ _ hP (va_D.adr hD0 (mW_adE rfl)) hS ls (lv_sub hl [0, 1, 2, 3, 4, 5, 6, 7] rfl)
            exact lp_59 (31 + 1) 0 0 (-9) 30 M (rfl) (rfl) (rfl) (by omega) (oM_.rf _) (by omega) _ _ hP (va_D.adr hD0 (mW_adE rfl)) hS ls (lv_sub hl [0, 1, 2, 3, 4, 5, 6, 7] rfl)
          · skip
            refine lv_aload_n hx hb dX5_fromWhere_41 rfl (lv_at hl 1 rfl) ?_
            refine lv_iload hx hb dX5_fromWhere_42 (lv_at hl 0 rfl) ?_
            refine kMiV hx hb hml hown hts hK hP (va_D.adr hD0 (mW_adE rfl)) hA hS gX5_fromWhere_X5_no okX5_no (qX5_no l D cI cB r B M (wSNW_ (sn_ B) a v q) (rc0_n (by first | exact rc0_wS _ _ | exact rc0_wSN _ _ _ | exact rc0_wSNW _ _ _ _ | exact rc0_wNW _ _ | exact rc0_wTh _ _ _ _ _ | exact rc0_wTr _ _ _ _ | exact rc0_nb _ _ | exact rc0_uk _ _ | exact rc0_ob _ _ _ | exact rc0_f2 (rc0_nb _ _) (rc0_nb _ _) | exact rc0_f2 (rc0_nb _ _) (rc0_uk _ _) | exact rc0_f2 (rc0_ob _ _ _) (rc0_uk _ _) | exact rc0_f2 (rc0_uk _ _) (rc0_f2 (rc0_uk _ _) (rc0_ob _ _ _))) c_38)) [0, 1, 2, 3, 4, 5, 6, 7, 8, 9, 10, 11, 12, 13, 14, 15] rfl (by decide) (fun _ => mW_adr _ _ _ _ _ _) rfl rfl rfl (by decide) hl.1 rfl rfl (Nat.le_of_ble_eq_true rfl) dX5_fromWhere_44 (by decide) (fun r_4 u_5 H locs hw_6 hP hD hS => ?_)
            replace hw_6 : r_4 = wSNW_ (sn_ B) a v q ∧ u_5 = (rfm_ M (wSNW_ (sn_ B) a v q)) := hw_6
            obtain ⟨hw_6a, hw_6b⟩ := hw_6
            subst r_4
            subst u_5
            replace hP : va_P D vwCl ([(r 0, .inr (5, [.ref (r 1), .ref (r 2), .ref (r 3), .ref (r 4), .ref (r 5), .ref (r 6), .int (nI (sn_ B)), .int (qt_ B), .int (il_ B), .int (pa_ B), .int (ho_ B), .int (dy_ B), .ref (r 13), .ref (r 14), .ref (r 15), .ref (r 16), .int (nI (mtn_ M)), .int (nI (mrd_ M)), .int (nI (msm_ M)), .ref (r 20), .int (mhi_ M), .int (mik_ M), .int (nI (mcu_ M)), .int (nI (mbk_ M)), .ref (r 25), .ref (r 26), .int (mlw_ M), .int (mhg_ M), .int (msl_ M), .ref (r 30), .int (nI (mrm_ M)), .ref (r 32), .int (mlo_ M)])), (r 1, .inl (cI, 7, .inl (rfx_ (mrf_ M) (wSNW_ (sn_ B) a v q)))), (r 2, .inl (cI, 7, .inl (kd_ B))), (r 3, .inl (cI, 7, .inl (fg_ B))), (r 4, .inl (cI, 7, .inl (pl_ B))), (r 5, .inl (cI, 7, .inl (pw_ B))), (r 6, .inl (cI, 7, .inl (jy_ B))), (r 13, .inl (cI, 96, .inl (mtp_ M))), (r 14, .inl (cI, 48, .inl (mlt_ M))), (r 15, .inl (cI, 48, .inl (mla_ M))), (r 16, .inl (cI, 144, .inl (mtd_ M))), (r 20, .inl (cI, 451, .inl (flatK (mkp_ M)))), (r 25, .inl (cI, 7, .inl (mof_ M))), (r 26, .inl (cI, 7, .inl (mfa_ M))), (r 30, .inl (cI, 12, .inl (mrw_ M))), (r 32, .inl (cI, 8, .inl (mhb_ M)))]) H := (va_P.m [true, true, true, true, true, true, true, true, true, true, true, true, true, true, true, true] [] hP)
            refine rMi hx hb hr hlk hS (rfm_ M (wSNW_ (sn_ B) a v q)) hP ?_ dX5_fromWhere_47
            first | exact ⟨(if_neg c_38).symm, oQ_n _ _⟩ | exact ⟨by (rw [if_pos c_38]; simp only [tn_n (show a_ < 2147483648 by omega), tn_n (show v_ < 2147483648 by omega)]; have e9 : i = 31 := (by omega); subst e9; first | (rw [if_pos c_92]; exact csd_31 _ _ _) | (rw [if_neg c_92]; done)), oQ_0 c_38 (by (first | exact (oN_mk (by assumption)).m | exact oM_.rf _ | exact (oN_pp _ _).m | exact (oN_fo _ _ _ _).m | assumption | (apply oN_.m; assumption) | exact oM_.tr (by assumption) (by assumption)))⟩
      refine lv_iload hx hb dX5_fromWhere_18 (lv_at hl 0 rfl) ?_
      refine lv_if_ne (tgt := 36) hx hb dX5_fromWhere_20 (by decide) (fun c_20 => ?_) (fun c_20 => ?_)
      · skip
        exact jn_36  (wSN_ (sn_ B) a v)  (by first | exact (f2_a c_20).symm | exact c_20.trans ((f2_b c_20).trans (uk_i c_29)).symm | exact ((f2_b c_20).trans (uk_o c_29)).symm)   _ _ hP (va_D.adr hD0 (mW_adE rfl)) hS ls (lv_sub hl [0, 1, 2, 3, 4] rfl)
      · skip
        refine lv_iload_n hx hb dX5_fromWhere_23 rfl (lv_at hl 4 rfl) ?_
        refine lv_iconst (v := 0) hx hb dX5_fromWhere_24 (by decide) ?_
        refine lv_iconst (v := 1) hx hb dX5_fromWhere_25 (by decide) ?_
        refine kSiS hx hb hml hown hts hK hP gX5_fromWhere_X5_isIn okX5_isIn (qX5_isIn l D cI cB q 0 1 ) [] rfl (by decide) hl.1 rfl rfl (Nat.le_of_ble_eq_true rfl) dX5_fromWhere_26 (by decide) (fun r_7 hr_8 => ?_)
        replace hr_8 : r_7 = b1 (0 ≤ q ∧ q ≤ 1) := hr_8
        subst r_7
        refine lv_if_ne (tgt := 36) hx hb dX5_fromWhere_29 (by decide) (fun c_29 => ?_) (fun c_29 => ?_)
        · replace c_29 := b1_n c_29
          exact jn_36  (wSN_ (sn_ B) a v)  (by first | exact (f2_a c_20).symm | exact c_20.trans ((f2_b c_20).trans (uk_i c_29)).symm | exact ((f2_b c_20).trans (uk_o c_29)).symm)   _ _ hP (va_D.adr hD0 (mW_adE rfl)) hS ls (lv_sub hl [0, 1, 2, 3, 4] rfl)
        · replace c_29 := b1_z c_29
          refine lv_bipush (v := (-2)) hx hb dX5_fromWhere_32 (by decide) ?_
          refine lv_istore (lv' := [(4, .int (-2)), (0, .ref (r 0)), (1, .int a), (2, .int v), (3, .int q)]) hx hb dX5_fromWhere_34 hl (by decide) rfl (fun ls hl => ?_)
          exact jn_36  (-2)  (by first | exact (f2_a c_20).symm | exact c_20.trans ((f2_b c_20).trans (uk_i c_29)).symm | exact ((f2_b c_20).trans (uk_o c_29)).symm)   _ _ hP (va_D.adr hD0 (mW_adE rfl)) hS ls (lv_sub hl [0, 1, 2, 3, 4] rfl)
  refine lv_aload_n hx hb dX5_fromWhere_0 rfl (lv_at hl 0 rfl) ?_
  refine lv_iload_n hx hb dX5_fromWhere_1 rfl (lv_at hl 1 rfl) ?_
  refine kSiV hx hb hml hown hts hK hP gX5_fromWhere_X5_isShore okX5_isShore (qX5_isShore l D cI cB r B M a (by show sn_ B ≤ 7; omega)) [0, 1, 2, 3, 4, 5, 6, 7, 8, 9, 10, 11, 12, 13, 14, 15] rfl rfl rfl rfl (by decide) hl.1 rfl rfl (Nat.le_of_ble_eq_true rfl) dX5_fromWhere_2 (by decide) (fun r_9 hr_10 => ?_)
  replace hr_10 : r_9 = b1 (0 ≤ a ∧ a < nI (sn_ B)) := hr_10
  subst r_9
  refine lv_if_ne (tgt := 12) hx hb dX5_fromWhere_5 (by decide) (fun c_5 => ?_) (fun c_5 => ?_)
  · replace c_5 := b1_n c_5
    refine lv_iload_n hx hb dX5_fromWhere_12 rfl (lv_at hl 2 rfl) ?_
    refine kSiS hx hb hml hown hts hK hP gX5_fromWhere_X5_notHours okX5_notHours (qX5_notHours l D cI cB v ) [] rfl (by decide) hl.1 rfl rfl (Nat.le_of_ble_eq_true rfl) dX5_fromWhere_13 (by decide) (fun r_11 hr_12 => ?_)
    replace hr_12 : r_11 = ob_ v 0 99 := hr_12
    subst r_11
    refine lv_istore (lv' := [(4, .int (ob_ v 0 99)), (0, .ref (r 0)), (1, .int a), (2, .int v), (3, .int q)]) hx hb dX5_fromWhere_16 hl (by decide) rfl (fun ls hl => ?_)
    exact jn_18  (ob_ v 0 99)  (by first | exact (f2_b (nb_i c_5)).symm | exact ((f2_a (by rw [nb_o c_5]; decide)).trans (nb_o c_5)).symm)   _ _ hP (va_D.adr hD0 (mW_adE rfl)) hS ls (lv_sub hl [0, 1, 2, 3, 4] rfl)
  · replace c_5 := b1_z c_5
    refine lv_iconst (v := (-1)) hx hb dX5_fromWhere_8 (by decide) ?_
    refine lv_goto (tgt := 16) hx hb dX5_fromWhere_9 (by decide) ?_
    refine lv_istore (lv' := [(4, .int (-1)), (0, .ref (r 0)), (1, .int a), (2, .int v), (3, .int q)]) hx hb dX5_fromWhere_16 hl (by decide) rfl (fun ls hl => ?_)
    exact jn_18  (-1)  (by first | exact (f2_b (nb_i c_5)).symm | exact ((f2_a (by rw [nb_o c_5]; decide)).trans (nb_o c_5)).symm)   _ _ hP (va_D.adr hD0 (mW_adE rfl)) hS ls (lv_sub hl [0, 1, 2, 3, 4] rfl)

theorem okX5_powderWanted : jok yX5_powderWanted wsX5_powderWanted cX5_powderWanted 10 (some .int) 3 := ⟨⟨_, rfl⟩, by decide +kernel, by decide +kernel⟩
set_option maxHeartbeats 2000000 in
set_option maxRecDepth 100000 in
theorem qX5_powderWanted (l : Launch) (D : va_G) (cI cB : ClassId) (r : Nat → Nat) (B : BayT) (M : MT) (a : Int32) (v : Int32) (q : Int32) (hI : bI_ B) : jMi D cI cB l yX5_powderWanted wsX5_powderWanted 8 [.ref (r 0), .int a, .int v, .int q] (mW cI r B M) (S := MT) (fun r u => r = (if wSNW_ (sn_ B) a v q = 0 then (if q = 0 then bpX_ B (tn_ a) (tn_ v) else tc_ (uw_ B (tn_ a) (bpX_ B (tn_ a) (tn_ v))) (tn_ a) (tn_ v)) else wSNW_ (sn_ B) a v q) ∧ oQ_ M u (wSNW_ (sn_ B) a v q)) (fun u => mW cI r B u) := by
  refine jMi.of (cc := cX5_powderWanted) (maxL := 10) (ret := (some .int)) okX5_powderWanted (Nat.le_of_ble_eq_true rfl) ?_
  intro p e s m below meth c ls A hx hb hr hts hown hlk hml hP hK hD hA hS hl
  replace hown : s.vm.findClass RX5 = some m.cls := hown
  replace hl : lv_has ls 10 [(0, .ref (r 0)), (1, .int a), (2, .int v), (3, .int q)] := hl
  have hD0 := hD
  have hn7 := hI.1
  have hinX5 : ∀ w ∈ wsX50, w ∈ wsX5_powderWanted := by decide +kernel
  have jn_18 : ∀  (x4_18 : Int32) , (x4_18 = wSN_ (sn_ B) a v) → ∀ (H : Heap) (locs : List Loc), va_P D vwCl (mW cI r B M) H → va_D A (mW cI r B M) → va_S A s.heap H locs → ∀ ls : Array Slot, lv_has ls 10 [(4, .int x4_18), (0, .ref (r 0)), (1, .int a), (2, .int v), (3, .int q)] → W p l e (jR 8) s m ([.ref (r 0), .int a, .int v, .int q] : List Value).toArray below meth c H locs 0 0 (MQ below (va_Qi (S := MT) (fun r u => r = (if wSNW_ (sn_ B) a v q = 0 then (if q = 0 then bpX_ B (tn_ a) (tn_ v) else tc_ (uw_ B (tn_ a) (bpX_ B (tn_ a) (tn_ v))) (tn_ a) (tn_ v)) else wSNW_ (sn_ B) a v q) ∧ oQ_ M u (wSNW_ (sn_ B) a v q)) (fun u t => va_P D vwCl ((fun u => mW cI r B u) u) t.heap) A) ([.ref (r 0), .int a, .int v, .int q] : List Value).toArray s 0 0 A) (F0 m 18 ls []) := by
      intro x4_18 hx4_18 H locs hP hD hS ls hl
      subst x4_18
      replace hl : lv_has ls 10 [(4, .int (wSN_ (sn_ B) a v)), (0, .ref (r 0)), (1, .int a), (2, .int v), (3, .int q)] := hl
      replace hP : va_P D vwCl (mW cI r B M) H := hP
      have jn_36 : ∀  (x4_36 : Int32) , (x4_36 = wSNW_ (sn_ B) a v q) → ∀ (H : Heap) (locs : List Loc), va_P D vwCl (mW cI r B M) H → va_D A (mW cI r B M) → va_S A s.heap H locs → ∀ ls : Array Slot, lv_has ls 10 [(4, .int x4_36), (0, .ref (r 0)), (1, .int a), (2, .int v), (3, .int q)] → W p l e (jR 8) s m ([.ref (r 0), .int a, .int v, .int q] : List Value).toArray below meth c H locs 0 0 (MQ below (va_Qi (S := MT) (fun r u => r = (if wSNW_ (sn_ B) a v q = 0 then (if q = 0 then bpX_ B (tn_ a) (tn_ v) else tc_ (uw_ B (tn_ a) (bpX_ B (tn_ a) (tn_ v))) (tn_ a) (tn_ v)) else wSNW_ (sn_ B) a v q) ∧ oQ_ M u (wSNW_ (sn_ B) a v q)) (fun u t => va_P D vwCl ((fun u => mW cI r B u) u) t.heap) A) ([.ref (r 0), .int a, .int v, .int q] : List Value).toArray s 0 0 A) (F0 m 36 ls []) := by
          intro x4_36 hx4_36 H locs hP hD hS ls hl
          subst x4_36
          replace hl : lv_has ls 10 [(4, .int (wSNW_ (sn_ B) a v q)), (0, .ref (r 0)), (1, .int a), (2, .int v), (3, .int q)] := hl
          replace hP : va_P D vwCl (mW cI r B M) H := hP
          refine lv_iload hx hb dX5_powderWanted_36 (lv_at hl 0 rfl) ?_
          refine lv_if_eq (tgt := 48) hx hb dX5_powderWanted_38 (by decide) (fun c_38 => ?_) (fun c_38 => ?_)
          · skip
            have w0 := c_38
            simp only [wS_, wSN_, wSNW_, wNW_, wTh_, wTr_, f2_0, nb_0, ob_0, uk_0, lo_0, hi_0] at w0
            obtain ⟨a_, ha_, rfl⟩ := pl_lt (n := sn_ B) (by omega) w0.1.1
            obtain ⟨v_, hv_, rfl⟩ := pl_le (n := 99) (by decide) w0.1.2
            replace hl : lv_has ls 10 [(4, .int (wSNW_ (sn_ B) (nI a_) (nI v_) q)), (0, .ref (r 0)), (1, .int (nI a_)), (2, .int (nI v_)), (3, .int q)] := hl
            refine lv_aload_n hx hb dX5_powderWanted_48 rfl (lv_at hl 1 rfl) ?_
            refine va_get (ci := 5) (C := RX5) (T := TX5) (N := 33) hx hb hts hinX5 hown hK.1 hP 0 rfl rfl 4 (by decide) (hts _ (List.mem_of_getElem? (i := 1) rfl)) (fun _ h9 => h9) rfl dX5_powderWanted_49 ?_
            refine lv_iload_n hx hb dX5_powderWanted_52 rfl (lv_at hl 2 rfl) ?_
            refine jald hx hb hK.1 hP 5 0 a_ rfl rfl rfl (by omega) (Nat.le_of_ble_eq_true rfl) dX5_powderWanted_53 ?_
            refine lv_istore (lv' := [(5, .int ((pw_ B) a_)), (4, .int (wSNW_ (sn_ B) (nI a_) (nI v_) q)), (0, .ref (r 0)), (1, .int (nI a_)), (2, .int (nI v_)), (3, .int q)]) hx hb dX5_powderWanted_54 hl (by decide) rfl (fun ls hl => ?_)
            refine lv_iconst (v := 0) hx hb dX5_powderWanted_56 (by decide) ?_
            refine lv_istore (lv' := [(6, .int 0), (5, .int ((pw_ B) a_)), (4, .int (wSNW_ (sn_ B) (nI a_) (nI v_) q)), (0, .ref (r 0)), (1, .int (nI a_)), (2, .int (nI v_)), (3, .int q)]) hx hb dX5_powderWanted_57 hl (by decide) rfl (fun ls hl => ?_)
            refine lv_bipush (v := (-9)) hx hb dX5_powderWanted_59 (by decide) ?_
            refine lv_istore (lv' := [(7, .int (-9)), (6, .int 0), (5, .int ((pw_ B) a_)), (4, .int (wSNW_ (sn_ B) (nI a_) (nI v_) q)), (0, .ref (r 0)), (1, .int (nI a_)), (2, .int (nI v_)), (3, .int q)]) hx hb dX5_powderWanted_61 hl (by decide) rfl (fun ls hl => ?_)
            refine lv_iconst (v := 0) hx hb dX5_powderWanted_63 (by decide) ?_
            refine lv_istore (lv' := [(8, .int 0), (7, .int (-9)), (6, .int 0), (5, .int ((pw_ B) a_)), (4, .int (wSNW_ (sn_ B) (nI a_) (nI v_) q)), (0, .ref (r 0)), (1, .int (nI a_)), (2, .int (nI v_)), (3, .int q)]) hx hb dX5_powderWanted_64 hl (by decide) rfl (fun ls hl => ?_)
            have lp_66 : ∀ (fu_66 : Nat) (i : Nat) (x6_66 : Int32) (x7_66 : Int32) (x8_66 : Int32) (P9 : Nat → Int32) (M2 : MT), (x6_66 = bz_ (bs_ (fun j => tc_ (uw_ B a_ (nI j)) a_ v_) (-9) i).1) → (x7_66 = (bs_ (fun j => tc_ (uw_ B a_ (nI j)) a_ v_) (-9) i).2) → (x8_66 = nI i) → (i ≤ 100) → (oN_ M M2) → (∀ j, ¬ j = a_ → P9 j = pw_ B j) → 100 - i < fu_66 → ∀ (H : Heap) (locs : List Loc), va_P D vwCl ([(r 0, .inr (5, [.ref (r 1), .ref (r 2), .ref (r 3), .ref (r 4), .ref (r 5), .ref (r 6), .int (nI (sn_ B)), .int (qt_ B), .int (il_ B), .int (pa_ B), .int (ho_ B), .int (dy_ B), .ref (r 13), .ref (r 14), .ref (r 15), .ref (r 16), .int (nI (mtn_ M2)), .int (nI (mrd_ M2)), .int (nI (msm_ M2)), .ref (r 20), .int (mhi_ M2), .int (mik_ M2), .int (nI (mcu_ M2)), .int (nI (mbk_ M2)), .ref (r 25), .ref (r 26), .int (mlw_ M2), .int (mhg_ M2), .int (msl_ M2), .ref (r 30), .int (nI (mrm_ M2)), .ref (r 32), .int (mlo_ M2)])), (r 1, .inl (cI, 7, .inl (mrf_ M2))), (r 2, .inl (cI, 7, .inl (kd_ B))), (r 3, .inl (cI, 7, .inl (fg_ B))), (r 4, .inl (cI, 7, .inl (pl_ B))), (r 5, .inl (cI, 7, .inl P9)), (r 6, .inl (cI, 7, .inl (jy_ B))), (r 13, .inl (cI, 96, .inl (mtp_ M2))), (r 14, .inl (cI, 48, .inl (mlt_ M2))), (r 15, .inl (cI, 48, .inl (mla_ M2))), (r 16, .inl (cI, 144, .inl (mtd_ M2))), (r 20, .inl (cI, 451, .inl (flatK (mkp_ M2)))), (r 25, .inl (cI, 7, .inl (mof_ M2))), (r 26, .inl (cI, 7, .inl (mfa_ M2))), (r 30, .inl (cI, 12, .inl (mrw_ M2))), (r 32, .inl (cI, 8, .inl (mhb_ M2)))]) H → va_D A ([(r 0, .inr (5, [.ref (r 1), .ref (r 2), .ref (r 3), .ref (r 4), .ref (r 5), .ref (r 6), .int (nI (sn_ B)), .int (qt_ B), .int (il_ B), .int (pa_ B), .int (ho_ B), .int (dy_ B), .ref (r 13), .ref (r 14), .ref (r 15), .ref (r 16), .int (nI (mtn_ M2)), .int (nI (mrd_ M2)), .int (nI (msm_ M2)), .ref (r 20), .int (mhi_ M2), .int (mik_ M2), .int (nI (mcu_ M2)), .int (nI (mbk_ M2)), .ref (r 25), .ref (r 26), .int (mlw_ M2), .int (mhg_ M2), .int (msl_ M2), .ref (r 30), .int (nI (mrm_ M2)), .ref (r 32), .int (mlo_ M2)])), (r 1, .inl (cI, 7, .inl (mrf_ M2))), (r 2, .inl (cI, 7, .inl (kd_ B))), (r 3, .inl (cI, 7, .inl (fg_ B))), (r 4, .inl (cI, 7, .inl (pl_ B))), (r 5, .inl (cI, 7, .inl P9)), (r 6, .inl (cI, 7, .inl (jy_ B))), (r 13, .inl (cI, 96, .inl (mtp_ M2))), (r 14, .inl (cI, 48, .inl (mlt_ M2))), (r 15, .inl (cI, 48, .inl (mla_ M2))), (r 16, .inl (cI, 144, .inl (mtd_ M2))), (r 20, .inl (cI, 451, .inl (flatK (mkp_ M2)))), (r 25, .inl (cI, 7, .inl (mof_ M2))), (r 26, .inl (cI, 7, .inl (mfa_ M2))), (r 30, .inl (cI, 12, .inl (mrw_ M2))), (r 32, .inl (cI, 8, .inl (mhb_ M2)))]) → va_S A s.heap H locs → ∀ ls : Array Slot, lv_has ls 10 [(8, .int x8_66), (7, .int x7_66), (6, .int x6_66), (5, .int ((pw_ B) a_)), (4, .int (wSNW_ (sn_ B) (nI a_) (nI v_) q)), (0, .ref (r 0)), (1, .int (nI a_)), (2, .int (nI v_)), (3, .int q)] → W p l e (jR 8) s m ([.ref (r 0), .int (nI a_), .int (nI v_), .int q] : List Value).toArray below meth c H locs 0 0 (MQ below (va_Qi (S := MT) (fun r u => r = (if wSNW_ (sn_ B) (nI a_) (nI v_) q = 0 then (if q = 0 then bpX_ B (tn_ (nI a_)) (tn_ (nI v_)) else tc_ (uw_ B (tn_ (nI a_)) (bpX_ B (tn_ (nI a_)) (tn_ (nI v_)))) (tn_ (nI a_)) (tn_ (nI v_))) else wSNW_ (sn_ B) (nI a_) (nI v_) q) ∧ oQ_ M u (wSNW_ (sn_ B) (nI a_) (nI v_) q)) (fun u t => va_P D vwCl ((fun u => mW cI r B u) u) t.heap) A) ([.ref (r 0), .int (nI a_), .int (nI v_), .int q] : List Value).toArray s 0 0 A) (F0 m 66 ls []) := by
              intro fu_66
              induction fu_66 with
              | zero => intro i x6_66 x7_66 x8_66 P9 M2 hx6_66 hx7_66 hx8_66 hi hM hPw hfu; exact absurd hfu (Nat.not_lt_zero _)
              | succ fu_66 ih_66 =>
                intro i x6_66 x7_66 x8_66 P9 M2 hx6_66 hx7_66 hx8_66 hi hM hPw hfu_66 H locs hP hD hS ls hl
                subst x6_66
                subst x7_66
                subst x8_66
                replace hl : lv_has ls 10 [(8, .int (nI i)), (7, .int ((bs_ (fun j => tc_ (uw_ B a_ (nI j)) a_ v_) (-9) i).2)), (6, .int (bz_ (bs_ (fun j => tc_ (uw_ B a_ (nI j)) a_ v_) (-9) i).1)), (5, .int ((pw_ B) a_)), (4, .int (wSNW_ (sn_ B) (nI a_) (nI v_) q)), (0, .ref (r 0)), (1, .int (nI a_)), (2, .int (nI v_)), (3, .int q)] := hl
                replace hP : va_P D vwCl ([(r 0, .inr (5, [.ref (r 1), .ref (r 2), .ref (r 3), .ref (r 4), .ref (r 5), .ref (r 6), .int (nI (sn_ B)), .int (qt_ B), .int (il_ B), .int (pa_ B), .int (ho_ B), .int (dy_ B), .ref (r 13), .ref (r 14), .ref (r 15), .ref (r 16), .int (nI (mtn_ M2)), .int (nI (mrd_ M2)), .int (nI (msm_ M2)), .ref (r 20), .int (mhi_ M2), .int (mik_ M2), .int (nI (mcu_ M2)), .int (nI (mbk_ M2)), .ref (r 25), .ref (r 26), .int (mlw_ M2), .int (mhg_ M2), .int (msl_ M2), .ref (r 30), .int (nI (mrm_ M2)), .ref (r 32), .int (mlo_ M2)])), (r 1, .inl (cI, 7, .inl (mrf_ M2))), (r 2, .inl (cI, 7, .inl (kd_ B))), (r 3, .inl (cI, 7, .inl (fg_ B))), (r 4, .inl (cI, 7, .inl (pl_ B))), (r 5, .inl (cI, 7, .inl P9)), (r 6, .inl (cI, 7, .inl (jy_ B))), (r 13, .inl (cI, 96, .inl (mtp_ M2))), (r 14, .inl (cI, 48, .inl (mlt_ M2))), (r 15, .inl (cI, 48, .inl (mla_ M2))), (r 16, .inl (cI, 144, .inl (mtd_ M2))), (r 20, .inl (cI, 451, .inl (flatK (mkp_ M2)))), (r 25, .inl (cI, 7, .inl (mof_ M2))), (r 26, .inl (cI, 7, .inl (mfa_ M2))), (r 30, .inl (cI, 12, .inl (mrw_ M2))), (r 32, .inl (cI, 8, .inl (mhb_ M2)))]) H := hP
                refine lv_iload hx hb dX5_powderWanted_66 (lv_at hl 0 rfl) ?_
                refine lv_bipush (v := 99) hx hb dX5_powderWanted_68 (by decide) ?_
                refine lv_icmp_gt (tgt := 113) hx hb dX5_powderWanted_70 (by decide) (fun c_70 => ?_) (fun c_70 => ?_)
                · replace c_70 : nI 99 < nI i := c_70
                  rw [jlt (by omega) (by omega)] at c_70
                  refine lv_aload_n hx hb dX5_powderWanted_113 rfl (lv_at hl 5 rfl) ?_
                  refine va_get (ci := 5) (C := RX5) (T := TX5) (N := 33) hx hb hts hinX5 hown hK.1 hP 0 rfl rfl 4 (by decide) (hts _ (List.mem_of_getElem? (i := 1) rfl)) (fun _ h9 => h9) rfl dX5_powderWanted_114 ?_
                  refine lv_iload_n hx hb dX5_powderWanted_117 rfl (lv_at hl 6 rfl) ?_
                  refine lv_iload hx hb dX5_powderWanted_118 (lv_at hl 3 rfl) ?_
                  refine jast hx hb hK.1 hP (va_D.adr hD0 (mW_adE rfl)) hS 5 0 a_ rfl rfl rfl (by omega) (Nat.le_of_ble_eq_true rfl) dX5_powderWanted_120 (fun f_1 ef_1 H locs hP hD hS => ?_)
                  replace ef_1 : f_1 = upd P9 a_ ((pw_ B) a_) := ef_1
                  replace hP : va_P D vwCl ([(r 0, .inr (5, [.ref (r 1), .ref (r 2), .ref (r 3), .ref (r 4), .ref (r 5), .ref (r 6), .int (nI (sn_ B)), .int (qt_ B), .int (il_ B), .int (pa_ B), .int (ho_ B), .int (dy_ B), .ref (r 13), .ref (r 14), .ref (r 15), .ref (r 16), .int (nI (mtn_ M2)), .int (nI (mrd_ M2)), .int (nI (msm_ M2)), .ref (r 20), .int (mhi_ M2), .int (mik_ M2), .int (nI (mcu_ M2)), .int (nI (mbk_ M2)), .ref (r 25), .ref (r 26), .int (mlw_ M2), .int (mhg_ M2), .int (msl_ M2), .ref (r 30), .int (nI (mrm_ M2)), .ref (r 32), .int (mlo_ M2)])), (r 1, .inl (cI, 7, .inl (mrf_ M2))), (r 2, .inl (cI, 7, .inl (kd_ B))), (r 3, .inl (cI, 7, .inl (fg_ B))), (r 4, .inl (cI, 7, .inl (pl_ B))), (r 5, .inl (cI, 7, .inl f_1)), (r 6, .inl (cI, 7, .inl (jy_ B))), (r 13, .inl (cI, 96, .inl (mtp_ M2))), (r 14, .inl (cI, 48, .inl (mlt_ M2))), (r 15, .inl (cI, 48, .inl (mla_ M2))), (r 16, .inl (cI, 144, .inl (mtd_ M2))), (r 20, .inl (cI, 451, .inl (flatK (mkp_ M2)))), (r 25, .inl (cI, 7, .inl (mof_ M2))), (r 26, .inl (cI, 7, .inl (mfa_ M2))), (r 30, .inl (cI, 12, .inl (mrw_ M2))), (r 32, .inl (cI, 8, .inl (mhb_ M2)))]) H := hP
                  (try rw [ef_1] at hP); (try rw [ef_1] at hD); (try rw [ef_1] at hl); (try rw [ef_1] at c_70); (try rw [ef_1])
                  replace hP := va_P.cong (g := pw_ B) hP 5 rfl (fun j _ => congrFun (upd_b hPw) j)
                  replace hP : va_P D vwCl ([(r 0, .inr (5, [.ref (r 1), .ref (r 2), .ref (r 3), .ref (r 4), .ref (r 5), .ref (r 6), .int (nI (sn_ B)), .int (qt_ B), .int (il_ B), .int (pa_ B), .int (ho_ B), .int (dy_ B), .ref (r 13), .ref (r 14), .ref (r 15), .ref (r 16), .int (nI (mtn_ M2)), .int (nI (mrd_ M2)), .int (nI (msm_ M2)), .ref (r 20), .int (mhi_ M2), .int (mik_ M2), .int (nI (mcu_ M2)), .int (nI (mbk_ M2)), .ref (r 25), .ref (r 26), .int (mlw_ M2), .int (mhg_ M2), .int (msl_ M2), .ref (r 30), .int (nI (mrm_ M2)), .ref (r 32), .int (mlo_ M2)])), (r 1, .inl (cI, 7, .inl (mrf_ M2))), (r 2, .inl (cI, 7, .inl (kd_ B))), (r 3, .inl (cI, 7, .inl (fg_ B))), (r 4, .inl (cI, 7, .inl (pl_ B))), (r 5, .inl (cI, 7, .inl (pw_ B))), (r 6, .inl (cI, 7, .inl (jy_ B))), (r 13, .inl (cI, 96, .inl (mtp_ M2))), (r 14, .inl (cI, 48, .inl (mlt_ M2))), (r 15, .inl (cI, 48, .inl (mla_ M2))), (r 16, .inl (cI, 144, .inl (mtd_ M2))), (r 20, .inl (cI, 451, .inl (flatK (mkp_ M2)))), (r 25, .inl (cI, 7, .inl (mof_ M2))), (r 26, .inl (cI, 7, .inl (mfa_ M2))), (r 30, .inl (cI, 12, .inl (mrw_ M2))), (r 32, .inl (cI, 8, .inl (mhb_ M2)))]) H := hP
                  replace hP : va_P D vwCl (mW cI r B M2) H := hP
                  refine lv_iload_n hx hb dX5_powderWanted_121 rfl (lv_at hl 8 rfl) ?_
                  refine lv_if_ne (tgt := 130) hx hb dX5_powderWanted_122 (by decide) (fun c_122 => ?_) (fun c_122 => ?_)
                  · skip
                    refine lv_iload hx hb dX5_powderWanted_130 (lv_at hl 1 rfl) ?_
                    refine rMi hx hb hr hlk hS M2 hP ?_ dX5_powderWanted_132
                    first | exact ⟨(if_neg c_38).symm, oQ_n _ _⟩ | exact ⟨by (rw [if_pos c_38]; simp only [tn_n (show a_ < 2147483648 by omega), tn_n (show v_ < 2147483648 by omega)]; have e9 : i = 100 := (by omega); subst e9; obtain ⟨t, e1, e2, e3⟩ := bpX_eq (B := B) (k := a_) (n := v_) (by omega); first | (rw [if_pos c_122, e1, e2]; rfl) | (rw [if_neg c_122, e1, e2])), oQ_0 c_38 (by (first | exact (oN_mk (by assumption)).m | exact oM_.rf _ | exact (oN_pp _ _).m | exact (oN_fo _ _ _ _).m | assumption | (apply oN_.m; assumption) | exact oM_.tr (by assumption) (by assumption)))⟩
                  · skip
                    refine lv_iload hx hb dX5_powderWanted_125 (lv_at hl 2 rfl) ?_
                    refine lv_goto (tgt := 132) hx hb dX5_powderWanted_127 (by decide) ?_
                    refine rMi hx hb hr hlk hS M2 hP ?_ dX5_powderWanted_132
                    first | exact ⟨(if_neg c_38).symm, oQ_n _ _⟩ | exact ⟨by (rw [if_pos c_38]; simp only [tn_n (show a_ < 2147483648 by omega), tn_n (show v_ < 2147483648 by omega)]; have e9 : i = 100 := (by omega); subst e9; obtain ⟨t, e1, e2, e3⟩ := bpX_eq (B := B) (k := a_) (n := v_) (by omega); first | (rw [if_pos c_122, e1, e2]; rfl) | (rw [if_neg c_122, e1, e2])), oQ_0 c_38 (by (first | exact (oN_mk (by assumption)).m | exact oM_.rf _ | exact (oN_pp _ _).m | exact (oN_fo _ _ _ _).m | assumption | (apply oN_.m; assumption) | exact oM_.tr (by assumption) (by assumption)))⟩
                · replace c_70 : ¬ nI 99 < nI i := c_70
                  rw [jlt (by omega) (by omega)] at c_70
                  refine lv_aload_n hx hb dX5_powderWanted_73 rfl (lv_at hl 5 rfl) ?_
                  refine va_get (ci := 5) (C := RX5) (T := TX5) (N := 33) hx hb hts hinX5 hown hK.1 hP 0 rfl rfl 4 (by decide) (hts _ (List.mem_of_getElem? (i := 1) rfl)) (fun _ h9 => h9) rfl dX5_powderWanted_74 ?_
                  refine lv_iload_n hx hb dX5_powderWanted_77 rfl (lv_at hl 6 rfl) ?_
                  refine lv_iload hx hb dX5_powderWanted_78 (lv_at hl 0 rfl) ?_
                  refine jast hx hb hK.1 hP (va_D.adr hD0 (mW_adE rfl)) hS 5 0 a_ rfl rfl rfl (by omega) (Nat.le_of_ble_eq_true rfl) dX5_powderWanted_80 (fun f_2 ef_2 H locs hP hD hS => ?_)
                  replace ef_2 : f_2 = upd P9 a_ (nI i) := ef_2
                  replace hP : va_P D vwCl ([(r 0, .inr (5, [.ref (r 1), .ref (r 2), .ref (r 3), .ref (r 4), .ref (r 5), .ref (r 6), .int (nI (sn_ B)), .int (qt_ B), .int (il_ B), .int (pa_ B), .int (ho_ B), .int (dy_ B), .ref (r 13), .ref (r 14), .ref (r 15), .ref (r 16), .int (nI (mtn_ M2)), .int (nI (mrd_ M2)), .int (nI (msm_ M2)), .ref (r 20), .int (mhi_ M2), .int (mik_ M2), .int (nI (mcu_ M2)), .int (nI (mbk_ M2)), .ref (r 25), .ref (r 26), .int (mlw_ M2), .int (mhg_ M2), .int (msl_ M2), .ref (r 30), .int (nI (mrm_ M2)), .ref (r 32), .int (mlo_ M2)])), (r 1, .inl (cI, 7, .inl (mrf_ M2))), (r 2, .inl (cI, 7, .inl (kd_ B))), (r 3, .inl (cI, 7, .inl (fg_ B))), (r 4, .inl (cI, 7, .inl (pl_ B))), (r 5, .inl (cI, 7, .inl f_2)), (r 6, .inl (cI, 7, .inl (jy_ B))), (r 13, .inl (cI, 96, .inl (mtp_ M2))), (r 14, .inl (cI, 48, .inl (mlt_ M2))), (r 15, .inl (cI, 48, .inl (mla_ M2))), (r 16, .inl (cI, 144, .inl (mtd_ M2))), (r 20, .inl (cI, 451, .inl (flatK (mkp_ M2)))), (r 25, .inl (cI, 7, .inl (mof_ M2))), (r 26, .inl (cI, 7, .inl (mfa_ M2))), (r 30, .inl (cI, 12, .inl (mrw_ M2))), (r 32, .inl (cI, 8, .inl (mhb_ M2)))]) H := hP
                  (try rw [ef_2] at hP); (try rw [ef_2] at hD); (try rw [ef_2] at hl); (try rw [ef_2] at c_70); (try rw [ef_2])
                  replace hP := va_P.cong (g := upd (pw_ B) a_ (nI i)) hP 5 rfl (fun j _ => congrFun (upd_o hPw) j)
                  replace hP : va_P D vwCl ([(r 0, .inr (5, [.ref (r 1), .ref (r 2), .ref (r 3), .ref (r 4), .ref (r 5), .ref (r 6), .int (nI (sn_ B)), .int (qt_ B), .int (il_ B), .int (pa_ B), .int (ho_ B), .int (dy_ B), .ref (r 13), .ref (r 14), .ref (r 15), .ref (r 16), .int (nI (mtn_ M2)), .int (nI (mrd_ M2)), .int (nI (msm_ M2)), .ref (r 20), .int (mhi_ M2), .int (mik_ M2), .int (nI (mcu_ M2)), .int (nI (mbk_ M2)), .ref (r 25), .ref (r 26), .int (mlw_ M2), .int (mhg_ M2), .int (msl_ M2), .ref (r 30), .int (nI (mrm_ M2)), .ref (r 32), .int (mlo_ M2)])), (r 1, .inl (cI, 7, .inl (mrf_ M2))), (r 2, .inl (cI, 7, .inl (kd_ B))), (r 3, .inl (cI, 7, .inl (fg_ B))), (r 4, .inl (cI, 7, .inl (pl_ B))), (r 5, .inl (cI, 7, .inl (upd (pw_ B) a_ (nI i)))), (r 6, .inl (cI, 7, .inl (jy_ B))), (r 13, .inl (cI, 96, .inl (mtp_ M2))), (r 14, .inl (cI, 48, .inl (mlt_ M2))), (r 15, .inl (cI, 48, .inl (mla_ M2))), (r 16, .inl (cI, 144, .inl (mtd_ M2))), (r 20, .inl (cI, 451, .inl (flatK (mkp_ M2)))), (r 25, .inl (cI, 7, .inl (mof_ M2))), (r 26, .inl (cI, 7, .inl (mfa_ M2))), (r 30, .inl (cI, 12, .inl (mrw_ M2))), (r 32, .inl (cI, 8, .inl (mhb_ M2)))]) H := hP
                  replace hP : va_P D vwCl ([(r 0, .inr (5, [.ref (r 1), .ref (r 2), .ref (r 3), .ref (r 4), .ref (r 5), .ref (r 6), .int (nI (sn_ B)), .int (qt_ B), .int (il_ B), .int (pa_ B), .int (ho_ B), .int (dy_ B), .ref (r 13), .ref (r 14), .ref (r 15), .ref (r 16), .int (nI (mtn_ M2)), .int (nI (mrd_ M2)), .int (nI (msm_ M2)), .ref (r 20), .int (mhi_ M2), .int (mik_ M2), .int (nI (mcu_ M2)), .int (nI (mbk_ M2)), .ref (r 25), .ref (r 26), .int (mlw_ M2), .int (mhg_ M2), .int (msl_ M2), .ref (r 30), .int (nI (mrm_ M2)), .ref (r 32), .int (mlo_ M2)])), (r 1, .inl (cI, 7, .inl (mrf_ M2))), (r 2, .inl (cI, 7, .inl (kd_ B))), (r 3, .inl (cI, 7, .inl (fg_ B))), (r 4, .inl (cI, 7, .inl (pl_ B))), (r 5, .inl (cI, 7, .inl (pw_ (uw_ B a_ (nI i))))), (r 6, .inl (cI, 7, .inl (jy_ B))), (r 13, .inl (cI, 96, .inl (mtp_ M2))), (r 14, .inl (cI, 48, .inl (mlt_ M2))), (r 15, .inl (cI, 48, .inl (mla_ M2))), (r 16, .inl (cI, 144, .inl (mtd_ M2))), (r 20, .inl (cI, 451, .inl (flatK (mkp_ M2)))), (r 25, .inl (cI, 7, .inl (mof_ M2))), (r 26, .inl (cI, 7, .inl (mfa_ M2))), (r 30, .inl (cI, 12, .inl (mrw_ M2))), (r 32, .inl (cI, 8, .inl (mhb_ M2)))]) H := hP
                  refine lv_aload_n hx hb dX5_powderWanted_81 rfl (lv_at hl 5 rfl) ?_
                  refine lv_iload_n hx hb dX5_powderWanted_82 rfl (lv_at hl 6 rfl) ?_
                  refine lv_iload_n hx hb dX5_powderWanted_83 rfl (lv_at hl 7 rfl) ?_
                  refine kMiV hx hb hml hown hts hK hP (va_D.adr hD0 (mW_adE rfl)) hA hS gX5_powderWanted_X5_oftenOf okX5_oftenOf (qX5_oftenOf l D cI cB r (uw_ B a_ (nI i)) M2 a_ v_ (bI_uw hI ⟨Int32.not_lt.mp (nI_pos (by omega)), (jle (b := 99) (by omega) (by decide)).mpr (by omega)⟩) ha_ (by omega)) [0, 1, 2, 3, 4, 5, 6, 7, 8, 9, 10, 11, 12, 13, 14, 15] rfl (by decide) (fun _ => mW_adr _ _ _ _ _ _) rfl rfl rfl (by decide) hl.1 rfl rfl (Nat.le_of_ble_eq_true rfl) dX5_powderWanted_84 (by decide) (fun r_3 u_4 H locs hw_5 hP hD hS => ?_)
                  replace hw_5 : r_3 = tc_ (uw_ B a_ (nI i)) a_ v_ ∧ oN_ M2 u_4 := hw_5
                  obtain ⟨hw_5a, hw_5b⟩ := hw_5
                  subst r_3
                  replace hP : va_P D vwCl ([(r 0, .inr (5, [.ref (r 1), .ref (r 2), .ref (r 3), .ref (r 4), .ref (r 5), .ref (r 6), .int (nI (sn_ B)), .int (qt_ B), .int (il_ B), .int (pa_ B), .int (ho_ B), .int (dy_ B), .ref (r 13), .ref (r 14), .ref (r 15), .ref (r 16), .int (nI (mtn_ u_4)), .int (nI (mrd_ u_4)), .int (nI (msm_ u_4)), .ref (r 20), .int (mhi_ u_4), .int (mik_ u_4), .int (nI (mcu_ u_4)), .int (nI (mbk_ u_4)), .ref (r 25), .ref (r 26), .int (mlw_ u_4), .int (mhg_ u_4), .int (msl_ u_4), .ref (r 30), .int (nI (mrm_ u_4)), .ref (r 32), .int (mlo_ u_4)])), (r 1, .inl (cI, 7, .inl (mrf_ u_4))), (r 2, .inl (cI, 7, .inl (kd_ B))), (r 3, .inl (cI, 7, .inl (fg_ B))), (r 4, .inl (cI, 7, .inl (pl_ B))), (r 5, .inl (cI, 7, .inl (pw_ (uw_ B a_ (nI i))))), (r 6, .inl (cI, 7, .inl (jy_ B))), (r 13, .inl (cI, 96, .inl (mtp_ u_4))), (r 14, .inl (cI, 48, .inl (mlt_ u_4))), (r 15, .inl (cI, 48, .inl (mla_ u_4))), (r 16, .inl (cI, 144, .inl (mtd_ u_4))), (r 20, .inl (cI, 451, .inl (flatK (mkp_ u_4)))), (r 25, .inl (cI, 7, .inl (mof_ u_4))), (r 26, .inl (cI, 7, .inl (mfa_ u_4))), (r 30, .inl (cI, 12, .inl (mrw_ u_4))), (r 32, .inl (cI, 8, .inl (mhb_ u_4)))]) H := (va_P.m [true, true, true, true, true, true, true, true, true, true, true, true, true, true, true, true] [] hP)
                  refine lv_istore (lv' := [(9, .int (tc_ (uw_ B a_ (nI i)) a_ v_)), (8, .int (nI i)), (7, .int ((bs_ (fun j => tc_ (uw_ B a_ (nI j)) a_ v_) (-9) i).2)), (6, .int (bz_ (bs_ (fun j => tc_ (uw_ B a_ (nI j)) a_ v_) (-9) i).1)), (5, .int ((pw_ B) a_)), (4, .int (wSNW_ (sn_ B) (nI a_) (nI v_) q)), (0, .ref (r 0)), (1, .int (nI a_)), (2, .int (nI v_)), (3, .int q)]) hx hb dX5_powderWanted_87 hl (by decide) rfl (fun ls hl => ?_)
                  refine lv_iload hx hb dX5_powderWanted_89 (lv_at hl 0 rfl) ?_
                  refine lv_iload hx hb dX5_powderWanted_91 (lv_at hl 2 rfl) ?_
                  refine lv_icmp_gt (tgt := 99) hx hb dX5_powderWanted_93 (by decide) (fun c_93 => ?_) (fun c_93 => ?_)
                  · have d_93 := Int32.not_le.mpr c_93
                    refine lv_iload hx hb dX5_powderWanted_99 (lv_at hl 1 rfl) ?_
                    refine lv_istore (lv' := [(6, .int (nI i)), (9, .int (tc_ (uw_ B a_ (nI i)) a_ v_)), (8, .int (nI i)), (7, .int ((bs_ (fun j => tc_ (uw_ B a_ (nI j)) a_ v_) (-9) i).2)), (5, .int ((pw_ B) a_)), (4, .int (wSNW_ (sn_ B) (nI a_) (nI v_) q)), (0, .ref (r 0)), (1, .int (nI a_)), (2, .int (nI v_)), (3, .int q)]) hx hb dX5_powderWanted_101 hl (by decide) rfl (fun ls hl => ?_)
                    refine lv_iload hx hb dX5_powderWanted_103 (lv_at hl 1 rfl) ?_
                    refine lv_istore (lv' := [(7, .int (tc_ (uw_ B a_ (nI i)) a_ v_)), (6, .int (nI i)), (9, .int (tc_ (uw_ B a_ (nI i)) a_ v_)), (8, .int (nI i)), (5, .int ((pw_ B) a_)), (4, .int (wSNW_ (sn_ B) (nI a_) (nI v_) q)), (0, .ref (r 0)), (1, .int (nI a_)), (2, .int (nI v_)), (3, .int q)]) hx hb dX5_powderWanted_105 hl (by decide) rfl (fun ls hl => ?_)
                    refine lv_iinc (v := (nI i) + 1) (lv' := [(8, .int ((nI i) + 1)), (7, .int (tc_ (uw_ B a_ (nI i)) a_ v_)), (6, .int (nI i)), (9, .int (tc_ (uw_ B a_ (nI i)) a_ v_)), (5, .int ((pw_ B) a_)), (4, .int (wSNW_ (sn_ B) (nI a_) (nI v_) q)), (0, .ref (r 0)), (1, .int (nI a_)), (2, .int (nI v_)), (3, .int q)]) hx hb dX5_powderWanted_107 hl (k := 3) rfl (by first | rfl | decide) (by decide) rfl (fun ls hl => ?_)
                    refine lv_goto (tgt := 66) hx hb dX5_powderWanted_110 (by decide) ?_
                    exact ih_66 (i + 1) (nI i) (tc_ (uw_ B a_ (nI i)) a_ v_) ((nI i) + 1) (pw_ (uw_ B a_ (nI i))) u_4 (by first | exact bz_o1 (f := (fun j => tc_ (uw_ B a_ (nI j)) a_ v_)) rfl d_93 | exact bz_o2 (f := (fun j => tc_ (uw_ B a_ (nI j)) a_ v_)) rfl d_93) (by first | exact bs_m1 (f := (fun j => tc_ (uw_ B a_ (nI j)) a_ v_)) rfl d_93 | exact bs_m2 (f := (fun j => tc_ (uw_ B a_ (nI j)) a_ v_)) rfl d_93) (by first | rfl | exact nI_1 _) (by omega) (oN_.tr hM (by assumption)) (fun j hj => upd_k j hj) (by omega) _ _ hP (va_D.adr hD0 (mW_adE rfl)) hS ls (lv_sub hl [0, 1, 2, 4, 5, 6, 7, 8, 9] rfl)
                  · have d_93 := Int32.not_lt.mp c_93
                    refine lv_goto (tgt := 107) hx hb dX5_powderWanted_96 (by decide) ?_
                    refine lv_iinc (v := (nI i) + 1) (lv' := [(8, .int ((nI i) + 1)), (9, .int (tc_ (uw_ B a_ (nI i)) a_ v_)), (7, .int ((bs_ (fun j => tc_ (uw_ B a_ (nI j)) a_ v_) (-9) i).2)), (6, .int (bz_ (bs_ (fun j => tc_ (uw_ B a_ (nI j)) a_ v_) (-9) i).1)), (5, .int ((pw_ B) a_)), (4, .int (wSNW_ (sn_ B) (nI a_) (nI v_) q)), (0, .ref (r 0)), (1, .int (nI a_)), (2, .int (nI v_)), (3, .int q)]) hx hb dX5_powderWanted_107 hl (k := 1) rfl (by first | rfl | decide) (by decide) rfl (fun ls hl => ?_)
                    refine lv_goto (tgt := 66) hx hb dX5_powderWanted_110 (by decide) ?_
                    exact ih_66 (i + 1) (bz_ (bs_ (fun j => tc_ (uw_ B a_ (nI j)) a_ v_) (-9) i).1) ((bs_ (fun j => tc_ (uw_ B a_ (nI j)) a_ v_) (-9) i).2) ((nI i) + 1) (pw_ (uw_ B a_ (nI i))) u_4 (by first | exact bz_o1 (f := (fun j => tc_ (uw_ B a_ (nI j)) a_ v_)) rfl d_93 | exact bz_o2 (f := (fun j => tc_ (uw_ B a_ (nI j)) a_ v_)) rfl d_93) (by first | exact bs_m1 (f := (fun j => tc_ (uw_ B a_ (nI j)) a_ v_)) rfl d_93 | exact bs_m2 (f := (fun j => tc_ (uw_ B a_ (nI j)) a_ v_)) rfl d_93) (by first | rfl | exact nI_1 _) (by omega) (oN_.tr hM (by assumption)) (fun j hj => upd_k j hj) (by omega) _ _ hP (va_D.adr hD0 (mW_adE rfl)) hS ls (lv_sub hl [0, 2, 3, 4, 5, 6, 7, 8, 9] rfl)
            exact lp_66 (100 + 1) 0 0 (-9) 0 (pw_ B) M (rfl) (rfl) (by first | rfl | exact nI_0.symm) (by omega) (oN_.rf _) (fun _ _ => rfl) (by omega) _ _ hP (va_D.adr hD0 (mW_adE rfl)) hS ls (lv_sub hl [0, 1, 2, 3, 4, 5, 6, 7, 8] rfl)
          · skip
            refine lv_aload_n hx hb dX5_powderWanted_41 rfl (lv_at hl 1 rfl) ?_
            refine lv_iload hx hb dX5_powderWanted_42 (lv_at hl 0 rfl) ?_
            refine kMiV hx hb hml hown hts hK hP (va_D.adr hD0 (mW_adE rfl)) hA hS gX5_powderWanted_X5_no okX5_no (qX5_no l D cI cB r B M (wSNW_ (sn_ B) a v q) (rc0_n (by first | exact rc0_wS _ _ | exact rc0_wSN _ _ _ | exact rc0_wSNW _ _ _ _ | exact rc0_wNW _ _ | exact rc0_wTh _ _ _ _ _ | exact rc0_wTr _ _ _ _ | exact rc0_nb _ _ | exact rc0_uk _ _ | exact rc0_ob _ _ _ | exact rc0_f2 (rc0_nb _ _) (rc0_nb _ _) | exact rc0_f2 (rc0_nb _ _) (rc0_uk _ _) | exact rc0_f2 (rc0_ob _ _ _) (rc0_uk _ _) | exact rc0_f2 (rc0_uk _ _) (rc0_f2 (rc0_uk _ _) (rc0_ob _ _ _))) c_38)) [0, 1, 2, 3, 4, 5, 6, 7, 8, 9, 10, 11, 12, 13, 14, 15] rfl (by decide) (fun _ => mW_adr _ _ _ _ _ _) rfl rfl rfl (by decide) hl.1 rfl rfl (Nat.le_of_ble_eq_true rfl) dX5_powderWanted_44 (by decide) (fun r_6 u_7 H locs hw_8 hP hD hS => ?_)
            replace hw_8 : r_6 = wSNW_ (sn_ B) a v q ∧ u_7 = (rfm_ M (wSNW_ (sn_ B) a v q)) := hw_8
            obtain ⟨hw_8a, hw_8b⟩ := hw_8
            subst r_6
            subst u_7
            replace hP : va_P D vwCl ([(r 0, .inr (5, [.ref (r 1), .ref (r 2), .ref (r 3), .ref (r 4), .ref (r 5), .ref (r 6), .int (nI (sn_ B)), .int (qt_ B), .int (il_ B), .int (pa_ B), .int (ho_ B), .int (dy_ B), .ref (r 13), .ref (r 14), .ref (r 15), .ref (r 16), .int (nI (mtn_ M)), .int (nI (mrd_ M)), .int (nI (msm_ M)), .ref (r 20), .int (mhi_ M), .int (mik_ M), .int (nI (mcu_ M)), .int (nI (mbk_ M)), .ref (r 25), .ref (r 26), .int (mlw_ M), .int (mhg_ M), .int (msl_ M), .ref (r 30), .int (nI (mrm_ M)), .ref (r 32), .int (mlo_ M)])), (r 1, .inl (cI, 7, .inl (rfx_ (mrf_ M) (wSNW_ (sn_ B) a v q)))), (r 2, .inl (cI, 7, .inl (kd_ B))), (r 3, .inl (cI, 7, .inl (fg_ B))), (r 4, .inl (cI, 7, .inl (pl_ B))), (r 5, .inl (cI, 7, .inl (pw_ B))), (r 6, .inl (cI, 7, .inl (jy_ B))), (r 13, .inl (cI, 96, .inl (mtp_ M))), (r 14, .inl (cI, 48, .inl (mlt_ M))), (r 15, .inl (cI, 48, .inl (mla_ M))), (r 16, .inl (cI, 144, .inl (mtd_ M))), (r 20, .inl (cI, 451, .inl (flatK (mkp_ M)))), (r 25, .inl (cI, 7, .inl (mof_ M))), (r 26, .inl (cI, 7, .inl (mfa_ M))), (r 30, .inl (cI, 12, .inl (mrw_ M))), (r 32, .inl (cI, 8, .inl (mhb_ M)))]) H := (va_P.m [true, true, true, true, true, true, true, true, true, true, true, true, true, true, true, true] [] hP)
            refine rMi hx hb hr hlk hS (rfm_ M (wSNW_ (sn_ B) a v q)) hP ?_ dX5_powderWanted_47
            first | exact ⟨(if_neg c_38).symm, oQ_n _ _⟩ | exact ⟨by (rw [if_pos c_38]; simp only [tn_n (show a_ < 2147483648 by omega), tn_n (show v_ < 2147483648 by omega)]; have e9 : i = 100 := (by omega); subst e9; obtain ⟨t, e1, e2, e3⟩ := bpX_eq (B := B) (k := a_) (n := v_) (by omega); first | (rw [if_pos c_122, e1, e2]; rfl) | (rw [if_neg c_122, e1, e2])), oQ_0 c_38 (by (first | exact (oN_mk (by assumption)).m | exact oM_.rf _ | exact (oN_pp _ _).m | exact (oN_fo _ _ _ _).m | assumption | (apply oN_.m; assumption) | exact oM_.tr (by assumption) (by assumption)))⟩
      refine lv_iload hx hb dX5_powderWanted_18 (lv_at hl 0 rfl) ?_
      refine lv_if_ne (tgt := 36) hx hb dX5_powderWanted_20 (by decide) (fun c_20 => ?_) (fun c_20 => ?_)
      · skip
        exact jn_36  (wSN_ (sn_ B) a v)  (by first | exact (f2_a c_20).symm | exact c_20.trans ((f2_b c_20).trans (uk_i c_29)).symm | exact ((f2_b c_20).trans (uk_o c_29)).symm)   _ _ hP (va_D.adr hD0 (mW_adE rfl)) hS ls (lv_sub hl [0, 1, 2, 3, 4] rfl)
      · skip
        refine lv_iload_n hx hb dX5_powderWanted_23 rfl (lv_at hl 4 rfl) ?_
        refine lv_iconst (v := 0) hx hb dX5_powderWanted_24 (by decide) ?_
        refine lv_iconst (v := 1) hx hb dX5_powderWanted_25 (by decide) ?_
        refine kSiS hx hb hml hown hts hK hP gX5_powderWanted_X5_isIn okX5_isIn (qX5_isIn l D cI cB q 0 1 ) [] rfl (by decide) hl.1 rfl rfl (Nat.le_of_ble_eq_true rfl) dX5_powderWanted_26 (by decide) (fun r_9 hr_10 => ?_)
        replace hr_10 : r_9 = b1 (0 ≤ q ∧ q ≤ 1) := hr_10
        subst r_9
        refine lv_if_ne (tgt := 36) hx hb dX5_powderWanted_29 (by decide) (fun c_29 => ?_) (fun c_29 => ?_)
        · replace c_29 := b1_n c_29
          exact jn_36  (wSN_ (sn_ B) a v)  (by first | exact (f2_a c_20).symm | exact c_20.trans ((f2_b c_20).trans (uk_i c_29)).symm | exact ((f2_b c_20).trans (uk_o c_29)).symm)   _ _ hP (va_D.adr hD0 (mW_adE rfl)) hS ls (lv_sub hl [0, 1, 2, 3, 4] rfl)
        · replace c_29 := b1_z c_29
          refine lv_bipush (v := (-2)) hx hb dX5_powderWanted_32 (by decide) ?_
          refine lv_istore (lv' := [(4, .int (-2)), (0, .ref (r 0)), (1, .int a), (2, .int v), (3, .int q)]) hx hb dX5_powderWanted_34 hl (by decide) rfl (fun ls hl => ?_)
          exact jn_36  (-2)  (by first | exact (f2_a c_20).symm | exact c_20.trans ((f2_b c_20).trans (uk_i c_29)).symm | exact ((f2_b c_20).trans (uk_o c_29)).symm)   _ _ hP (va_D.adr hD0 (mW_adE rfl)) hS ls (lv_sub hl [0, 1, 2, 3, 4] rfl)
  refine lv_aload_n hx hb dX5_powderWanted_0 rfl (lv_at hl 0 rfl) ?_
  refine lv_iload_n hx hb dX5_powderWanted_1 rfl (lv_at hl 1 rfl) ?_
  refine kSiV hx hb hml hown hts hK hP gX5_powderWanted_X5_isShore okX5_isShore (qX5_isShore l D cI cB r B M a (by show sn_ B ≤ 7; omega)) [0, 1, 2, 3, 4, 5, 6, 7, 8, 9, 10, 11, 12, 13, 14, 15] rfl rfl rfl rfl (by decide) hl.1 rfl rfl (Nat.le_of_ble_eq_true rfl) dX5_powderWanted_2 (by decide) (fun r_11 hr_12 => ?_)
  replace hr_12 : r_11 = b1 (0 ≤ a ∧ a < nI (sn_ B)) := hr_12
  subst r_11
  refine lv_if_ne (tgt := 12) hx hb dX5_powderWanted_5 (by decide) (fun c_5 => ?_) (fun c_5 => ?_)
  · replace c_5 := b1_n c_5
    refine lv_iload_n hx hb dX5_powderWanted_12 rfl (lv_at hl 2 rfl) ?_
    refine kSiS hx hb hml hown hts hK hP gX5_powderWanted_X5_notHours okX5_notHours (qX5_notHours l D cI cB v ) [] rfl (by decide) hl.1 rfl rfl (Nat.le_of_ble_eq_true rfl) dX5_powderWanted_13 (by decide) (fun r_13 hr_14 => ?_)
    replace hr_14 : r_13 = ob_ v 0 99 := hr_14
    subst r_13
    refine lv_istore (lv' := [(4, .int (ob_ v 0 99)), (0, .ref (r 0)), (1, .int a), (2, .int v), (3, .int q)]) hx hb dX5_powderWanted_16 hl (by decide) rfl (fun ls hl => ?_)
    exact jn_18  (ob_ v 0 99)  (by first | exact (f2_b (nb_i c_5)).symm | exact ((f2_a (by rw [nb_o c_5]; decide)).trans (nb_o c_5)).symm)   _ _ hP (va_D.adr hD0 (mW_adE rfl)) hS ls (lv_sub hl [0, 1, 2, 3, 4] rfl)
  · replace c_5 := b1_z c_5
    refine lv_iconst (v := (-1)) hx hb dX5_powderWanted_8 (by decide) ?_
    refine lv_goto (tgt := 16) hx hb dX5_powderWanted_9 (by decide) ?_
    refine lv_istore (lv' := [(4, .int (-1)), (0, .ref (r 0)), (1, .int a), (2, .int v), (3, .int q)]) hx hb dX5_powderWanted_16 hl (by decide) rfl (fun ls hl => ?_)
    exact jn_18  (-1)  (by first | exact (f2_b (nb_i c_5)).symm | exact ((f2_a (by rw [nb_o c_5]; decide)).trans (nb_o c_5)).symm)   _ _ hP (va_D.adr hD0 (mW_adE rfl)) hS ls (lv_sub hl [0, 1, 2, 3, 4] rfl)

