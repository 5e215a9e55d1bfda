theorem okX5_drifts : jok yX5_drifts wsX5_drifts cX5_drifts 6 none 2 := ⟨⟨_, rfl⟩, by decide +kernel, by decide +kernel⟩
set_option maxHeartbeats 1000000 in
set_option maxRecDepth 100000 in
theorem qX5_drifts (l : Launch) (D : va_G) (cI cB : ClassId) (r : Nat → Nat) (B : BayT) (M : MT) (k : Nat) (z : Prop) (iz : Decidable z) (h1 : 0 ≤ pl_ B k ∧ pl_ B k ≤ 30) (h2 : 0 ≤ il_ B ∧ il_ B ≤ 30) (h3 : 1 ≤ pa_ B ∧ pa_ B ≤ 5) : jMv D cI cB l yX5_drifts wsX5_drifts 1 [.ref (r 0), .int (pl_ B k), .int (b1 z)] (mW cI r B M) (S := BayT) (fun u => u = ui_ B (if z then aw_ B k else tw_ B k)) (fun u => mW cI r u M) := by
  refine jMv.of (cc := cX5_drifts) (maxL := 6) (ret := none) okX5_drifts (Nat.le_of_ble_eq_true rfl) ?_
  intro p e s m below meth c ls A hx hb hr hts hown hlk hml hP hK hD hA hS hl
  replace hown : s.vm.findClass RX5 = some m.cls := hown
  replace hl : lv_has ls 6 [(0, .ref (r 0)), (1, .int (pl_ B k)), (2, .int (b1 z))] := hl
  have hinX5 : ∀ w ∈ wsX50, w ∈ wsX5_drifts := by decide +kernel
  refine lv_iload_n hx hb dX5_drifts_0 rfl (lv_at hl 1 rfl) ?_
  refine lv_aload_n hx hb dX5_drifts_1 rfl (lv_at hl 0 rfl) ?_
  refine va_get (ci := 5) (C := RX5) (T := TX5) (N := 33) hx hb hts hinX5 hown hK.1 hP 0 rfl rfl 8 (by decide) (hts _ (List.mem_of_getElem? (i := 1) rfl)) (fun _ h9 => h9) rfl dX5_drifts_2 ?_
  refine kSiS hx hb hml hown hts hK hP gX5_drifts_X5_far okX5_far (qX5_far l D cI cB (pl_ B k) (il_ B) ) [] rfl (by decide) hl.1 rfl rfl (Nat.le_of_ble_eq_true rfl) dX5_drifts_5 (by decide) (fun r_1 hr_2 => ?_)
  replace hr_2 : r_1 = fr_ (pl_ B k) (il_ B) := hr_2
  subst r_1
  refine lv_istore_n (lv' := [(3, .int (fr_ (pl_ B k) (il_ B))), (0, .ref (r 0)), (1, .int (pl_ B k)), (2, .int (b1 z))]) hx hb dX5_drifts_8 rfl hl (by decide) rfl (fun ls hl => ?_)
  refine lv_iload_n hx hb dX5_drifts_9 rfl (lv_at hl 3 rfl) ?_
  refine lv_if_eq (tgt := 20) hx hb dX5_drifts_10 (by decide) (fun c_10 => ?_) (fun c_10 => ?_)
  · replace c_10 := b1_z c_10
    refine lv_aload_n hx hb dX5_drifts_20 rfl (lv_at hl 1 rfl) ?_
    refine va_get (ci := 5) (C := RX5) (T := TX5) (N := 33) hx hb hts hinX5 hown hK.1 hP 0 rfl rfl 9 (by decide) (hts _ (List.mem_of_getElem? (i := 2) rfl)) (fun _ h9 => h9) rfl dX5_drifts_21 ?_
    refine lv_iload_n hx hb dX5_drifts_24 rfl (lv_at hl 0 rfl) ?_
    refine lv_icmp_ge (tgt := 35) hx hb dX5_drifts_25 (by decide) (fun c_25 => ?_) (fun c_25 => ?_)
    · have d_25 := Int32.not_lt.mpr c_25
      refine lv_iload_n hx hb dX5_drifts_35 rfl (lv_at hl 0 rfl) ?_
      refine lv_istore (lv' := [(4, .int (fr_ (pl_ B k) (il_ B))), (3, .int (fr_ (pl_ B k) (il_ B))), (0, .ref (r 0)), (1, .int (pl_ B k)), (2, .int (b1 z))]) hx hb dX5_drifts_36 hl (by decide) rfl (fun ls hl => ?_)
      refine lv_iload_n hx hb dX5_drifts_38 rfl (lv_at hl 4 rfl) ?_
      refine lv_if_eq (tgt := 58) hx hb dX5_drifts_39 (by decide) (fun c_39 => ?_) (fun c_39 => ?_)
      · replace c_39 := b1_z c_39
        refine lv_iload_n hx hb dX5_drifts_58 rfl (lv_at hl 3 rfl) ?_
        refine lv_aload_n hx hb dX5_drifts_59 rfl (lv_at hl 2 rfl) ?_
        refine va_get (ci := 5) (C := RX5) (T := TX5) (N := 33) hx hb hts hinX5 hown hK.1 hP 0 rfl rfl 8 (by decide) (hts _ (List.mem_of_getElem? (i := 1) rfl)) (fun _ h9 => h9) rfl dX5_drifts_60 ?_
        refine lv_icmp_le (tgt := 70) hx hb dX5_drifts_63 (by decide) (fun c_63 => ?_) (fun c_63 => ?_)
        · have d_63 := Int32.not_lt.mpr c_63
          refine lv_iconst (v := 0) hx hb dX5_drifts_70 (by decide) ?_
          refine lv_istore (lv' := [(5, .int 0), (4, .int (fr_ (pl_ B k) (il_ B))), (3, .int (fr_ (pl_ B k) (il_ B))), (0, .ref (r 0)), (1, .int (pl_ B k)), (2, .int (b1 z))]) hx hb dX5_drifts_71 hl (by decide) rfl (fun ls hl => ?_)
          refine lv_aload_n hx hb dX5_drifts_73 rfl (lv_at hl 3 rfl) ?_
          refine lv_iload hx hb dX5_drifts_74 (lv_at hl 0 rfl) ?_
          refine lv_if_eq (tgt := 89) hx hb dX5_drifts_76 (by decide) (fun _ => ?_) (fun q => absurd q (by decide))
          refine lv_aload_n hx hb dX5_drifts_89 rfl (lv_at hl 3 rfl) ?_
          refine va_get (ci := 5) (C := RX5) (T := TX5) (N := 33) hx hb hts hinX5 hown hK.1 hP 0 rfl rfl 8 (by decide) (hts _ (List.mem_of_getElem? (i := 1) rfl)) (fun _ h9 => h9) rfl dX5_drifts_90 ?_
          refine lv_iload hx hb dX5_drifts_93 (lv_at hl 1 rfl) ?_
          refine lv_isub hx hb dX5_drifts_95 ?_
          refine lv_iconst (v := 0) hx hb dX5_drifts_96 (by decide) ?_
          refine lv_bipush (v := 30) hx hb dX5_drifts_97 (by decide) ?_
          refine kSiS hx hb hml hown hts hK hP gX5_drifts_X5_held okX5_held (qX5_held l D cI cB ((il_ B) - (fr_ (pl_ B k) (il_ B))) 0 30 ) [] rfl (by decide) hl.1 rfl rfl (Nat.le_of_ble_eq_true rfl) dX5_drifts_99 (by decide) (fun r_3 hr_4 => ?_)
          replace hr_4 : r_3 = he_ ((il_ B) - (fr_ (pl_ B k) (il_ B))) 0 30 := hr_4
          subst r_3
          refine lv_topi (fun y_5 ey_5 => ?_)
          replace ey_5 : y_5 = he_ ((il_ B) - (fr_ (pl_ B k) (il_ B))) 0 30 := ey_5
          refine va_put (ci := 5) (ty := .int) (C := RX5) (T := TX5) (N := 33) hx hb hts hinX5 tyX5 tyX5_ok nmX5 hown hK.1 hP hD hS 0 rfl rfl 8 (by decide) (hts _ (List.mem_of_getElem? (i := 1) rfl)) (fun _ h9 => h9) rfl (by decide +kernel) (rfl) (rfl) (Nat.le_of_ble_eq_true rfl) dX5_drifts_102 (fun H locs hP hD hS => ?_)
          replace hP : va_P D vwCl (mW cI r (mkB (kd_ B) (fg_ B) (pl_ B) (pw_ B) (jy_ B) (qt_ B) (sn_ B) y_5 (pa_ B) (ho_ B) (dy_ B)) M) H := hP
          replace hD : va_D A (mW cI r (mkB (kd_ B) (fg_ B) (pl_ B) (pw_ B) (jy_ B) (qt_ B) (sn_ B) y_5 (pa_ B) (ho_ B) (dy_ B)) M) := hD
          (try rw [ey_5] at hP); (try rw [ey_5] at hD); (try rw [ey_5] at hl); (try rw [ey_5] at c_10); (try rw [ey_5] at c_25); (try rw [ey_5] at d_25); (try rw [ey_5] at c_39); (try rw [ey_5] at c_63); (try rw [ey_5] at d_63); (try rw [ey_5])
          refine rMv hx hb hr hlk hS (mkB (kd_ B) (fg_ B) (pl_ B) (pw_ B) (jy_ B) (qt_ B) (sn_ B) (he_ ((il_ B) - (fr_ (pl_ B k) (il_ B))) 0 30) (pa_ B) (ho_ B) (dy_ B)) hP ?_ dX5_drifts_105
          show (mkB (kd_ B) (fg_ B) (pl_ B) (pw_ B) (jy_ B) (qt_ B) (sn_ B) (he_ ((il_ B) - (fr_ (pl_ B k) (il_ B))) 0 30) (pa_ B) (ho_ B) (dy_ B)) = _
          first | exact absurd c_39 c_10 | exact absurd c_10 c_39 | (refine drift_u ?_; (first | rw [if_pos (by assumption), ← aw_eq h1 h2 h3] | rw [if_neg (by assumption), ← tw_eq h1 h2 h3]); (repeat (first | rw [if_pos (by first | assumption | exact Int32.not_le.mp (by assumption) | exact Int32.not_lt.mp (by assumption) | exact Int32.not_le.mpr (by assumption) | exact Int32.not_lt.mpr (by assumption))] | rw [if_neg (by first | assumption | exact Int32.not_le.mp (by assumption) | exact Int32.not_lt.mp (by assumption) | exact Int32.not_le.mpr (by assumption) | exact Int32.not_lt.mpr (by assumption))])))
        · have d_63 := Int32.not_le.mp c_63
          refine lv_iconst (v := 1) hx hb dX5_drifts_66 (by decide) ?_
          refine lv_goto (tgt := 71) hx hb dX5_drifts_67 (by decide) ?_
          refine lv_istore (lv' := [(5, .int 1), (4, .int (fr_ (pl_ B k) (il_ B))), (3, .int (fr_ (pl_ B k) (il_ B))), (0, .ref (r 0)), (1, .int (pl_ B k)), (2, .int (b1 z))]) hx hb dX5_drifts_71 hl (by decide) rfl (fun ls hl => ?_)
          refine lv_aload_n hx hb dX5_drifts_73 rfl (lv_at hl 3 rfl) ?_
          refine lv_iload hx hb dX5_drifts_74 (lv_at hl 0 rfl) ?_
          refine lv_if_eq (tgt := 89) hx hb dX5_drifts_76 (by decide) (fun q => absurd q (by decide)) (fun _ => ?_)
          refine lv_aload_n hx hb dX5_drifts_79 rfl (lv_at hl 3 rfl) ?_
          refine va_get (ci := 5) (C := RX5) (T := TX5) (N := 33) hx hb hts hinX5 hown hK.1 hP 0 rfl rfl 8 (by decide) (hts _ (List.mem_of_getElem? (i := 1) rfl)) (fun _ h9 => h9) rfl dX5_drifts_80 ?_
          refine lv_iload hx hb dX5_drifts_83 (lv_at hl 1 rfl) ?_
          refine lv_iadd hx hb dX5_drifts_85 ?_
          refine lv_goto (tgt := 96) hx hb dX5_drifts_86 (by decide) ?_
          refine lv_iconst (v := 0) hx hb dX5_drifts_96 (by decide) ?_
          refine lv_bipush (v := 30) hx hb dX5_drifts_97 (by decide) ?_
          refine kSiS hx hb hml hown hts hK hP gX5_drifts_X5_held okX5_held (qX5_held l D cI cB ((il_ B) + (fr_ (pl_ B k) (il_ B))) 0 30 ) [] rfl (by decide) hl.1 rfl rfl (Nat.le_of_ble_eq_true rfl) dX5_drifts_99 (by decide) (fun r_6 hr_7 => ?_)
          replace hr_7 : r_6 = he_ ((il_ B) + (fr_ (pl_ B k) (il_ B))) 0 30 := hr_7
          subst r_6
          refine lv_topi (fun y_8 ey_8 => ?_)
          replace ey_8 : y_8 = he_ ((il_ B) + (fr_ (pl_ B k) (il_ B))) 0 30 := ey_8
          refine va_put (ci := 5) (ty := .int) (C := RX5) (T := TX5) (N := 33) hx hb hts hinX5 tyX5 tyX5_ok nmX5 hown hK.1 hP hD hS 0 rfl rfl 8 (by decide) (hts _ (List.mem_of_getElem? (i := 1) rfl)) (fun _ h9 => h9) rfl (by decide +kernel) (rfl) (rfl) (Nat.le_of_ble_eq_true rfl) dX5_drifts_102 (fun H locs hP hD hS => ?_)
          replace hP : va_P D vwCl (mW cI r (mkB (kd_ B) (fg_ B) (pl_ B) (pw_ B) (jy_ B) (qt_ B) (sn_ B) y_8 (pa_ B) (ho_ B) (dy_ B)) M) H := hP
          replace hD : va_D A (mW cI r (mkB (kd_ B) (fg_ B) (pl_ B) (pw_ B) (jy_ B) (qt_ B) (sn_ B) y_8 (pa_ B) (ho_ B) (dy_ B)) M) := hD
          (try rw [ey_8] at hP); (try rw [ey_8] at hD); (try rw [ey_8] at hl); (try rw [ey_8] at c_10); (try rw [ey_8] at c_25); (try rw [ey_8] at d_25); (try rw [ey_8] at c_39); (try rw [ey_8] at c_63); (try rw [ey_8] at d_63); (try rw [ey_8])
          refine rMv hx hb hr hlk hS (mkB (kd_ B) (fg_ B) (pl_ B) (pw_ B) (jy_ B) (qt_ B) (sn_ B) (he_ ((il_ B) + (fr_ (pl_ B k) (il_ B))) 0 30) (pa_ B) (ho_ B) (dy_ B)) hP ?_ dX5_drifts_105
          show (mkB (kd_ B) (fg_ B) (pl_ B) (pw_ B) (jy_ B) (qt_ B) (sn_ B) (he_ ((il_ B) + (fr_ (pl_ B k) (il_ B))) 0 30) (pa_ B) (ho_ B) (dy_ B)) = _
          first | exact absurd c_39 c_10 | exact absurd c_10 c_39 | (refine drift_u ?_; (first | rw [if_pos (by assumption), ← aw_eq h1 h2 h3] | rw [if_neg (by assumption), ← tw_eq h1 h2 h3]); (repeat (first | rw [if_pos (by first | assumption | exact Int32.not_le.mp (by assumption) | exact Int32.not_lt.mp (by assumption) | exact Int32.not_le.mpr (by assumption) | exact Int32.not_lt.mpr (by assumption))] | rw [if_neg (by first | assumption | exact Int32.not_le.mp (by assumption) | exact Int32.not_lt.mp (by assumption) | exact Int32.not_le.mpr (by assumption) | exact Int32.not_lt.mpr (by assumption))])))
      · replace c_39 := b1_n c_39
        refine lv_iload_n hx hb dX5_drifts_42 rfl (lv_at hl 3 rfl) ?_
        refine lv_aload_n hx hb dX5_drifts_43 rfl (lv_at hl 2 rfl) ?_
        refine va_get (ci := 5) (C := RX5) (T := TX5) (N := 33) hx hb hts hinX5 hown hK.1 hP 0 rfl rfl 8 (by decide) (hts _ (List.mem_of_getElem? (i := 1) rfl)) (fun _ h9 => h9) rfl dX5_drifts_44 ?_
        refine lv_icmp_ge (tgt := 54) hx hb dX5_drifts_47 (by decide) (fun c_47 => ?_) (fun c_47 => ?_)
        · have d_47 := Int32.not_lt.mpr c_47
          refine lv_iconst (v := 0) hx hb dX5_drifts_54 (by decide) ?_
          refine lv_goto (tgt := 71) hx hb dX5_drifts_55 (by decide) ?_
          refine lv_istore (lv' := [(5, .int 0), (4, .int (fr_ (pl_ B k) (il_ B))), (3, .int (fr_ (pl_ B k) (il_ B))), (0, .ref (r 0)), (1, .int (pl_ B k)), (2, .int (b1 z))]) hx hb dX5_drifts_71 hl (by decide) rfl (fun ls hl => ?_)
          refine lv_aload_n hx hb dX5_drifts_73 rfl (lv_at hl 3 rfl) ?_
          refine lv_iload hx hb dX5_drifts_74 (lv_at hl 0 rfl) ?_
          refine lv_if_eq (tgt := 89) hx hb dX5_drifts_76 (by decide) (fun _ => ?_) (fun q => absurd q (by decide))
          refine lv_aload_n hx hb dX5_drifts_89 rfl (lv_at hl 3 rfl) ?_
          refine va_get (ci := 5) (C := RX5) (T := TX5) (N := 33) hx hb hts hinX5 hown hK.1 hP 0 rfl rfl 8 (by decide) (hts _ (List.mem_of_getElem? (i := 1) rfl)) (fun _ h9 => h9) rfl dX5_drifts_90 ?_
          refine lv_iload hx hb dX5_drifts_93 (lv_at hl 1 rfl) ?_
          refine lv_isub hx hb dX5_drifts_95 ?_
          refine lv_iconst (v := 0) hx hb dX5_drifts_96 (by decide) ?_
          refine lv_bipush (v := 30) hx hb dX5_drifts_97 (by decide) ?_
          refine kSiS hx hb hml hown hts hK hP gX5_drifts_X5_held okX5_held (qX5_held l D cI cB ((il_ B) - (fr_ (pl_ B k) (il_ B))) 0 30 ) [] rfl (by decide) hl.1 rfl rfl (Nat.le_of_ble_eq_true rfl) dX5_drifts_99 (by decide) (fun r_9 hr_10 => ?_)
          replace hr_10 : r_9 = he_ ((il_ B) - (fr_ (pl_ B k) (il_ B))) 0 30 := hr_10
          subst r_9
          refine lv_topi (fun y_11 ey_11 => ?_)
          replace ey_11 : y_11 = he_ ((il_ B) - (fr_ (pl_ B k) (il_ B))) 0 30 := ey_11
          refine va_put (ci := 5) (ty := .int) (C := RX5) (T := TX5) (N := 33) hx hb hts hinX5 tyX5 tyX5_ok nmX5 hown hK.1 hP hD hS 0 rfl rfl 8 (by decide) (hts _ (List.mem_of_getElem? (i := 1) rfl)) (fun _ h9 => h9) rfl (by decide +kernel) (rfl) (rfl) (Nat.le_of_ble_eq_true rfl) dX5_drifts_102 (fun H locs hP hD hS => ?_)
          replace hP : va_P D vwCl (mW cI r (mkB (kd_ B) (fg_ B) (pl_ B) (pw_ B) (jy_ B) (qt_ B) (sn_ B) y_11 (pa_ B) (ho_ B) (dy_ B)) M) H := hP
          replace hD : va_D A (mW cI r (mkB (kd_ B) (fg_ B) (pl_ B) (pw_ B) (jy_ B) (qt_ B) (sn_ B) y_11 (pa_ B) (ho_ B) (dy_ B)) M) := hD
          (try rw [ey_11] at hP); (try rw [ey_11] at hD); (try rw [ey_11] at hl); (try rw [ey_11] at c_10); (try rw [ey_11] at c_25); (try rw [ey_11] at d_25); (try rw [ey_11] at c_39); (try rw [ey_11] at c_47); (try rw [ey_11] at d_47); (try rw [ey_11])
          refine rMv hx hb hr hlk hS (mkB (kd_ B) (fg_ B) (pl_ B) (pw_ B) (jy_ B) (qt_ B) (sn_ B) (he_ ((il_ B) - (fr_ (pl_ B k) (il_ B))) 0 30) (pa_ B) (ho_ B) (dy_ B)) hP ?_ dX5_drifts_105
          show (mkB (kd_ B) (fg_ B) (pl_ B) (pw_ B) (jy_ B) (qt_ B) (sn_ B) (he_ ((il_ B) - (fr_ (pl_ B k) (il_ B))) 0 30) (pa_ B) (ho_ B) (dy_ B)) = _
          first | exact absurd c_39 c_10 | exact absurd c_10 c_39 | (refine drift_u ?_; (first | rw [if_pos (by assumption), ← aw_eq h1 h2 h3] | rw [if_neg (by assumption), ← tw_eq h1 h2 h3]); (repeat (first | rw [if_pos (by first | assumption | exact Int32.not_le.mp (by assumption) | exact Int32.not_lt.mp (by assumption) | exact Int32.not_le.mpr (by assumption) | exact Int32.not_lt.mpr (by assumption))] | rw [if_neg (by first | assumption | exact Int32.not_le.mp (by assumption) | exact Int32.not_lt.mp (by assumption) | exact Int32.not_le.mpr (by assumption) | exact Int32.not_lt.mpr (by assumption))])))
        · have d_47 := Int32.not_le.mp c_47
          refine lv_iconst (v := 1) hx hb dX5_drifts_50 (by decide) ?_
          refine lv_goto (tgt := 71) hx hb dX5_drifts_51 (by decide) ?_
          refine lv_istore (lv' := [(5, .int 1), (4, .int (fr_ (pl_ B k) (il_ B))), (3, .int (fr_ (pl_ B k) (il_ B))), (0, .ref (r 0)), (1, .int (pl_ B k)), (2, .int (b1 z))]) hx hb dX5_drifts_71 hl (by decide) rfl (fun ls hl => ?_)
          refine lv_aload_n hx hb dX5_drifts_73 rfl (lv_at hl 3 rfl) ?_
          refine lv_iload hx hb dX5_drifts_74 (lv_at hl 0 rfl) ?_
          refine lv_if_eq (tgt := 89) hx hb dX5_drifts_76 (by decide) (fun q => absurd q (by decide)) (fun _ => ?_)
          refine lv_aload_n hx hb dX5_drifts_79 rfl (lv_at hl 3 rfl) ?_
          refine va_get (ci := 5) (C := RX5) (T := TX5) (N := 33) hx hb hts hinX5 hown hK.1 hP 0 rfl rfl 8 (by decide) (hts _ (List.mem_of_getElem? (i := 1) rfl)) (fun _ h9 => h9) rfl dX5_drifts_80 ?_
          refine lv_iload hx hb dX5_drifts_83 (lv_at hl 1 rfl) ?_
          refine lv_iadd hx hb dX5_drifts_85 ?_
          refine lv_goto (tgt := 96) hx hb dX5_drifts_86 (by decide) ?_
          refine lv_iconst (v := 0) hx hb dX5_drifts_96 (by decide) ?_
          refine lv_bipush (v := 30) hx hb dX5_drifts_97 (by decide) ?_
          refine kSiS hx hb hml hown hts hK hP gX5_drifts_X5_held okX5_held (qX5_held l D cI cB ((il_ B) + (fr_ (pl_ B k) (il_ B))) 0 30 ) [] rfl (by decide) hl.1 rfl rfl (Nat.le_of_ble_eq_true rfl) dX5_drifts_99 (by decide) (fun r_12 hr_13 => ?_)
          replace hr_13 : r_12 = he_ ((il_ B) + (fr_ (pl_ B k) (il_ B))) 0 30 := hr_13
          subst r_12
          refine lv_topi (fun y_14 ey_14 => ?_)
          replace ey_14 : y_14 = he_ ((il_ B) + (fr_ (pl_ B k) (il_ B))) 0 30 := ey_14
          refine va_put (ci := 5) (ty := .int) (C := RX5) (T := TX5) (N := 33) hx hb hts hinX5 tyX5 tyX5_ok nmX5 hown hK.1 hP hD hS 0 rfl rfl 8 (by decide) (hts _ (List.mem_of_getElem? (i := 1) rfl)) (fun _ h9 => h9) rfl (by decide +kernel) (rfl) (rfl) (Nat.le_of_ble_eq_true rfl) dX5_drifts_102 (fun H locs hP hD hS => ?_)
          replace hP : va_P D vwCl (mW cI r (mkB (kd_ B) (fg_ B) (pl_ B) (pw_ B) (jy_ B) (qt_ B) (sn_ B) y_14 (pa_ B) (ho_ B) (dy_ B)) M) H := hP
          replace hD : va_D A (mW cI r (mkB (kd_ B) (fg_ B) (pl_ B) (pw_ B) (jy_ B) (qt_ B) (sn_ B) y_14 (pa_ B) (ho_ B) (dy_ B)) M) := hD
          (try rw [ey_14] at hP); (try rw [ey_14] at hD); (try rw [ey_14] at hl); (try rw [ey_14] at c_10); (try rw [ey_14] at c_25); (try rw [ey_14] at d_25); (try rw [ey_14] at c_39); (try rw [ey_14] at c_47); (try rw [ey_14] at d_47); (try rw [ey_14])
          refine rMv hx hb hr hlk hS (mkB (kd_ B) (fg_ B) (pl_ B) (pw_ B) (jy_ B) (qt_ B) (sn_ B) (he_ ((il_ B) + (fr_ (pl_ B k) (il_ B))) 0 30) (pa_ B) (ho_ B) (dy_ B)) hP ?_ dX5_drifts_105
          show (mkB (kd_ B) (fg_ B) (pl_ B) (pw_ B) (jy_ B) (qt_ B) (sn_ B) (he_ ((il_ B) + (fr_ (pl_ B k) (il_ B))) 0 30) (pa_ B) (ho_ B) (dy_ B)) = _
          first | exact absurd c_39 c_10 | exact absurd c_10 c_39 | (refine drift_u ?_; (first | rw [if_pos (by assumption), ← aw_eq h1 h2 h3] | rw [if_neg (by assumption), ← tw_eq h1 h2 h3]); (repeat (first | rw [if_pos (by first | assumption | exact Int32.not_le.mp (by assumption) | exact Int32.not_lt.mp (by assumption) | exact Int32.not_le.mpr (by assumption) | exact Int32.not_lt.mpr (by assumption))] | rw [if_neg (by first | assumption | exact Int32.not_le.mp (by assumption) | exact Int32.not_lt.mp (by assumption) | exact Int32.not_le.mpr (by assumption) | exact Int32.not_lt.mpr (by assumption))])))
    · have d_25 := Int32.not_le.mp c_25
      refine lv_aload_n hx hb dX5_drifts_28 rfl (lv_at hl 1 rfl) ?_
      refine va_get (ci := 5) (C := RX5) (T := TX5) (N := 33) hx hb hts hinX5 hown hK.1 hP 0 rfl rfl 9 (by decide) (hts _ (List.mem_of_getElem? (i := 2) rfl)) (fun _ h9 => h9) rfl dX5_drifts_29 ?_
      refine lv_goto (tgt := 36) hx hb dX5_drifts_32 (by decide) ?_
      refine lv_istore (lv' := [(4, .int (pa_ B)), (3, .int (fr_ (pl_ B k) (il_ B))), (0, .ref (r 0)), (1, .int (pl_ B k)), (2, .int (b1 z))]) hx hb dX5_drifts_36 hl (by decide) rfl (fun ls hl => ?_)
      refine lv_iload_n hx hb dX5_drifts_38 rfl (lv_at hl 4 rfl) ?_
      refine lv_if_eq (tgt := 58) hx hb dX5_drifts_39 (by decide) (fun c_39 => ?_) (fun c_39 => ?_)
      · replace c_39 := b1_z c_39
        refine lv_iload_n hx hb dX5_drifts_58 rfl (lv_at hl 3 rfl) ?_
        refine lv_aload_n hx hb dX5_drifts_59 rfl (lv_at hl 2 rfl) ?_
        refine va_get (ci := 5) (C := RX5) (T := TX5) (N := 33) hx hb hts hinX5 hown hK.1 hP 0 rfl rfl 8 (by decide) (hts _ (List.mem_of_getElem? (i := 1) rfl)) (fun _ h9 => h9) rfl dX5_drifts_60 ?_
        refine lv_icmp_le (tgt := 70) hx hb dX5_drifts_63 (by decide) (fun c_63 => ?_) (fun c_63 => ?_)
        · have d_63 := Int32.not_lt.mpr c_63
          refine lv_iconst (v := 0) hx hb dX5_drifts_70 (by decide) ?_
          refine lv_istore (lv' := [(5, .int 0), (4, .int (pa_ B)), (3, .int (fr_ (pl_ B k) (il_ B))), (0, .ref (r 0)), (1, .int (pl_ B k)), (2, .int (b1 z))]) hx hb dX5_drifts_71 hl (by decide) rfl (fun ls hl => ?_)
          refine lv_aload_n hx hb dX5_drifts_73 rfl (lv_at hl 3 rfl) ?_
          refine lv_iload hx hb dX5_drifts_74 (lv_at hl 0 rfl) ?_
          refine lv_if_eq (tgt := 89) hx hb dX5_drifts_76 (by decide) (fun _ => ?_) (fun q => absurd q (by decide))
          refine lv_aload_n hx hb dX5_drifts_89 rfl (lv_at hl 3 rfl) ?_
          refine va_get (ci := 5) (C := RX5) (T := TX5) (N := 33) hx hb hts hinX5 hown hK.1 hP 0 rfl rfl 8 (by decide) (hts _ (List.mem_of_getElem? (i := 1) rfl)) (fun _ h9 => h9) rfl dX5_drifts_90 ?_
          refine lv_iload hx hb dX5_drifts_93 (lv_at hl 1 rfl) ?_
          refine lv_isub hx hb dX5_drifts_95 ?_
          refine lv_iconst (v := 0) hx hb dX5_drifts_96 (by decide) ?_
          refine lv_bipush (v := 30) hx hb dX5_drifts_97 (by decide) ?_
          refine kSiS hx hb hml hown hts hK hP gX5_drifts_X5_held okX5_held (qX5_held l D cI cB ((il_ B) - (pa_ B)) 0 30 ) [] rfl (by decide) hl.1 rfl rfl (Nat.le_of_ble_eq_true rfl) dX5_drifts_99 (by decide) (fun r_15 hr_16 => ?_)
          replace hr_16 : r_15 = he_ ((il_ B) - (pa_ B)) 0 30 := hr_16
          subst r_15
          refine lv_topi (fun y_17 ey_17 => ?_)
          replace ey_17 : y_17 = he_ ((il_ B) - (pa_ B)) 0 30 := ey_17
          refine va_put (ci := 5) (ty := .int) (C := RX5) (T := TX5) (N := 33) hx hb hts hinX5 tyX5 tyX5_ok nmX5 hown hK.1 hP hD hS 0 rfl rfl 8 (by decide) (hts _ (List.mem_of_getElem? (i := 1) rfl)) (fun _ h9 => h9) rfl (by decide +kernel) (rfl) (rfl) (Nat.le_of_ble_eq_true rfl) dX5_drifts_102 (fun H locs hP hD hS => ?_)
          replace hP : va_P D vwCl (mW cI r (mkB (kd_ B) (fg_ B) (pl_ B) (pw_ B) (jy_ B) (qt_ B) (sn_ B) y_17 (pa_ B) (ho_ B) (dy_ B)) M) H := hP
          replace hD : va_D A (mW cI r (mkB (kd_ B) (fg_ B) (pl_ B) (pw_ B) (jy_ B) (qt_ B) (sn_ B) y_17 (pa_ B) (ho_ B) (dy_ B)) M) := hD
          (try rw [ey_17] at hP); (try rw [ey_17] at hD); (try rw [ey_17] at hl); (try rw [ey_17] at c_10); (try rw [ey_17] at c_25); (try rw [ey_17] at d_25); (try rw [ey_17] at c_39); (try rw [ey_17] at c_63); (try rw [ey_17] at d_63); (try rw [ey_17])
          refine rMv hx hb hr hlk hS (mkB (kd_ B) (fg_ B) (pl_ B) (pw_ B) (jy_ B) (qt_ B) (sn_ B) (he_ ((il_ B) - (pa_ B)) 0 30) (pa_ B) (ho_ B) (dy_ B)) hP ?_ dX5_drifts_105
          show (mkB (kd_ B) (fg_ B) (pl_ B) (pw_ B) (jy_ B) (qt_ B) (sn_ B) (he_ ((il_ B) - (pa_ B)) 0 30) (pa_ B) (ho_ B) (dy_ B)) = _
          first | exact absurd c_39 c_10 | exact absurd c_10 c_39 | (refine drift_u ?_; (first | rw [if_pos (by assumption), ← aw_eq h1 h2 h3] | rw [if_neg (by assumption), ← tw_eq h1 h2 h3]); (repeat (first | rw [if_pos (by first | assumption | exact Int32.not_le.mp (by assumption) | exact Int32.not_lt.mp (by assumption) | exact Int32.not_le.mpr (by assumption) | exact Int32.not_lt.mpr (by assumption))] | rw [if_neg (by first | assumption | exact Int32.not_le.mp (by assumption) | exact Int32.not_lt.mp (by assumption) | exact Int32.not_le.mpr (by assumption) | exact Int32.not_lt.mpr (by assumption))])))
        · have d_63 := Int32.not_le.mp c_63
          refine lv_iconst (v := 1) hx hb dX5_drifts_66 (by decide) ?_
          refine lv_goto (tgt := 71) hx hb dX5_drifts_67 (by decide) ?_
          refine lv_istore (lv' := [(5, .int 1), (4, .int (pa_ B)), (3, .int (fr_ (pl_ B k) (il_ B))), (0, .ref (r 0)), (1, .int (pl_ B k)), (2, .int (b1 z))]) hx hb dX5_drifts_71 hl (by decide) rfl (fun ls hl => ?_)
          refine lv_aload_n hx hb dX5_drifts_73 rfl (lv_at hl 3 rfl) ?_
          refine lv_iload hx hb dX5_drifts_74 (lv_at hl 0 rfl) ?_
          refine lv_if_eq (tgt := 89) hx hb dX5_drifts_76 (by decide) (fun q => absurd q (by decide)) (fun _ => ?_)
          refine lv_aload_n hx hb dX5_drifts_79 rfl (lv_at hl 3 rfl) ?_
          refine va_get (ci := 5) (C := RX5) (T := TX5) (N := 33) hx hb hts hinX5 hown hK.1 hP 0 rfl rfl 8 (by decide) (hts _ (List.mem_of_getElem? (i := 1) rfl)) (fun _ h9 => h9) rfl dX5_drifts_80 ?_
          refine lv_iload hx hb dX5_drifts_83 (lv_at hl 1 rfl) ?_
          refine lv_iadd hx hb dX5_drifts_85 ?_
          refine lv_goto (tgt := 96) hx hb dX5_drifts_86 (by decide) ?_
          refine lv_iconst (v := 0) hx hb dX5_drifts_96 (by decide) ?_
          refine lv_bipush (v := 30) hx hb dX5_drifts_97 (by decide) ?_
          refine kSiS hx hb hml hown hts hK hP gX5_drifts_X5_held okX5_held (qX5_held l D cI cB ((il_ B) + (pa_ B)) 0 30 ) [] rfl (by decide) hl.1 rfl rfl (Nat.le_of_ble_eq_true rfl) dX5_drifts_99 (by decide) (fun r_18 hr_19 => ?_)
          replace hr_19 : r_18 = he_ ((il_ B) + (pa_ B)) 0 30 := hr_19
          subst r_18
          refine lv_topi (fun y_20 ey_20 => ?_)
          replace ey_20 : y_20 = he_ ((il_ B) + (pa_ B)) 0 30 := ey_20
          refine va_put (ci := 5) (ty := .int) (C := RX5) (T := TX5) (N := 33) hx hb hts hinX5 tyX5 tyX5_ok nmX5 hown hK.1 hP hD hS 0 rfl rfl 8 (by decide) (hts _ (List.mem_of_getElem? (i := 1) rfl)) (fun _ h9 => h9) rfl (by decide +kernel) (rfl) (rfl) (Nat.le_of_ble_eq_true rfl) dX5_drifts_102 (fun H locs hP hD hS => ?_)
          replace hP : va_P D vwCl (mW cI r (mkB (kd_ B) (fg_ B) (pl_ B) (pw_ B) (jy_ B) (qt_ B) (sn_ B) y_20 (pa_ B) (ho_ B) (dy_ B)) M) H := hP
          replace hD : va_D A (mW cI r (mkB (kd_ B) (fg_ B) (pl_ B) (pw_ B) (jy_ B) (qt_ B) (sn_ B) y_20 (pa_ B) (ho_ B) (dy_ B)) M) := hD
          (try rw [ey_20] at hP); (try rw [ey_20] at hD); (try rw [ey_20] at hl); (try rw [ey_20] at c_10); (try rw [ey_20] at c_25); (try rw [ey_20] at d_25); (try rw [ey_20] at c_39); (try rw [ey_20] at c_63); (try rw [ey_20] at d_63); (try rw [ey_20])
          refine rMv hx hb hr hlk hS (mkB (kd_ B) (fg_ B) (pl_ B) (pw_ B) (jy_ B) (qt_ B) (sn_ B) (he_ ((il_ B) + (pa_ B)) 0 30) (pa_ B) (ho_ B) (dy_ B)) hP ?_ dX5_drifts_105
          show (mkB (kd_ B) (fg_ B) (pl_ B) (pw_ B) (jy_ B) (qt_ B) (sn_ B) (he_ ((il_ B) + (pa_ B)) 0 30) (pa_ B) (ho_ B) (dy_ B)) = _
          first | exact absurd c_39 c_10 | exact absurd c_10 c_39 | (refine drift_u ?_; (first | rw [if_pos (by assumption), ← aw_eq h1 h2 h3] | rw [if_neg (by assumption), ← tw_eq h1 h2 h3]); (repeat (first | rw [if_pos (by first | assumption | exact Int32.not_le.mp (by assumption) | exact Int32.not_lt.mp (by assumption) | exact Int32.not_le.mpr (by assumption) | exact Int32.not_lt.mpr (by assumption))] | rw [if_neg (by first | assumption | exact Int32.not_le.mp (by assumption) | exact Int32.not_lt.mp (by assumption) | exact Int32.not_le.mpr (by assumption) | exact Int32.not_lt.mpr (by assumption))])))
      · replace c_39 := b1_n c_39
        refine lv_iload_n hx hb dX5_drifts_42 rfl (lv_at hl 3 rfl) ?_
        refine lv_aload_n hx hb dX5_drifts_43 rfl (lv_at hl 2 rfl) ?_
        refine va_get (ci := 5) (C := RX5) (T := TX5) (N := 33) hx hb hts hinX5 hown hK.1 hP 0 rfl rfl 8 (by decide) (hts _ (List.mem_of_getElem? (i := 1) rfl)) (fun _ h9 => h9) rfl dX5_drifts_44 ?_
        refine lv_icmp_ge (tgt := 54) hx hb dX5_drifts_47 (by decide) (fun c_47 => ?_) (fun c_47 => ?_)
        · have d_47 := Int32.not_lt.mpr c_47
          refine lv_iconst (v := 0) hx hb dX5_drifts_54 (by decide) ?_
          refine lv_goto (tgt := 71) hx hb dX5_drifts_55 (by decide) ?_
          refine lv_istore (lv' := [(5, .int 0), (4, .int (pa_ B)), (3, .int (fr_ (pl_ B k) (il_ B))), (0, .ref (r 0)), (1, .int (pl_ B k)), (2, .int (b1 z))]) hx hb dX5_drifts_71 hl (by decide) rfl (fun ls hl => ?_)
          refine lv_aload_n hx hb dX5_drifts_73 rfl (lv_at hl 3 rfl) ?_
          refine lv_iload hx hb dX5_drifts_74 (lv_at hl 0 rfl) ?_
          refine lv_if_eq (tgt := 89) hx hb dX5_drifts_76 (by decide) (fun _ => ?_) (fun q => absurd q (by decide))
          refine lv_aload_n hx hb dX5_drifts_89 rfl (lv_at hl 3 rfl) ?_
          refine va_get (ci := 5) (C := RX5) (T := TX5) (N := 33) hx hb hts hinX5 hown hK.1 hP 0 rfl rfl 8 (by decide) (hts _ (List.mem_of_getElem? (i := 1) rfl)) (fun _ h9 => h9) rfl dX5_drifts_90 ?_
          refine lv_iload hx hb dX5_drifts_93 (lv_at hl 1 rfl) ?_
          refine lv_isub hx hb dX5_drifts_95 ?_
          refine lv_iconst (v := 0) hx hb dX5_drifts_96 (by decide) ?_
          refine lv_bipush (v := 30) hx hb dX5_drifts_97 (by decide) ?_
          refine kSiS hx hb hml hown hts hK hP gX5_drifts_X5_held okX5_held (qX5_held l D cI cB ((il_ B) - (pa_ B)) 0 30 ) [] rfl (by decide) hl.1 rfl rfl (Nat.le_of_ble_eq_true rfl) dX5_drifts_99 (by decide) (fun r_21 hr_22 => ?_)
          replace hr_22 : r_21 = he_ ((il_ B) - (pa_ B)) 0 30 := hr_22
          subst r_21
          refine lv_topi (fun y_23 ey_23 => ?_)
          replace ey_23 : y_23 = he_ ((il_ B) - (pa_ B)) 0 30 := ey_23
          refine va_put (ci := 5) (ty := .int) (C := RX5) (T := TX5) (N := 33) hx hb hts hinX5 tyX5 tyX5_ok nmX5 hown hK.1 hP hD hS 0 rfl rfl 8 (by decide) (hts _ (List.mem_of_getElem? (i := 1) rfl)) (fun _ h9 => h9) rfl (by decide +kernel) (rfl) (rfl) (Nat.le_of_ble_eq_true rfl) dX5_drifts_102 (fun H locs hP hD hS => ?_)
          replace hP : va_P D vwCl (mW cI r (mkB (kd_ B) (fg_ B) (pl_ B) (pw_ B) (jy_ B) (qt_ B) (sn_ B) y_23 (pa_ B) (ho_ B) (dy_ B)) M) H := hP
          replace hD : va_D A (mW cI r (mkB (kd_ B) (fg_ B) (pl_ B) (pw_ B) (jy_ B) (qt_ B) (sn_ B) y_23 (pa_ B) (ho_ B) (dy_ B)) M) := hD
          (try rw [ey_23] at hP); (try rw [ey_23] at hD); (try rw [ey_23] at hl); (try rw [ey_23] at c_10); (try rw [ey_23] at c_25); (try rw [ey_23] at d_25); (try rw [ey_23] at c_39); (try rw [ey_23] at c_47); (try rw [ey_23] at d_47); (try rw [ey_23])
          refine rMv hx hb hr hlk hS (mkB (kd_ B) (fg_ B) (pl_ B) (pw_ B) (jy_ B) (qt_ B) (sn_ B) (he_ ((il_ B) - (pa_ B)) 0 30) (pa_ B) (ho_ B) (dy_ B)) hP ?_ dX5_drifts_105
          show (mkB (kd_ B) (fg_ B) (pl_ B) (pw_ B) (jy_ B) (qt_ B) (sn_ B) (he_ ((il_ B) - (pa_ B)) 0 30) (pa_ B) (ho_ B) (dy_ B)) = _
          first | exact absurd c_39 c_10 | exact absurd c_10 c_39 | (refine drift_u ?_; (first | rw [if_pos (by assumption), ← aw_eq h1 h2 h3] | rw [if_neg (by assumption), ← tw_eq h1 h2 h3]); (repeat (first | rw [if_pos (by first | assumption | exact Int32.not_le.mp (by assumption) | exact Int32.not_lt.mp (by assumption) | exact Int32.not_le.mpr (by assumption) | exact Int32.not_lt.mpr (by assumption))] | rw [if_neg (by first | assumption | exact Int32.not_le.mp (by assumption) | exact Int32.not_lt.mp (by assumption) | exact Int32.not_le.mpr (by assumption) | exact Int32.not_lt.mpr (by assumption))])))
        · have d_47 := Int32.not_le.mp c_47
          refine lv_iconst (v := 1) hx hb dX5_drifts_50 (by decide) ?_
          refine lv_goto (tgt := 71) hx hb dX5_drifts_51 (by decide) ?_
          refine lv_istore (lv' := [(5, .int 1), (4, .int (pa_ B)), (3, .int (fr_ (pl_ B k) (il_ B))), (0, .ref (r 0)), (1, .int (pl_ B k)), (2, .int (b1 z))]) hx hb dX5_drifts_71 hl (by decide) rfl (fun ls hl => ?_)
          refine lv_aload_n hx hb dX5_drifts_73 rfl (lv_at hl 3 rfl) ?_
          refine lv_iload hx hb dX5_drifts_74 (lv_at hl 0 rfl) ?_
          refine lv_if_eq (tgt := 89) hx hb dX5_drifts_76 (by decide) (fun q => absurd q (by decide)) (fun _ => ?_)
          refine lv_aload_n hx hb dX5_drifts_79 rfl (lv_at hl 3 rfl) ?_
          refine va_get (ci := 5) (C := RX5) (T := TX5) (N := 33) hx hb hts hinX5 hown hK.1 hP 0 rfl rfl 8 (by decide) (hts _ (List.mem_of_getElem? (i := 1) rfl)) (fun _ h9 => h9) rfl dX5_drifts_80 ?_
          refine lv_iload hx hb dX5_drifts_83 (lv_at hl 1 rfl) ?_
          refine lv_iadd hx hb dX5_drifts_85 ?_
          refine lv_goto (tgt := 96) hx hb dX5_drifts_86 (by decide) ?_
          refine lv_iconst (v := 0) hx hb dX5_drifts_96 (by decide) ?_
          refine lv_bipush (v := 30) hx hb dX5_drifts_97 (by decide) ?_
          refine kSiS hx hb hml hown hts hK hP gX5_drifts_X5_held okX5_held (qX5_held l D cI cB ((il_ B) + (pa_ B)) 0 30 ) [] rfl (by decide) hl.1 rfl rfl (Nat.le_of_ble_eq_true rfl) dX5_drifts_99 (by decide) (fun r_24 hr_25 => ?_)
          replace hr_25 : r_24 = he_ ((il_ B) + (pa_ B)) 0 30 := hr_25
          subst r_24
          refine lv_topi (fun y_26 ey_26 => ?_)
          replace ey_26 : y_26 = he_ ((il_ B) + (pa_ B)) 0 30 := ey_26
          refine va_put (ci := 5) (ty := .int) (C := RX5) (T := TX5) (N := 33) hx hb hts hinX5 tyX5 tyX5_ok nmX5 hown hK.1 hP hD hS 0 rfl rfl 8 (by decide) (hts _ (List.mem_of_getElem? (i := 1) rfl)) (fun _ h9 => h9) rfl (by decide +kernel) (rfl) (rfl) (Nat.le_of_ble_eq_true rfl) dX5_drifts_102 (fun H locs hP hD hS => ?_)
          replace hP : va_P D vwCl (mW cI r (mkB (kd_ B) (fg_ B) (pl_ B) (pw_ B) (jy_ B) (qt_ B) (sn_ B) y_26 (pa_ B) (ho_ B) (dy_ B)) M) H := hP
          replace hD : va_D A (mW cI r (mkB (kd_ B) (fg_ B) (pl_ B) (pw_ B) (jy_ B) (qt_ B) (sn_ B) y_26 (pa_ B) (ho_ B) (dy_ B)) M) := hD
          (try rw [ey_26] at hP); (try rw [ey_26] at hD); (try rw [ey_26] at hl); (try rw [ey_26] at c_10); (try rw [ey_26] at c_25); (try rw [ey_26] at d_25); (try rw [ey_26] at c_39); (try rw [ey_26] at c_47); (try rw [ey_26] at d_47); (try rw [ey_26])
          refine rMv hx hb hr hlk hS (mkB (kd_ B) (fg_ B) (pl_ B) (pw_ B) (jy_ B) (qt_ B) (sn_ B) (he_ ((il_ B) + (pa_ B)) 0 30) (pa_ B) (ho_ B) (dy_ B)) hP ?_ dX5_drifts_105
          show (mkB (kd_ B) (fg_ B) (pl_ B) (pw_ B) (jy_ B) (qt_ B) (sn_ B) (he_ ((il_ B) + (pa_ B)) 0 30) (pa_ B) (ho_ B) (dy_ B)) = _
          first | exact absurd c_39 c_10 | exact absurd c_10 c_39 | (refine drift_u ?_; (first | rw [if_pos (by assumption), ← aw_eq h1 h2 h3] | rw [if_neg (by assumption), ← tw_eq h1 h2 h3]); (repeat (first | rw [if_pos (by first | assumption | exact Int32.not_le.mp (by assumption) | exact Int32.not_lt.mp (by assumption) | exact Int32.not_le.mpr (by assumption) | exact Int32.not_lt.mpr (by assumption))] | rw [if_neg (by first | assumption | exact Int32.not_le.mp (by assumption) | exact Int32.not_lt.mp (by assumption) | exact Int32.not_le.mpr (by assumption) | exact Int32.not_lt.mpr (by assumption))])))
  · replace c_10 := b1_n c_10
    refine lv_aload_n hx hb dX5_drifts_13 rfl (lv_at hl 1 rfl) ?_
    refine va_get (ci := 5) (C := RX5) (T := TX5) (N := 33) hx hb hts hinX5 hown hK.1 hP 0 rfl rfl 9 (by decide) (hts _ (List.mem_of_getElem? (i := 2) rfl)) (fun _ h9 => h9) rfl dX5_drifts_14 ?_
    refine lv_goto (tgt := 36) hx hb dX5_drifts_17 (by decide) ?_
    refine lv_istore (lv' := [(4, .int (pa_ B)), (3, .int (fr_ (pl_ B k) (il_ B))), (0, .ref (r 0)), (1, .int (pl_ B k)), (2, .int (b1 z))]) hx hb dX5_drifts_36 hl (by decide) rfl (fun ls hl => ?_)
    refine lv_iload_n hx hb dX5_drifts_38 rfl (lv_at hl 4 rfl) ?_
    refine lv_if_eq (tgt := 58) hx hb dX5_drifts_39 (by decide) (fun c_39 => ?_) (fun c_39 => ?_)
    · replace c_39 := b1_z c_39
      refine lv_iload_n hx hb dX5_drifts_58 rfl (lv_at hl 3 rfl) ?_
      refine lv_aload_n hx hb dX5_drifts_59 rfl (lv_at hl 2 rfl) ?_
      refine va_get (ci := 5) (C := RX5) (T := TX5) (N := 33) hx hb hts hinX5 hown hK.1 hP 0 rfl rfl 8 (by decide) (hts _ (List.mem_of_getElem? (i := 1) rfl)) (fun _ h9 => h9) rfl dX5_drifts_60 ?_
      refine lv_icmp_le (tgt := 70) hx hb dX5_drifts_63 (by decide) (fun c_63 => ?_) (fun c_63 => ?_)
      · have d_63 := Int32.not_lt.mpr c_63
        refine lv_iconst (v := 0) hx hb dX5_drifts_70 (by decide) ?_
        refine lv_istore (lv' := [(5, .int 0), (4, .int (pa_ B)), (3, .int (fr_ (pl_ B k) (il_ B))), (0, .ref (r 0)), (1, .int (pl_ B k)), (2, .int (b1 z))]) hx hb dX5_drifts_71 hl (by decide) rfl (fun ls hl => ?_)
        refine lv_aload_n hx hb dX5_drifts_73 rfl (lv_at hl 3 rfl) ?_
        refine lv_iload hx hb dX5_drifts_74 (lv_at hl 0 rfl) ?_
        refine lv_if_eq (tgt := 89) hx hb dX5_drifts_76 (by decide) (fun _ => ?_) (fun q => absurd q (by decide))
        refine lv_aload_n hx hb dX5_drifts_89 rfl (lv_at hl 3 rfl) ?_
        refine va_get (ci := 5) (C := RX5) (T := TX5) (N := 33) hx hb hts hinX5 hown hK.1 hP 0 rfl rfl 8 (by decide) (hts _ (List.mem_of_getElem? (i := 1) rfl)) (fun _ h9 => h9) rfl dX5_drifts_90 ?_
        refine lv_iload hx hb dX5_drifts_93 (lv_at hl 1 rfl) ?_
        refine lv_isub hx hb dX5_drifts_95 ?_
        refine lv_iconst (v := 0) hx hb dX5_drifts_96 (by decide) ?_
        refine lv_bipush (v := 30) hx hb dX5_drifts_97 (by decide) ?_
        refine kSiS hx hb hml hown hts hK hP gX5_drifts_X5_held okX5_held (qX5_held l D cI cB ((il_ B) - (pa_ B)) 0 30 ) [] rfl (by decide) hl.1 rfl rfl (Nat.le_of_ble_eq_true rfl) dX5_drifts_99 (by decide) (fun r_27 hr_28 => ?_)
        replace hr_28 : r_27 = he_ ((il_ B) - (pa_ B)) 0 30 := hr_28
        subst r_27
        refine lv_topi (fun y_29 ey_29 => ?_)
        replace ey_29 : y_29 = he_ ((il_ B) - (pa_ B)) 0 30 := ey_29
        refine va_put (ci := 5) (ty := .int) (C := RX5) (T := TX5) (N := 33) hx hb hts hinX5 tyX5 tyX5_ok nmX5 hown hK.1 hP hD hS 0 rfl rfl 8 (by decide) (hts _ (List.mem_of_getElem? (i := 1) rfl)) (fun _ h9 => h9) rfl (by decide +kernel) (rfl) (rfl) (Nat.le_of_ble_eq_true rfl) dX5_drifts_102 (fun H locs hP hD hS => ?_)
        replace hP : va_P D vwCl (mW cI r (mkB (kd_ B) (fg_ B) (pl_ B) (pw_ B) (jy_ B) (qt_ B) (sn_ B) y_29 (pa_ B) (ho_ B) (dy_ B)) M) H := hP
        replace hD : va_D A (mW cI r (mkB (kd_ B) (fg_ B) (pl_ B) (pw_ B) (jy_ B) (qt_ B) (sn_ B) y_29 (pa_ B) (ho_ B) (dy_ B)) M) := hD
        (try rw [ey_29] at hP); (try rw [ey_29] at hD); (try rw [ey_29] at hl); (try rw [ey_29] at c_10); (try rw [ey_29] at c_39); (try rw [ey_29] at c_63); (try rw [ey_29] at d_63); (try rw [ey_29])
        refine rMv hx hb hr hlk hS (mkB (kd_ B) (fg_ B) (pl_ B) (pw_ B) (jy_ B) (qt_ B) (sn_ B) (he_ ((il_ B) - (pa_ B)) 0 30) (pa_ B) (ho_ B) (dy_ B)) hP ?_ dX5_drifts_105
        show (mkB (kd_ B) (fg_ B) (pl_ B) (pw_ B) (jy_ B) (qt_ B) (sn_ B) (he_ ((il_ B) - (pa_ B)) 0 30) (pa_ B) (ho_ B) (dy_ B)) = _
        first | exact absurd c_39 c_10 | exact absurd c_10 c_39 | (refine drift_u ?_; (first | rw [if_pos (by assumption), ← aw_eq h1 h2 h3] | rw [if_neg (by assumption), ← tw_eq h1 h2 h3]); (repeat (first | rw [if_pos (by first | assumption | exact Int32.not_le.mp (by assumption) | exact Int32.not_lt.mp (by assumption) | exact Int32.not_le.mpr (by assumption) | exact Int32.not_lt.mpr (by assumption))] | rw [if_neg (by first | assumption | exact Int32.not_le.mp (by assumption) | exact Int32.not_lt.mp (by assumption) | exact Int32.not_le.mpr (by assumption) | exact Int32.not_lt.mpr (by assumption))])))
      · have d_63 := Int32.not_le.mp c_63
        refine lv_iconst (v := 1) hx hb dX5_drifts_66 (by decide) ?_
        refine lv_goto (tgt := 71) hx hb dX5_drifts_67 (by decide) ?_
        refine lv_istore (lv' := [(5, .int 1), (4, .int (pa_ B)), (3, .int (fr_ (pl_ B k) (il_ B))), (0, .ref (r 0)), (1, .int (pl_ B k)), (2, .int (b1 z))]) hx hb dX5_drifts_71 hl (by decide) rfl (fun ls hl => ?_)
        refine lv_aload_n hx hb dX5_drifts_73 rfl (lv_at hl 3 rfl) ?_
        refine lv_iload hx hb dX5_drifts_74 (lv_at hl 0 rfl) ?_
        refine lv_if_eq (tgt := 89) hx hb dX5_drifts_76 (by decide) (fun q => absurd q (by decide)) (fun _ => ?_)
        refine lv_aload_n hx hb dX5_drifts_79 rfl (lv_at hl 3 rfl) ?_
        refine va_get (ci := 5) (C := RX5) (T := TX5) (N := 33) hx hb hts hinX5 hown hK.1 hP 0 rfl rfl 8 (by decide) (hts _ (List.mem_of_getElem? (i := 1) rfl)) (fun _ h9 => h9) rfl dX5_drifts_80 ?_
        refine lv_iload hx hb dX5_drifts_83 (lv_at hl 1 rfl) ?_
        refine lv_iadd hx hb dX5_drifts_85 ?_
        refine lv_goto (tgt := 96) hx hb dX5_drifts_86 (by decide) ?_
        refine lv_iconst (v := 0) hx hb dX5_drifts_96 (by decide) ?_
        refine lv_bipush (v := 30) hx hb dX5_drifts_97 (by decide) ?_
        refine kSiS hx hb hml hown hts hK hP gX5_drifts_X5_held okX5_held (qX5_held l D cI cB ((il_ B) + (pa_ B)) 0 30 ) [] rfl (by decide) hl.1 rfl rfl (Nat.le_of_ble_eq_true rfl) dX5_drifts_99 (by decide) (fun r_30 hr_31 => ?_)
        replace hr_31 : r_30 = he_ ((il_ B) + (pa_ B)) 0 30 := hr_31
        subst r_30
        refine lv_topi (fun y_32 ey_32 => ?_)
        replace ey_32 : y_32 = he_ ((il_ B) + (pa_ B)) 0 30 := ey_32
        refine va_put (ci := 5) (ty := .int) (C := RX5) (T := TX5) (N := 33) hx hb hts hinX5 tyX5 tyX5_ok nmX5 hown hK.1 hP hD hS 0 rfl rfl 8 (by decide) (hts _ (List.mem_of_getElem? (i := 1) rfl)) (fun _ h9 => h9) rfl (by decide +kernel) (rfl) (rfl) (Nat.le_of_ble_eq_true rfl) dX5_drifts_102 (fun H locs hP hD hS => ?_)
        replace hP : va_P D vwCl (mW cI r (mkB (kd_ B) (fg_ B) (pl_ B) (pw_ B) (jy_ B) (qt_ B) (sn_ B) y_32 (pa_ B) (ho_ B) (dy_ B)) M) H := hP
        replace hD : va_D A (mW cI r (mkB (kd_ B) (fg_ B) (pl_ B) (pw_ B) (jy_ B) (qt_ B) (sn_ B) y_32 (pa_ B) (ho_ B) (dy_ B)) M) := hD
        (try rw [ey_32] at hP); (try rw [ey_32] at hD); (try rw [ey_32] at hl); (try rw [ey_32] at c_10); (try rw [ey_32] at c_39); (try rw [ey_32] at c_63); (try rw [ey_32] at d_63); (try rw [ey_32])
        refine rMv hx hb hr hlk hS (mkB (kd_ B) (fg_ B) (pl_ B) (pw_ B) (jy_ B) (qt_ B) (sn_ B) (he_ ((il_ B) + (pa_ B)) 0 30) (pa_ B) (ho_ B) (dy_ B)) hP ?_ dX5_drifts_105
        show (mkB (kd_ B) (fg_ B) (pl_ B) (pw_ B) (jy_ B) (qt_ B) (sn_ B) (he_ ((il_ B) + (pa_ B)) 0 30) (pa_ B) (ho_ B) (dy_ B)) = _
        first | exact absurd c_39 c_10 | exact absurd c_10 c_39 | (refine drift_u ?_; (first | rw [if_pos (by assumption), ← aw_eq h1 h2 h3] | rw [if_neg (by assumption), ← tw_eq h1 h2 h3]); (repeat (first | rw [if_pos (by first | assumption | exact Int32.not_le.mp (by assumption) | exact Int32.not_lt.mp (by assumption) | exact Int32.not_le.mpr (by assumption) | exact Int32.not_lt.mpr (by assumption))] | rw [if_neg (by first | assumption | exact Int32.not_le.mp (by assumption) | exact Int32.not_lt.mp (by assumption) | exact Int32.not_le.mpr (by assumption) | exact Int32.not_lt.mpr (by assumption))])))
    · replace c_39 := b1_n c_39
      refine lv_iload_n hx hb dX5_drifts_42 rfl (lv_at hl 3 rfl) ?_
      refine lv_aload_n hx hb dX5_drifts_43 rfl (lv_at hl 2 rfl) ?_
      refine va_get (ci := 5) (C := RX5) (T := TX5) (N := 33) hx hb hts hinX5 hown hK.1 hP 0 rfl rfl 8 (by decide) (hts _ (List.mem_of_getElem? (i := 1) rfl)) (fun _ h9 => h9) rfl dX5_drifts_44 ?_
      refine lv_icmp_ge (tgt := 54) hx hb dX5_drifts_47 (by decide) (fun c_47 => ?_) (fun c_47 => ?_)
      · have d_47 := Int32.not_lt.mpr c_47
        refine lv_iconst (v := 0) hx hb dX5_drifts_54 (by decide) ?_
        refine lv_goto (tgt := 71) hx hb dX5_drifts_55 (by decide) ?_
        refine lv_istore (lv' := [(5, .int 0), (4, .int (pa_ B)), (3, .int (fr_ (pl_ B k) (il_ B))), (0, .ref (r 0)), (1, .int (pl_ B k)), (2, .int (b1 z))]) hx hb dX5_drifts_71 hl (by decide) rfl (fun ls hl => ?_)
        refine lv_aload_n hx hb dX5_drifts_73 rfl (lv_at hl 3 rfl) ?_
        refine lv_iload hx hb dX5_drifts_74 (lv_at hl 0 rfl) ?_
        refine lv_if_eq (tgt := 89) hx hb dX5_drifts_76 (by decide) (fun _ => ?_) (fun q => absurd q (by decide))
        refine lv_aload_n hx hb dX5_drifts_89 rfl (lv_at hl 3 rfl) ?_
        refine va_get (ci := 5) (C := RX5) (T := TX5) (N := 33) hx hb hts hinX5 hown hK.1 hP 0 rfl rfl 8 (by decide) (hts _ (List.mem_of_getElem? (i := 1) rfl)) (fun _ h9 => h9) rfl dX5_drifts_90 ?_
        refine lv_iload hx hb dX5_drifts_93 (lv_at hl 1 rfl) ?_
        refine lv_isub hx hb dX5_drifts_95 ?_
        refine lv_iconst (v := 0) hx hb dX5_drifts_96 (by decide) ?_
        refine lv_bipush (v := 30) hx hb dX5_drifts_97 (by decide) ?_
        refine kSiS hx hb hml hown hts hK hP gX5_drifts_X5_held okX5_held (qX5_held l D cI cB ((il_ B) - (pa_ B)) 0 30 ) [] rfl (by decide) hl.1 rfl rfl (Nat.le_of_ble_eq_true rfl) dX5_drifts_99 (by decide) (fun r_33 hr_34 => ?_)
        replace hr_34 : r_33 = he_ ((il_ B) - (pa_ B)) 0 30 := hr_34
        subst r_33
        refine lv_topi (fun y_35 ey_35 => ?_)
        replace ey_35 : y_35 = he_ ((il_ B) - (pa_ B)) 0 30 := ey_35
        refine va_put (ci := 5) (ty := .int) (C := RX5) (T := TX5) (N := 33) hx hb hts hinX5 tyX5 tyX5_ok nmX5 hown hK.1 hP hD hS 0 rfl rfl 8 (by decide) (hts _ (List.mem_of_getElem? (i := 1) rfl)) (fun _ h9 => h9) rfl (by decide +kernel) (rfl) (rfl) (Nat.le_of_ble_eq_true rfl) dX5_drifts_102 (fun H locs hP hD hS => ?_)
        replace hP : va_P D vwCl (mW cI r (mkB (kd_ B) (fg_ B) (pl_ B) (pw_ B) (jy_ B) (qt_ B) (sn_ B) y_35 (pa_ B) (ho_ B) (dy_ B)) M) H := hP
        replace hD : va_D A (mW cI r (mkB (kd_ B) (fg_ B) (pl_ B) (pw_ B) (jy_ B) (qt_ B) (sn_ B) y_35 (pa_ B) (ho_ B) (dy_ B)) M) := hD
        (try rw [ey_35] at hP); (try rw [ey_35] at hD); (try rw [ey_35] at hl); (try rw [ey_35] at c_10); (try rw [ey_35] at c_39); (try rw [ey_35] at c_47); (try rw [ey_35] at d_47); (try rw [ey_35])
        refine rMv hx hb hr hlk hS (mkB (kd_ B) (fg_ B) (pl_ B) (pw_ B) (jy_ B) (qt_ B) (sn_ B) (he_ ((il_ B) - (pa_ B)) 0 30) (pa_ B) (ho_ B) (dy_ B)) hP ?_ dX5_drifts_105
        show (mkB (kd_ B) (fg_ B) (pl_ B) (pw_ B) (jy_ B) (qt_ B) (sn_ B) (he_ ((il_ B) - (pa_ B)) 0 30) (pa_ B) (ho_ B) (dy_ B)) = _
        first | exact absurd c_39 c_10 | exact absurd c_10 c_39 | (refine drift_u ?_; (first | rw [if_pos (by assumption), ← aw_eq h1 h2 h3] | rw [if_neg (by assumption), ← tw_eq h1 h2 h3]); (repeat (first | rw [if_pos (by first | assumption | exact Int32.not_le.mp (by assumption) | exact Int32.not_lt.mp (by assumption) | exact Int32.not_le.mpr (by assumption) | exact Int32.not_lt.mpr (by assumption))] | rw [if_neg (by first | assumption | exact Int32.not_le.mp (by assumption) | exact Int32.not_lt.mp (by assumption) | exact Int32.not_le.mpr (by assumption) | exact Int32.not_lt.mpr (by assumption))])))
      · have d_47 := Int32.not_le.mp c_47
        refine lv_iconst (v := 1) hx hb dX5_drifts_50 (by decide) ?_
        refine lv_goto (tgt := 71) hx hb dX5_drifts_51 (by decide) ?_
        refine lv_istore (lv' := [(5, .int 1), (4, .int (pa_ B)), (3, .int (fr_ (pl_ B k) (il_ B))), (0, .ref (r 0)), (1, .int (pl_ B k)), (2, .int (b1 z))]) hx hb dX5_drifts_71 hl (by decide) rfl (fun ls hl => ?_)
        refine lv_aload_n hx hb dX5_drifts_73 rfl (lv_at hl 3 rfl) ?_
        refine lv_iload hx hb dX5_drifts_74 (lv_at hl 0 rfl) ?_
        refine lv_if_eq (tgt := 89) hx hb dX5_drifts_76 (by decide) (fun q => absurd q (by decide)) (fun _ => ?_)
        refine lv_aload_n hx hb dX5_drifts_79 rfl (lv_at hl 3 rfl) ?_
        refine va_get (ci := 5) (C := RX5) (T := TX5) (N := 33) hx hb hts hinX5 hown hK.1 hP 0 rfl rfl 8 (by decide) (hts _ (List.mem_of_getElem? (i := 1) rfl)) (fun _ h9 => h9) rfl dX5_drifts_80 ?_
        refine lv_iload hx hb dX5_drifts_83 (lv_at hl 1 rfl) ?_
        refine lv_iadd hx hb dX5_drifts_85 ?_
        refine lv_goto (tgt := 96) hx hb dX5_drifts_86 (by decide) ?_
        refine lv_iconst (v := 0) hx hb dX5_drifts_96 (by decide) ?_
        refine lv_bipush (v := 30) hx hb dX5_drifts_97 (by decide) ?_
        refine kSiS hx hb hml hown hts hK hP gX5_drifts_X5_held okX5_held (qX5_held l D cI cB ((il_ B) + (pa_ B)) 0 30 ) [] rfl (by decide) hl.1 rfl rfl (Nat.le_of_ble_eq_true rfl) dX5_drifts_99 (by decide) (fun r_36 hr_37 => ?_)
        replace hr_37 : r_36 = he_ ((il_ B) + (pa_ B)) 0 30 := hr_37
        subst r_36
        refine lv_topi (fun y_38 ey_38 => ?_)
        replace ey_38 : y_38 = he_ ((il_ B) + (pa_ B)) 0 30 := ey_38
        refine va_put (ci := 5) (ty := .int) (C := RX5) (T := TX5) (N := 33) hx hb hts hinX5 tyX5 tyX5_ok nmX5 hown hK.1 hP hD hS 0 rfl rfl 8 (by decide) (hts _ (List.mem_of_getElem? (i := 1) rfl)) (fun _ h9 => h9) rfl (by decide +kernel) (rfl) (rfl) (Nat.le_of_ble_eq_true rfl) dX5_drifts_102 (fun H locs hP hD hS => ?_)
        replace hP : va_P D vwCl (mW cI r (mkB (kd_ B) (fg_ B) (pl_ B) (pw_ B) (jy_ B) (qt_ B) (sn_ B) y_38 (pa_ B) (ho_ B) (dy_ B)) M) H := hP
        replace hD : va_D A (mW cI r (mkB (kd_ B) (fg_ B) (pl_ B) (pw_ B) (jy_ B) (qt_ B) (sn_ B) y_38 (pa_ B) (ho_ B) (dy_ B)) M) := hD
        (try rw [ey_38] at hP); (try rw [ey_38] at hD); (try rw [ey_38] at hl); (try rw [ey_38] at c_10); (try rw [ey_38] at c_39); (try rw [ey_38] at c_47); (try rw [ey_38] at d_47); (try rw [ey_38])
        refine rMv hx hb hr hlk hS (mkB (kd_ B) (fg_ B) (pl_ B) (pw_ B) (jy_ B) (qt_ B) (sn_ B) (he_ ((il_ B) + (pa_ B)) 0 30) (pa_ B) (ho_ B) (dy_ B)) hP ?_ dX5_drifts_105
        show (mkB (kd_ B) (fg_ B) (pl_ B) (pw_ B) (jy_ B) (qt_ B) (sn_ B) (he_ ((il_ B) + (pa_ B)) 0 30) (pa_ B) (ho_ B) (dy_ B)) = _
        first | exact absurd c_39 c_10 | exact absurd c_10 c_39 | (refine drift_u ?_; (first | rw [if_pos (by assumption), ← aw_eq h1 h2 h3] | rw [if_neg (by assumption), ← tw_eq h1 h2 h3]); (repeat (first | rw [if_pos (by first | assumption | exact Int32.not_le.mp (by assumption) | exact Int32.not_lt.mp (by assumption) | exact Int32.not_le.mpr (by assumption) | exact Int32.not_lt.mpr (by assumption))] | rw [if_neg (by first | assumption | exact Int32.not_le.mp (by assumption) | exact Int32.not_lt.mp (by assumption) | exact Int32.not_le.mpr (by assumption) | exact Int32.not_lt.mpr (by assumption))])))
