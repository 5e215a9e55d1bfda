theorem okX0_passHour : jok yX0_passHour wsX0_passHour cX0_passHour 4 none 1 := ⟨⟨_, rfl⟩, by decide +kernel, by decide +kernel⟩
set_option maxHeartbeats 1000000 in
set_option maxRecDepth 100000 in
theorem qX0_passHour (l : Launch) (D : va_G) (cI cB : ClassId) (g : Nat → Nat) (i0 : Nat) (B : BayT) (z : Prop) (iz : Decidable z) (hn7 : sn_ B ≤ 7) : jMv D cI cB l yX0_passHour wsX0_passHour 3 [.ref (g i0), .int (b1 z)] (bW cI g i0 B) (S := BayT) (fun u => u = hb_ z B) (fun u => bW cI g i0 u) := by
  refine jMv.of (cc := cX0_passHour) (maxL := 4) (ret := none) okX0_passHour (Nat.le_of_ble_eq_true rfl) ?_
  intro p e s m below meth c ls A hx hb hr hts hown hlk hml hP hK hD hA hS hl
  replace hown : s.vm.findClass RX0 = some m.cls := hown
  replace hl : lv_has ls 4 [(0, .ref (g i0)), (1, .int (b1 z))] := hl
  have hinX0 : ∀ w ∈ wsX00, w ∈ wsX0_passHour := by decide +kernel
  refine lv_aload_n hx hb dX0_passHour_0 rfl (lv_at hl 0 rfl) ?_
  refine lv_aload_n hx hb dX0_passHour_1 rfl (lv_at hl 0 rfl) ?_
  refine va_get (ci := 0) (C := RX0) (T := TX0) (N := 11) hx hb hts hinX0 hown hK.1 hP 0 rfl rfl 9 (by decide) (hts _ (List.mem_of_getElem? (i := 1) rfl)) (fun _ h9 => h9) rfl dX0_passHour_2 ?_
  refine kSiV hx hb hml hown hts hK hP gX0_passHour_X0_loudestAt okX0_loudestAt (qX0_loudestAt l D cI cB g i0 B (ho_ B) (by show sn_ B ≤ 7; omega)) [0, 1, 2, 3, 4, 5] rfl rfl rfl rfl (by decide) hl.1 rfl rfl (Nat.le_of_ble_eq_true rfl) dX0_passHour_5 (by decide) (fun r_1 hr_2 => ?_)
  replace hr_2 : r_1 = oI_ (lt_ B (ho_ B)) := hr_2
  subst r_1
  refine lv_istore_n (lv' := [(2, .int (oI_ (lt_ B (ho_ B)))), (0, .ref (g i0)), (1, .int (b1 z))]) hx hb dX0_passHour_8 rfl hl (by decide) rfl (fun ls hl => ?_)
  refine lv_aload_n hx hb dX0_passHour_9 rfl (lv_at hl 1 rfl) ?_
  refine kMvV hx hb hml hown hts hK hP hD hA hS gX0_passHour_X0_spendPowder okX0_spendPowder (qX0_spendPowder l D cI cB g i0 B (by show sn_ B ≤ 7; omega)) [0, 1, 2, 3, 4, 5] rfl (by decide) (fun _ => rfl) rfl rfl rfl (by decide) hl.1 rfl rfl (Nat.le_of_ble_eq_true rfl) dX0_passHour_10 (by decide) (fun u_4 H locs hw_5 hP hD hS => ?_)
  replace hw_5 : u_4 = us_ B (sn_ B) := hw_5
  subst u_4
  replace hP : va_P D vwCl (bW cI g i0 (us_ B (sn_ B))) H := hP
  replace hD : va_D A (bW cI g i0 (us_ B (sn_ B))) := hD
  rcases hL : lt_ B (ho_ B) with _ | t
  · rw [hL] at hl
    replace hl : lv_has ls 4 [(2, .int (-9)), (0, .ref (g i0)), (1, .int (b1 z))] := hl
    refine lv_iload_n hx hb dX0_passHour_13 rfl (lv_at hl 0 rfl) ?_
    refine lv_bipush (v := (-9)) hx hb dX0_passHour_14 (by decide) ?_
    refine lv_icmp_eq (tgt := 40) hx hb dX0_passHour_16 (by decide) (fun _ => ?_) (fun q => absurd q (by decide))
    refine lv_aload_n hx hb dX0_passHour_40 rfl (lv_at hl 1 rfl) ?_
    refine lv_dup hx hb dX0_passHour_41 rfl ?_
    refine va_get (ci := 0) (C := RX0) (T := TX0) (N := 11) hx hb hts hinX0 hown hK.1 hP 0 rfl rfl 9 (by decide) (hts _ (List.mem_of_getElem? (i := 1) rfl)) (fun _ h9 => h9) rfl dX0_passHour_42 ?_
    refine lv_iconst (v := 1) hx hb dX0_passHour_45 (by decide) ?_
    refine lv_iadd hx hb dX0_passHour_46 ?_
    refine lv_topi (fun y_6 ey_6 => ?_)
    replace ey_6 : y_6 = (ho_ B) + 1 := ey_6
    refine va_put (ci := 0) (ty := .int) (C := RX0) (T := TX0) (N := 11) hx hb hts hinX0 tyX0 tyX0_ok nmX0 hown hK.1 hP hD hS 0 rfl rfl 9 (by decide) (hts _ (List.mem_of_getElem? (i := 1) rfl)) (fun _ h9 => h9) rfl (by decide +kernel) (rfl) (rfl) (Nat.le_of_ble_eq_true rfl) dX0_passHour_47 (fun H locs hP hD hS => ?_)
    replace hP : va_P D vwCl (bW cI g i0 (mkB (kd_ B) (fg_ B) (pl_ B) (sp_ B (sn_ B)) (jy_ B) (qt_ B) (sn_ B) (il_ B) (pa_ B) y_6 (dy_ B))) H := hP
    replace hD : va_D A (bW cI g i0 (mkB (kd_ B) (fg_ B) (pl_ B) (sp_ B (sn_ B)) (jy_ B) (qt_ B) (sn_ B) (il_ B) (pa_ B) y_6 (dy_ B))) := hD
    refine lv_aload_n hx hb dX0_passHour_50 rfl (lv_at hl 1 rfl) ?_
    refine va_get (ci := 0) (C := RX0) (T := TX0) (N := 11) hx hb hts hinX0 hown hK.1 hP 0 rfl rfl 9 (by decide) (hts _ (List.mem_of_getElem? (i := 1) rfl)) (fun _ h9 => h9) rfl dX0_passHour_51 ?_
    refine lv_bipush (v := 23) hx hb dX0_passHour_54 (by decide) ?_
    refine lv_icmp_le (tgt := 74) hx hb dX0_passHour_56 (by decide) (fun c_56 => ?_) (fun c_56 => ?_)
    · have d_56 := Int32.not_lt.mpr c_56
      refine lv_aload_n hx hb dX0_passHour_74 rfl (lv_at hl 1 rfl) ?_
      refine kSiV hx hb hml hown hts hK hP gX0_passHour_X0_owner okX0_owner (qX0_owner l D cI cB g i0 (mkB (kd_ B) (fg_ B) (pl_ B) (sp_ B (sn_ B)) (jy_ B) (qt_ B) (sn_ B) (il_ B) (pa_ B) y_6 (dy_ B)) (by show sn_ B ≤ 7; omega)) [0, 1, 2, 3, 4, 5] rfl rfl rfl rfl (by decide) hl.1 rfl rfl (Nat.le_of_ble_eq_true rfl) dX0_passHour_75 (by decide) (fun r_7 hr_8 => ?_)
      replace hr_8 : r_7 = oI_ (ow_ (mkB (kd_ B) (fg_ B) (pl_ B) (sp_ B (sn_ B)) (jy_ B) (qt_ B) (sn_ B) (il_ B) (pa_ B) y_6 (dy_ B))) := hr_8
      subst r_7
      refine lv_istore_n (lv' := [(3, .int (oI_ (ow_ (mkB (kd_ B) (fg_ B) (pl_ B) (sp_ B (sn_ B)) (jy_ B) (qt_ B) (sn_ B) (il_ B) (pa_ B) y_6 (dy_ B))))), (2, .int (-9)), (0, .ref (g i0)), (1, .int (b1 z))]) hx hb dX0_passHour_78 rfl hl (by decide) rfl (fun ls hl => ?_)
      rcases hO : ow_ (mkB (kd_ B) (fg_ B) (pl_ B) (sp_ B (sn_ B)) (jy_ B) (qt_ B) (sn_ B) (il_ B) (pa_ B) y_6 (dy_ B)) with _ | u2
      · rw [hO] at hl
        replace hl : lv_has ls 4 [(3, .int (-9)), (2, .int (-9)), (0, .ref (g i0)), (1, .int (b1 z))] := hl
        refine lv_iload_n hx hb dX0_passHour_79 rfl (lv_at hl 0 rfl) ?_
        refine lv_bipush (v := (-9)) hx hb dX0_passHour_80 (by decide) ?_
        refine lv_icmp_eq (tgt := 105) hx hb dX0_passHour_82 (by decide) (fun _ => ?_) (fun q => absurd q (by decide))
        (try rw [ey_6] at hP); (try rw [ey_6] at hD); (try rw [ey_6] at hl); (try rw [ey_6] at hL); (try rw [ey_6] at c_56); (try rw [ey_6] at d_56); (try rw [ey_6] at hO); (try rw [ey_6])
        refine rMv hx hb hr hlk hS (mkB (kd_ B) (fg_ B) (pl_ B) (sp_ B (sn_ B)) (jy_ B) (qt_ B) (sn_ B) (il_ B) (pa_ B) ((ho_ B) + 1) (dy_ B)) hP ?_ dX0_passHour_105
        have hO2 : at_ (pl_ B) (il_ B) (sn_ B) 0 = none := hO
        exact hb_fin (z := z) (i2 := (il_ B)) (h2 := ((ho_ B) + 1)) (d2 := (dy_ B)) (j2 := (jy_ B)) hL (Or.inl ⟨rfl, rfl⟩) hO2 (Or.inl ⟨rfl, rfl⟩) (Or.inr ⟨by first | assumption | exact Int32.not_lt.mpr (by assumption), rfl, rfl⟩)
      · rw [hO] at hl
        replace hl : lv_has ls 4 [(3, .int (nI u2)), (2, .int (-9)), (0, .ref (g i0)), (1, .int (b1 z))] := hl
        have hu : u2 < sn_ B := (sa_lt hO).1
        refine lv_iload_n hx hb dX0_passHour_79 rfl (lv_at hl 0 rfl) ?_
        refine lv_bipush (v := (-9)) hx hb dX0_passHour_80 (by decide) ?_
        refine lv_icmp_eq (tgt := 105) hx hb dX0_passHour_82 (by decide) (fun q => absurd q (nI_m9 (by omega))) (fun _ => ?_)
        refine lv_aload_n hx hb dX0_passHour_85 rfl (lv_at hl 2 rfl) ?_
        refine va_get (ci := 0) (C := RX0) (T := TX0) (N := 11) hx hb hts hinX0 hown hK.1 hP 0 rfl rfl 4 (by decide) (hts _ (List.mem_of_getElem? (i := 4) rfl)) (fun _ h9 => h9) rfl dX0_passHour_86 ?_
        refine lv_iload_n hx hb dX0_passHour_89 rfl (lv_at hl 0 rfl) ?_
        refine lv_sipush (v := 999) hx hb dX0_passHour_90 (by decide) ?_
        refine lv_aload_n hx hb dX0_passHour_93 rfl (lv_at hl 2 rfl) ?_
        refine va_get (ci := 0) (C := RX0) (T := TX0) (N := 11) hx hb hts hinX0 hown hK.1 hP 0 rfl rfl 4 (by decide) (hts _ (List.mem_of_getElem? (i := 4) rfl)) (fun _ h9 => h9) rfl dX0_passHour_94 ?_
        refine lv_iload_n hx hb dX0_passHour_97 rfl (lv_at hl 0 rfl) ?_
        refine jald hx hb hK.1 hP 5 0 u2 rfl rfl rfl (by omega) (Nat.le_of_ble_eq_true rfl) dX0_passHour_98 ?_
        refine lv_iconst (v := 1) hx hb dX0_passHour_99 (by decide) ?_
        refine lv_iadd hx hb dX0_passHour_100 ?_
        refine va_mmin hx hb (hml.trans hl.1.symm) hown (hts _ (List.mem_of_getElem? (i := 5) rfl)) (hts _ (List.mem_of_getElem? (i := 6) rfl)) (hts _ (List.mem_of_getElem? (i := 7) rfl)) (hts _ (List.mem_of_getElem? (i := 8) rfl)) (by decide) (Nat.le_of_ble_eq_true rfl) (by decide) (by decide) dX0_passHour_101 ?_
        refine jast hx hb hK.1 hP hD hS 5 0 u2 rfl rfl rfl (by omega) (Nat.le_of_ble_eq_true rfl) dX0_passHour_104 (fun f_9 ef_9 H locs hP hD hS => ?_)
        replace ef_9 : f_9 = upd (jy_ B) u2 (if (((jy_ B) u2) + 1) < 999 then (((jy_ B) u2) + 1) else 999) := ef_9
        replace hP : va_P D vwCl (bW cI g i0 (mkB (kd_ B) (fg_ B) (pl_ B) (sp_ B (sn_ B)) f_9 (qt_ B) (sn_ B) (il_ B) (pa_ B) y_6 (dy_ B))) H := hP
        replace hD : va_D A (bW cI g i0 (mkB (kd_ B) (fg_ B) (pl_ B) (sp_ B (sn_ B)) f_9 (qt_ B) (sn_ B) (il_ B) (pa_ B) y_6 (dy_ B))) := hD
        (try rw [ef_9] at hP); (try rw [ef_9] at hD); (try rw [ef_9] at hl); (try rw [ef_9] at hL); (try rw [ef_9] at c_56); (try rw [ef_9] at d_56); (try rw [ef_9] at hO); (try rw [ef_9])
        (try rw [ey_6] at hP); (try rw [ey_6] at hD); (try rw [ey_6] at hl); (try rw [ey_6] at hL); (try rw [ey_6] at c_56); (try rw [ey_6] at d_56); (try rw [ey_6] at hO); (try rw [ey_6])
        refine rMv hx hb hr hlk hS (mkB (kd_ B) (fg_ B) (pl_ B) (sp_ B (sn_ B)) (upd (jy_ B) u2 (if (((jy_ B) u2) + 1) < 999 then (((jy_ B) u2) + 1) else 999)) (qt_ B) (sn_ B) (il_ B) (pa_ B) ((ho_ B) + 1) (dy_ B)) hP ?_ dX0_passHour_105
        have hO2 : at_ (pl_ B) (il_ B) (sn_ B) 0 = some u2 := hO
        exact hb_fin (z := z) (i2 := (il_ B)) (h2 := ((ho_ B) + 1)) (d2 := (dy_ B)) (j2 := (upd (jy_ B) u2 (if (((jy_ B) u2) + 1) < 999 then (((jy_ B) u2) + 1) else 999))) hL (Or.inl ⟨rfl, rfl⟩) hO2 (Or.inr ⟨u2, rfl, by unfold jo_; rfl⟩) (Or.inr ⟨by first | assumption | exact Int32.not_lt.mpr (by assumption), rfl, rfl⟩)
    · have d_56 := Int32.not_le.mp c_56
      refine lv_aload_n hx hb dX0_passHour_59 rfl (lv_at hl 1 rfl) ?_
      refine lv_iconst (v := 0) hx hb dX0_passHour_60 (by decide) ?_
      refine va_put (ci := 0) (ty := .int) (C := RX0) (T := TX0) (N := 11) hx hb hts hinX0 tyX0 tyX0_ok nmX0 hown hK.1 hP hD hS 0 rfl rfl 9 (by decide) (hts _ (List.mem_of_getElem? (i := 1) rfl)) (fun _ h9 => h9) rfl (by decide +kernel) (rfl) (rfl) (Nat.le_of_ble_eq_true rfl) dX0_passHour_61 (fun H locs hP hD hS => ?_)
      replace hP : va_P D vwCl (bW cI g i0 (mkB (kd_ B) (fg_ B) (pl_ B) (sp_ B (sn_ B)) (jy_ B) (qt_ B) (sn_ B) (il_ B) (pa_ B) 0 (dy_ B))) H := hP
      replace hD : va_D A (bW cI g i0 (mkB (kd_ B) (fg_ B) (pl_ B) (sp_ B (sn_ B)) (jy_ B) (qt_ B) (sn_ B) (il_ B) (pa_ B) 0 (dy_ B))) := hD
      refine lv_aload_n hx hb dX0_passHour_64 rfl (lv_at hl 1 rfl) ?_
      refine lv_dup hx hb dX0_passHour_65 rfl ?_
      refine va_get (ci := 0) (C := RX0) (T := TX0) (N := 11) hx hb hts hinX0 hown hK.1 hP 0 rfl rfl 10 (by decide) (hts _ (List.mem_of_getElem? (i := 3) rfl)) (fun _ h9 => h9) rfl dX0_passHour_66 ?_
      refine lv_iconst (v := 1) hx hb dX0_passHour_69 (by decide) ?_
      refine lv_iadd hx hb dX0_passHour_70 ?_
      refine lv_topi (fun y_10 ey_10 => ?_)
      replace ey_10 : y_10 = (dy_ B) + 1 := ey_10
      refine va_put (ci := 0) (ty := .int) (C := RX0) (T := TX0) (N := 11) hx hb hts hinX0 tyX0 tyX0_ok nmX0 hown hK.1 hP hD hS 0 rfl rfl 10 (by decide) (hts _ (List.mem_of_getElem? (i := 3) rfl)) (fun _ h9 => h9) rfl (by decide +kernel) (rfl) (rfl) (Nat.le_of_ble_eq_true rfl) dX0_passHour_71 (fun H locs hP hD hS => ?_)
      replace hP : va_P D vwCl (bW cI g i0 (mkB (kd_ B) (fg_ B) (pl_ B) (sp_ B (sn_ B)) (jy_ B) (qt_ B) (sn_ B) (il_ B) (pa_ B) 0 y_10)) H := hP
      replace hD : va_D A (bW cI g i0 (mkB (kd_ B) (fg_ B) (pl_ B) (sp_ B (sn_ B)) (jy_ B) (qt_ B) (sn_ B) (il_ B) (pa_ B) 0 y_10)) := hD
      refine lv_aload_n hx hb dX0_passHour_74 rfl (lv_at hl 1 rfl) ?_
      refine kSiV hx hb hml hown hts hK hP gX0_passHour_X0_owner okX0_owner (qX0_owner l D cI cB g i0 (mkB (kd_ B) (fg_ B) (pl_ B) (sp_ B (sn_ B)) (jy_ B) (qt_ B) (sn_ B) (il_ B) (pa_ B) 0 y_10) (by show sn_ B ≤ 7; omega)) [0, 1, 2, 3, 4, 5] rfl rfl rfl rfl (by decide) hl.1 rfl rfl (Nat.le_of_ble_eq_true rfl) dX0_passHour_75 (by decide) (fun r_11 hr_12 => ?_)
      replace hr_12 : r_11 = oI_ (ow_ (mkB (kd_ B) (fg_ B) (pl_ B) (sp_ B (sn_ B)) (jy_ B) (qt_ B) (sn_ B) (il_ B) (pa_ B) 0 y_10)) := hr_12
      subst r_11
      refine lv_istore_n (lv' := [(3, .int (oI_ (ow_ (mkB (kd_ B) (fg_ B) (pl_ B) (sp_ B (sn_ B)) (jy_ B) (qt_ B) (sn_ B) (il_ B) (pa_ B) 0 y_10)))), (2, .int (-9)), (0, .ref (g i0)), (1, .int (b1 z))]) hx hb dX0_passHour_78 rfl hl (by decide) rfl (fun ls hl => ?_)
      rcases hO : ow_ (mkB (kd_ B) (fg_ B) (pl_ B) (sp_ B (sn_ B)) (jy_ B) (qt_ B) (sn_ B) (il_ B) (pa_ B) 0 y_10) with _ | u2
      · rw [hO] at hl
        replace hl : lv_has ls 4 [(3, .int (-9)), (2, .int (-9)), (0, .ref (g i0)), (1, .int (b1 z))] := hl
        refine lv_iload_n hx hb dX0_passHour_79 rfl (lv_at hl 0 rfl) ?_
        refine lv_bipush (v := (-9)) hx hb dX0_passHour_80 (by decide) ?_
        refine lv_icmp_eq (tgt := 105) hx hb dX0_passHour_82 (by decide) (fun _ => ?_) (fun q => absurd q (by decide))
        (try rw [ey_10] at hP); (try rw [ey_10] at hD); (try rw [ey_10] at hl); (try rw [ey_10] at hL); (try rw [ey_10] at c_56); (try rw [ey_10] at d_56); (try rw [ey_10] at hO); (try rw [ey_10])
        (try rw [ey_6] at hP); (try rw [ey_6] at hD); (try rw [ey_6] at hl); (try rw [ey_6] at hL); (try rw [ey_6] at c_56); (try rw [ey_6] at d_56); (try rw [ey_6] at hO); (try rw [ey_6])
        refine rMv hx hb hr hlk hS (mkB (kd_ B) (fg_ B) (pl_ B) (sp_ B (sn_ B)) (jy_ B) (qt_ B) (sn_ B) (il_ B) (pa_ B) 0 ((dy_ B) + 1)) hP ?_ dX0_passHour_105
        have hO2 : at_ (pl_ B) (il_ B) (sn_ B) 0 = none := hO
        exact hb_fin (z := z) (i2 := (il_ B)) (h2 := 0) (d2 := ((dy_ B) + 1)) (j2 := (jy_ B)) hL (Or.inl ⟨rfl, rfl⟩) hO2 (Or.inl ⟨rfl, rfl⟩) (Or.inl ⟨by first | assumption | exact Int32.not_le.mp (by assumption), rfl, rfl⟩)
      · rw [hO] at hl
        replace hl : lv_has ls 4 [(3, .int (nI u2)), (2, .int (-9)), (0, .ref (g i0)), (1, .int (b1 z))] := hl
        have hu : u2 < sn_ B := (sa_lt hO).1
        refine lv_iload_n hx hb dX0_passHour_79 rfl (lv_at hl 0 rfl) ?_
        refine lv_bipush (v := (-9)) hx hb dX0_passHour_80 (by decide) ?_
        refine lv_icmp_eq (tgt := 105) hx hb dX0_passHour_82 (by decide) (fun q => absurd q (nI_m9 (by omega))) (fun _ => ?_)
        refine lv_aload_n hx hb dX0_passHour_85 rfl (lv_at hl 2 rfl) ?_
        refine va_get (ci := 0) (C := RX0) (T := TX0) (N := 11) hx hb hts hinX0 hown hK.1 hP 0 rfl rfl 4 (by decide) (hts _ (List.mem_of_getElem? (i := 4) rfl)) (fun _ h9 => h9) rfl dX0_passHour_86 ?_
        refine lv_iload_n hx hb dX0_passHour_89 rfl (lv_at hl 0 rfl) ?_
        refine lv_sipush (v := 999) hx hb dX0_passHour_90 (by decide) ?_
        refine lv_aload_n hx hb dX0_passHour_93 rfl (lv_at hl 2 rfl) ?_
        refine va_get (ci := 0) (C := RX0) (T := TX0) (N := 11) hx hb hts hinX0 hown hK.1 hP 0 rfl rfl 4 (by decide) (hts _ (List.mem_of_getElem? (i := 4) rfl)) (fun _ h9 => h9) rfl dX0_passHour_94 ?_
        refine lv_iload_n hx hb dX0_passHour_97 rfl (lv_at hl 0 rfl) ?_
        refine jald hx hb hK.1 hP 5 0 u2 rfl rfl rfl (by omega) (Nat.le_of_ble_eq_true rfl) dX0_passHour_98 ?_
        refine lv_iconst (v := 1) hx hb dX0_passHour_99 (by decide) ?_
        refine lv_iadd hx hb dX0_passHour_100 ?_
        refine va_mmin hx hb (hml.trans hl.1.symm) hown (hts _ (List.mem_of_getElem? (i := 5) rfl)) (hts _ (List.mem_of_getElem? (i := 6) rfl)) (hts _ (List.mem_of_getElem? (i := 7) rfl)) (hts _ (List.mem_of_getElem? (i := 8) rfl)) (by decide) (Nat.le_of_ble_eq_true rfl) (by decide) (by decide) dX0_passHour_101 ?_
        refine jast hx hb hK.1 hP hD hS 5 0 u2 rfl rfl rfl (by omega) (Nat.le_of_ble_eq_true rfl) dX0_passHour_104 (fun f_13 ef_13 H locs hP hD hS => ?_)
        replace ef_13 : f_13 = upd (jy_ B) u2 (if (((jy_ B) u2) + 1) < 999 then (((jy_ B) u2) + 1) else 999) := ef_13
        replace hP : va_P D vwCl (bW cI g i0 (mkB (kd_ B) (fg_ B) (pl_ B) (sp_ B (sn_ B)) f_13 (qt_ B) (sn_ B) (il_ B) (pa_ B) 0 y_10)) H := hP
        replace hD : va_D A (bW cI g i0 (mkB (kd_ B) (fg_ B) (pl_ B) (sp_ B (sn_ B)) f_13 (qt_ B) (sn_ B) (il_ B) (pa_ B) 0 y_10)) := hD
        (try rw [ef_13] at hP); (try rw [ef_13] at hD); (try rw [ef_13] at hl); (try rw [ef_13] at hL); (try rw [ef_13] at c_56); (try rw [ef_13] at d_56); (try rw [ef_13] at hO); (try rw [ef_13])
        (try rw [ey_10] at hP); (try rw [ey_10] at hD); (try rw [ey_10] at hl); (try rw [ey_10] at hL); (try rw [ey_10] at c_56); (try rw [ey_10] at d_56); (try rw [ey_10] at hO); (try rw [ey_10])
        (try rw [ey_6] at hP); (try rw [ey_6] at hD); (try rw [ey_6] at hl); (try rw [ey_6] at hL); (try rw [ey_6] at c_56); (try rw [ey_6] at d_56); (try rw [ey_6] at hO); (try rw [ey_6])
        refine rMv hx hb hr hlk hS (mkB (kd_ B) (fg_ B) (pl_ B) (sp_ B (sn_ B)) (upd (jy_ B) u2 (if (((jy_ B) u2) + 1) < 999 then (((jy_ B) u2) + 1) else 999)) (qt_ B) (sn_ B) (il_ B) (pa_ B) 0 ((dy_ B) + 1)) hP ?_ dX0_passHour_105
        have hO2 : at_ (pl_ B) (il_ B) (sn_ B) 0 = some u2 := hO
        exact hb_fin (z := z) (i2 := (il_ B)) (h2 := 0) (d2 := ((dy_ B) + 1)) (j2 := (upd (jy_ B) u2 (if (((jy_ B) u2) + 1) < 999 then (((jy_ B) u2) + 1) else 999))) hL (Or.inl ⟨rfl, rfl⟩) hO2 (Or.inr ⟨u2, rfl, by unfold jo_; rfl⟩) (Or.inl ⟨by first | assumption | exact Int32.not_le.mp (by assumption), rfl, rfl⟩)
  · rw [hL] at hl
    replace hl : lv_has ls 4 [(2, .int (nI t)), (0, .ref (g i0)), (1, .int (b1 z))] := hl
    have ht : t < sn_ B := (lo_lt _ _ hL).1
    refine lv_iload_n hx hb dX0_passHour_13 rfl (lv_at hl 0 rfl) ?_
    refine lv_bipush (v := (-9)) hx hb dX0_passHour_14 (by decide) ?_
    refine lv_icmp_eq (tgt := 40) hx hb dX0_passHour_16 (by decide) (fun q => absurd q (nI_m9 (by omega))) (fun _ => ?_)
    refine lv_aload_n hx hb dX0_passHour_19 rfl (lv_at hl 1 rfl) ?_
    refine lv_iload_n hx hb dX0_passHour_20 rfl (lv_at hl 2 rfl) ?_
    refine lv_if_eq (tgt := 32) hx hb dX0_passHour_21 (by decide) (fun c_21 => ?_) (fun c_21 => ?_)
    · replace c_21 := b1_z c_21
      refine lv_aload_n hx hb dX0_passHour_32 rfl (lv_at hl 1 rfl) ?_
      refine lv_iload_n hx hb dX0_passHour_33 rfl (lv_at hl 0 rfl) ?_
      refine kSiV hx hb hml hown hts hK hP gX0_passHour_X0_placeTowards okX0_placeTowards (qX0_placeTowards l D cI cB g i0 (us_ B (sn_ B)) t (by show sn_ B ≤ 7; omega) (by omega)) [0, 1, 2, 3, 4, 5] rfl rfl rfl rfl (by decide) hl.1 rfl rfl (Nat.le_of_ble_eq_true rfl) dX0_passHour_34 (by decide) (fun r_14 hr_15 => ?_)
      replace hr_15 : r_14 = tw_ B t := hr_15
      subst r_14
      refine lv_topi (fun y_16 ey_16 => ?_)
      replace ey_16 : y_16 = tw_ B t := ey_16
      refine va_put (ci := 0) (ty := .int) (C := RX0) (T := TX0) (N := 11) hx hb hts hinX0 tyX0 tyX0_ok nmX0 hown hK.1 hP hD hS 0 rfl rfl 7 (by decide) (hts _ (List.mem_of_getElem? (i := 2) rfl)) (fun _ h9 => h9) rfl (by decide +kernel) (rfl) (rfl) (Nat.le_of_ble_eq_true rfl) dX0_passHour_37 (fun H locs hP hD hS => ?_)
      replace hP : va_P D vwCl (bW cI g i0 (mkB (kd_ B) (fg_ B) (pl_ B) (sp_ B (sn_ B)) (jy_ B) (qt_ B) (sn_ B) y_16 (pa_ B) (ho_ B) (dy_ B))) H := hP
      replace hD : va_D A (bW cI g i0 (mkB (kd_ B) (fg_ B) (pl_ B) (sp_ B (sn_ B)) (jy_ B) (qt_ B) (sn_ B) y_16 (pa_ B) (ho_ B) (dy_ B))) := hD
      refine lv_aload_n hx hb dX0_passHour_40 rfl (lv_at hl 1 rfl) ?_
      refine lv_dup hx hb dX0_passHour_41 rfl ?_
      refine va_get (ci := 0) (C := RX0) (T := TX0) (N := 11) hx hb hts hinX0 hown hK.1 hP 0 rfl rfl 9 (by decide) (hts _ (List.mem_of_getElem? (i := 1) rfl)) (fun _ h9 => h9) rfl dX0_passHour_42 ?_
      refine lv_iconst (v := 1) hx hb dX0_passHour_45 (by decide) ?_
      refine lv_iadd hx hb dX0_passHour_46 ?_
      refine lv_topi (fun y_17 ey_17 => ?_)
      replace ey_17 : y_17 = (ho_ B) + 1 := ey_17
      refine va_put (ci := 0) (ty := .int) (C := RX0) (T := TX0) (N := 11) hx hb hts hinX0 tyX0 tyX0_ok nmX0 hown hK.1 hP hD hS 0 rfl rfl 9 (by decide) (hts _ (List.mem_of_getElem? (i := 1) rfl)) (fun _ h9 => h9) rfl (by decide +kernel) (rfl) (rfl) (Nat.le_of_ble_eq_true rfl) dX0_passHour_47 (fun H locs hP hD hS => ?_)
      replace hP : va_P D vwCl (bW cI g i0 (mkB (kd_ B) (fg_ B) (pl_ B) (sp_ B (sn_ B)) (jy_ B) (qt_ B) (sn_ B) y_16 (pa_ B) y_17 (dy_ B))) H := hP
      replace hD : va_D A (bW cI g i0 (mkB (kd_ B) (fg_ B) (pl_ B) (sp_ B (sn_ B)) (jy_ B) (qt_ B) (sn_ B) y_16 (pa_ B) y_17 (dy_ B))) := hD
      refine lv_aload_n hx hb dX0_passHour_50 rfl (lv_at hl 1 rfl) ?_
      refine va_get (ci := 0) (C := RX0) (T := TX0) (N := 11) hx hb hts hinX0 hown hK.1 hP 0 rfl rfl 9 (by decide) (hts _ (List.mem_of_getElem? (i := 1) rfl)) (fun _ h9 => h9) rfl dX0_passHour_51 ?_
      refine lv_bipush (v := 23) hx hb dX0_passHour_54 (by decide) ?_
      refine lv_icmp_le (tgt := 74) hx hb dX0_passHour_56 (by decide) (fun c_56 => ?_) (fun c_56 => ?_)
      · have d_56 := Int32.not_lt.mpr c_56
        refine lv_aload_n hx hb dX0_passHour_74 rfl (lv_at hl 1 rfl) ?_
        refine kSiV hx hb hml hown hts hK hP gX0_passHour_X0_owner okX0_owner (qX0_owner l D cI cB g i0 (mkB (kd_ B) (fg_ B) (pl_ B) (sp_ B (sn_ B)) (jy_ B) (qt_ B) (sn_ B) y_16 (pa_ B) y_17 (dy_ B)) (by show sn_ B ≤ 7; omega)) [0, 1, 2, 3, 4, 5] rfl rfl rfl rfl (by decide) hl.1 rfl rfl (Nat.le_of_ble_eq_true rfl) dX0_passHour_75 (by decide) (fun r_18 hr_19 => ?_)
        replace hr_19 : r_18 = oI_ (ow_ (mkB (kd_ B) (fg_ B) (pl_ B) (sp_ B (sn_ B)) (jy_ B) (qt_ B) (sn_ B) y_16 (pa_ B) y_17 (dy_ B))) := hr_19
        subst r_18
        refine lv_istore_n (lv' := [(3, .int (oI_ (ow_ (mkB (kd_ B) (fg_ B) (pl_ B) (sp_ B (sn_ B)) (jy_ B) (qt_ B) (sn_ B) y_16 (pa_ B) y_17 (dy_ B))))), (2, .int (nI t)), (0, .ref (g i0)), (1, .int (b1 z))]) hx hb dX0_passHour_78 rfl hl (by decide) rfl (fun ls hl => ?_)
        rcases hO : ow_ (mkB (kd_ B) (fg_ B) (pl_ B) (sp_ B (sn_ B)) (jy_ B) (qt_ B) (sn_ B) y_16 (pa_ B) y_17 (dy_ B)) with _ | u2
        · rw [hO] at hl
          replace hl : lv_has ls 4 [(3, .int (-9)), (2, .int (nI t)), (0, .ref (g i0)), (1, .int (b1 z))] := hl
          refine lv_iload_n hx hb dX0_passHour_79 rfl (lv_at hl 0 rfl) ?_
          refine lv_bipush (v := (-9)) hx hb dX0_passHour_80 (by decide) ?_
          refine lv_icmp_eq (tgt := 105) hx hb dX0_passHour_82 (by decide) (fun _ => ?_) (fun q => absurd q (by decide))
          (try rw [ey_17] at hP); (try rw [ey_17] at hD); (try rw [ey_17] at hl); (try rw [ey_17] at hL); (try rw [ey_17] at c_21); (try rw [ey_17] at c_56); (try rw [ey_17] at d_56); (try rw [ey_17] at hO); (try rw [ey_17])
          (try rw [ey_16] at hP); (try rw [ey_16] at hD); (try rw [ey_16] at hl); (try rw [ey_16] at hL); (try rw [ey_16] at c_21); (try rw [ey_16] at c_56); (try rw [ey_16] at d_56); (try rw [ey_16] at hO); (try rw [ey_16])
          refine rMv hx hb hr hlk hS (mkB (kd_ B) (fg_ B) (pl_ B) (sp_ B (sn_ B)) (jy_ B) (qt_ B) (sn_ B) (tw_ B t) (pa_ B) ((ho_ B) + 1) (dy_ B)) hP ?_ dX0_passHour_105
          have hO2 : at_ (pl_ B) (tw_ B t) (sn_ B) 0 = none := hO
          exact hb_fin (z := z) (i2 := (tw_ B t)) (h2 := ((ho_ B) + 1)) (d2 := (dy_ B)) (j2 := (jy_ B)) hL (Or.inr ⟨t, rfl, Or.inr ⟨by assumption, rfl⟩⟩) hO2 (Or.inl ⟨rfl, rfl⟩) (Or.inr ⟨by first | assumption | exact Int32.not_lt.mpr (by assumption), rfl, rfl⟩)
        · rw [hO] at hl
          replace hl : lv_has ls 4 [(3, .int (nI u2)), (2, .int (nI t)), (0, .ref (g i0)), (1, .int (b1 z))] := hl
          have hu : u2 < sn_ B := (sa_lt hO).1
          refine lv_iload_n hx hb dX0_passHour_79 rfl (lv_at hl 0 rfl) ?_
          refine lv_bipush (v := (-9)) hx hb dX0_passHour_80 (by decide) ?_
          refine lv_icmp_eq (tgt := 105) hx hb dX0_passHour_82 (by decide) (fun q => absurd q (nI_m9 (by omega))) (fun _ => ?_)
          refine lv_aload_n hx hb dX0_passHour_85 rfl (lv_at hl 2 rfl) ?_
          refine va_get (ci := 0) (C := RX0) (T := TX0) (N := 11) hx hb hts hinX0 hown hK.1 hP 0 rfl rfl 4 (by decide) (hts _ (List.mem_of_getElem? (i := 4) rfl)) (fun _ h9 => h9) rfl dX0_passHour_86 ?_
          refine lv_iload_n hx hb dX0_passHour_89 rfl (lv_at hl 0 rfl) ?_
          refine lv_sipush (v := 999) hx hb dX0_passHour_90 (by decide) ?_
          refine lv_aload_n hx hb dX0_passHour_93 rfl (lv_at hl 2 rfl) ?_
          refine va_get (ci := 0) (C := RX0) (T := TX0) (N := 11) hx hb hts hinX0 hown hK.1 hP 0 rfl rfl 4 (by decide) (hts _ (List.mem_of_getElem? (i := 4) rfl)) (fun _ h9 => h9) rfl dX0_passHour_94 ?_
          refine lv_iload_n hx hb dX0_passHour_97 rfl (lv_at hl 0 rfl) ?_
          refine jald hx hb hK.1 hP 5 0 u2 rfl rfl rfl (by omega) (Nat.le_of_ble_eq_true rfl) dX0_passHour_98 ?_
          refine lv_iconst (v := 1) hx hb dX0_passHour_99 (by decide) ?_
          refine lv_iadd hx hb dX0_passHour_100 ?_
          refine va_mmin hx hb (hml.trans hl.1.symm) hown (hts _ (List.mem_of_getElem? (i := 5) rfl)) (hts _ (List.mem_of_getElem? (i := 6) rfl)) (hts _ (List.mem_of_getElem? (i := 7) rfl)) (hts _ (List.mem_of_getElem? (i := 8) rfl)) (by decide) (Nat.le_of_ble_eq_true rfl) (by decide) (by decide) dX0_passHour_101 ?_
          refine jast hx hb hK.1 hP hD hS 5 0 u2 rfl rfl rfl (by omega) (Nat.le_of_ble_eq_true rfl) dX0_passHour_104 (fun f_20 ef_20 H locs hP hD hS => ?_)
          replace ef_20 : f_20 = upd (jy_ B) u2 (if (((jy_ B) u2) + 1) < 999 then (((jy_ B) u2) + 1) else 999) := ef_20
          replace hP : va_P D vwCl (bW cI g i0 (mkB (kd_ B) (fg_ B) (pl_ B) (sp_ B (sn_ B)) f_20 (qt_ B) (sn_ B) y_16 (pa_ B) y_17 (dy_ B))) H := hP
          replace hD : va_D A (bW cI g i0 (mkB (kd_ B) (fg_ B) (pl_ B) (sp_ B (sn_ B)) f_20 (qt_ B) (sn_ B) y_16 (pa_ B) y_17 (dy_ B))) := hD
          (try rw [ef_20] at hP); (try rw [ef_20] at hD); (try rw [ef_20] at hl); (try rw [ef_20] at hL); (try rw [ef_20] at c_21); (try rw [ef_20] at c_56); (try rw [ef_20] at d_56); (try rw [ef_20] at hO); (try rw [ef_20])
          (try rw [ey_17] at hP); (try rw [ey_17] at hD); (try rw [ey_17] at hl); (try rw [ey_17] at hL); (try rw [ey_17] at c_21); (try rw [ey_17] at c_56); (try rw [ey_17] at d_56); (try rw [ey_17] at hO); (try rw [ey_17])
          (try rw [ey_16] at hP); (try rw [ey_16] at hD); (try rw [ey_16] at hl); (try rw [ey_16] at hL); (try rw [ey_16] at c_21); (try rw [ey_16] at c_56); (try rw [ey_16] at d_56); (try rw [ey_16] at hO); (try rw [ey_16])
          refine rMv hx hb hr hlk hS (mkB (kd_ B) (fg_ B) (pl_ B) (sp_ B (sn_ B)) (upd (jy_ B) u2 (if (((jy_ B) u2) + 1) < 999 then (((jy_ B) u2) + 1) else 999)) (qt_ B) (sn_ B) (tw_ B t) (pa_ B) ((ho_ B) + 1) (dy_ B)) hP ?_ dX0_passHour_105
          have hO2 : at_ (pl_ B) (tw_ B t) (sn_ B) 0 = some u2 := hO
          exact hb_fin (z := z) (i2 := (tw_ B t)) (h2 := ((ho_ B) + 1)) (d2 := (dy_ B)) (j2 := (upd (jy_ B) u2 (if (((jy_ B) u2) + 1) < 999 then (((jy_ B) u2) + 1) else 999))) hL (Or.inr ⟨t, rfl, Or.inr ⟨by assumption, rfl⟩⟩) hO2 (Or.inr ⟨u2, rfl, by unfold jo_; rfl⟩) (Or.inr ⟨by first | assumption | exact Int32.not_lt.mpr (by assumption), rfl, rfl⟩)
      · have d_56 := Int32.not_le.mp c_56
        refine lv_aload_n hx hb dX0_passHour_59 rfl (lv_at hl 1 rfl) ?_
        refine lv_iconst (v := 0) hx hb dX0_passHour_60 (by decide) ?_
        refine va_put (ci := 0) (ty := .int) (C := RX0) (T := TX0) (N := 11) hx hb hts hinX0 tyX0 tyX0_ok nmX0 hown hK.1 hP hD hS 0 rfl rfl 9 (by decide) (hts _ (List.mem_of_getElem? (i := 1) rfl)) (fun _ h9 => h9) rfl (by decide +kernel) (rfl) (rfl) (Nat.le_of_ble_eq_true rfl) dX0_passHour_61 (fun H locs hP hD hS => ?_)
        replace hP : va_P D vwCl (bW cI g i0 (mkB (kd_ B) (fg_ B) (pl_ B) (sp_ B (sn_ B)) (jy_ B) (qt_ B) (sn_ B) y_16 (pa_ B) 0 (dy_ B))) H := hP
        replace hD : va_D A (bW cI g i0 (mkB (kd_ B) (fg_ B) (pl_ B) (sp_ B (sn_ B)) (jy_ B) (qt_ B) (sn_ B) y_16 (pa_ B) 0 (dy_ B))) := hD
        refine lv_aload_n hx hb dX0_passHour_64 rfl (lv_at hl 1 rfl) ?_
        refine lv_dup hx hb dX0_passHour_65 rfl ?_
        refine va_get (ci := 0) (C := RX0) (T := TX0) (N := 11) hx hb hts hinX0 hown hK.1 hP 0 rfl rfl 10 (by decide) (hts _ (List.mem_of_getElem? (i := 3) rfl)) (fun _ h9 => h9) rfl dX0_passHour_66 ?_
        refine lv_iconst (v := 1) hx hb dX0_passHour_69 (by decide) ?_
        refine lv_iadd hx hb dX0_passHour_70 ?_
        refine lv_topi (fun y_21 ey_21 => ?_)
        replace ey_21 : y_21 = (dy_ B) + 1 := ey_21
        refine va_put (ci := 0) (ty := .int) (C := RX0) (T := TX0) (N := 11) hx hb hts hinX0 tyX0 tyX0_ok nmX0 hown hK.1 hP hD hS 0 rfl rfl 10 (by decide) (hts _ (List.mem_of_getElem? (i := 3) rfl)) (fun _ h9 => h9) rfl (by decide +kernel) (rfl) (rfl) (Nat.le_of_ble_eq_true rfl) dX0_passHour_71 (fun H locs hP hD hS => ?_)
        replace hP : va_P D vwCl (bW cI g i0 (mkB (kd_ B) (fg_ B) (pl_ B) (sp_ B (sn_ B)) (jy_ B) (qt_ B) (sn_ B) y_16 (pa_ B) 0 y_21)) H := hP
        replace hD : va_D A (bW cI g i0 (mkB (kd_ B) (fg_ B) (pl_ B) (sp_ B (sn_ B)) (jy_ B) (qt_ B) (sn_ B) y_16 (pa_ B) 0 y_21)) := hD
        refine lv_aload_n hx hb dX0_passHour_74 rfl (lv_at hl 1 rfl) ?_
        refine kSiV hx hb hml hown hts hK hP gX0_passHour_X0_owner okX0_owner (qX0_owner l D cI cB g i0 (mkB (kd_ B) (fg_ B) (pl_ B) (sp_ B (sn_ B)) (jy_ B) (qt_ B) (sn_ B) y_16 (pa_ B) 0 y_21) (by show sn_ B ≤ 7; omega)) [0, 1, 2, 3, 4, 5] rfl rfl rfl rfl (by decide) hl.1 rfl rfl (Nat.le_of_ble_eq_true rfl) dX0_passHour_75 (by decide) (fun r_22 hr_23 => ?_)
        replace hr_23 : r_22 = oI_ (ow_ (mkB (kd_ B) (fg_ B) (pl_ B) (sp_ B (sn_ B)) (jy_ B) (qt_ B) (sn_ B) y_16 (pa_ B) 0 y_21)) := hr_23
        subst r_22
        refine lv_istore_n (lv' := [(3, .int (oI_ (ow_ (mkB (kd_ B) (fg_ B) (pl_ B) (sp_ B (sn_ B)) (jy_ B) (qt_ B) (sn_ B) y_16 (pa_ B) 0 y_21)))), (2, .int (nI t)), (0, .ref (g i0)), (1, .int (b1 z))]) hx hb dX0_passHour_78 rfl hl (by decide) rfl (fun ls hl => ?_)
        rcases hO : ow_ (mkB (kd_ B) (fg_ B) (pl_ B) (sp_ B (sn_ B)) (jy_ B) (qt_ B) (sn_ B) y_16 (pa_ B) 0 y_21) with _ | u2
        · rw [hO] at hl
          replace hl : lv_has ls 4 [(3, .int (-9)), (2, .int (nI t)), (0, .ref (g i0)), (1, .int (b1 z))] := hl
          refine lv_iload_n hx hb dX0_passHour_79 rfl (lv_at hl 0 rfl) ?_
          refine lv_bipush (v := (-9)) hx hb dX0_passHour_80 (by decide) ?_
          refine lv_icmp_eq (tgt := 105) hx hb dX0_passHour_82 (by decide) (fun _ => ?_) (fun q => absurd q (by decide))
          (try rw [ey_21] at hP); (try rw [ey_21] at hD); (try rw [ey_21] at hl); (try rw [ey_21] at hL); (try rw [ey_21] at c_21); (try rw [ey_21] at c_56); (try rw [ey_21] at d_56); (try rw [ey_21] at hO); (try rw [ey_21])
          (try rw [ey_17] at hP); (try rw [ey_17] at hD); (try rw [ey_17] at hl); (try rw [ey_17] at hL); (try rw [ey_17] at c_21); (try rw [ey_17] at c_56); (try rw [ey_17] at d_56); (try rw [ey_17] at hO); (try rw [ey_17])
          (try rw [ey_16] at hP); (try rw [ey_16] at hD); (try rw [ey_16] at hl); (try rw [ey_16] at hL); (try rw [ey_16] at c_21); (try rw [ey_16] at c_56); (try rw [ey_16] at d_56); (try rw [ey_16] at hO); (try rw [ey_16])
          refine rMv hx hb hr hlk hS (mkB (kd_ B) (fg_ B) (pl_ B) (sp_ B (sn_ B)) (jy_ B) (qt_ B) (sn_ B) (tw_ B t) (pa_ B) 0 ((dy_ B) + 1)) hP ?_ dX0_passHour_105
          have hO2 : at_ (pl_ B) (tw_ B t) (sn_ B) 0 = none := hO
          exact hb_fin (z := z) (i2 := (tw_ B t)) (h2 := 0) (d2 := ((dy_ B) + 1)) (j2 := (jy_ B)) hL (Or.inr ⟨t, rfl, Or.inr ⟨by assumption, rfl⟩⟩) hO2 (Or.inl ⟨rfl, rfl⟩) (Or.inl ⟨by first | assumption | exact Int32.not_le.mp (by assumption), rfl, rfl⟩)
        · rw [hO] at hl
          replace hl : lv_has ls 4 [(3, .int (nI u2)), (2, .int (nI t)), (0, .ref (g i0)), (1, .int (b1 z))] := hl
          have hu : u2 < sn_ B := (sa_lt hO).1
          refine lv_iload_n hx hb dX0_passHour_79 rfl (lv_at hl 0 rfl) ?_
          refine lv_bipush (v := (-9)) hx hb dX0_passHour_80 (by decide) ?_
          refine lv_icmp_eq (tgt := 105) hx hb dX0_passHour_82 (by decide) (fun q => absurd q (nI_m9 (by omega))) (fun _ => ?_)
          refine lv_aload_n hx hb dX0_passHour_85 rfl (lv_at hl 2 rfl) ?_
          refine va_get (ci := 0) (C := RX0) (T := TX0) (N := 11) hx hb hts hinX0 hown hK.1 hP 0 rfl rfl 4 (by decide) (hts _ (List.mem_of_getElem? (i := 4) rfl)) (fun _ h9 => h9) rfl dX0_passHour_86 ?_
          refine lv_iload_n hx hb dX0_passHour_89 rfl (lv_at hl 0 rfl) ?_
          refine lv_sipush (v := 999) hx hb dX0_passHour_90 (by decide) ?_
          refine lv_aload_n hx hb dX0_passHour_93 rfl (lv_at hl 2 rfl) ?_
          refine va_get (ci := 0) (C := RX0) (T := TX0) (N := 11) hx hb hts hinX0 hown hK.1 hP 0 rfl rfl 4 (by decide) (hts _ (List.mem_of_getElem? (i := 4) rfl)) (fun _ h9 => h9) rfl dX0_passHour_94 ?_
          refine lv_iload_n hx hb dX0_passHour_97 rfl (lv_at hl 0 rfl) ?_
          refine jald hx hb hK.1 hP 5 0 u2 rfl rfl rfl (by omega) (Nat.le_of_ble_eq_true rfl) dX0_passHour_98 ?_
          refine lv_iconst (v := 1) hx hb dX0_passHour_99 (by decide) ?_
          refine lv_iadd hx hb dX0_passHour_100 ?_
          refine va_mmin hx hb (hml.trans hl.1.symm) hown (hts _ (List.mem_of_getElem? (i := 5) rfl)) (hts _ (List.mem_of_getElem? (i := 6) rfl)) (hts _ (List.mem_of_getElem? (i := 7) rfl)) (hts _ (List.mem_of_getElem? (i := 8) rfl)) (by decide) (Nat.le_of_ble_eq_true rfl) (by decide) (by decide) dX0_passHour_101 ?_
          refine jast hx hb hK.1 hP hD hS 5 0 u2 rfl rfl rfl (by omega) (Nat.le_of_ble_eq_true rfl) dX0_passHour_104 (fun f_24 ef_24 H locs hP hD hS => ?_)
          replace ef_24 : f_24 = upd (jy_ B) u2 (if (((jy_ B) u2) + 1) < 999 then (((jy_ B) u2) + 1) else 999) := ef_24
          replace hP : va_P D vwCl (bW cI g i0 (mkB (kd_ B) (fg_ B) (pl_ B) (sp_ B (sn_ B)) f_24 (qt_ B) (sn_ B) y_16 (pa_ B) 0 y_21)) H := hP
          replace hD : va_D A (bW cI g i0 (mkB (kd_ B) (fg_ B) (pl_ B) (sp_ B (sn_ B)) f_24 (qt_ B) (sn_ B) y_16 (pa_ B) 0 y_21)) := hD
          (try rw [ef_24] at hP); (try rw [ef_24] at hD); (try rw [ef_24] at hl); (try rw [ef_24] at hL); (try rw [ef_24] at c_21); (try rw [ef_24] at c_56); (try rw [ef_24] at d_56); (try rw [ef_24] at hO); (try rw [ef_24])
          (try rw [ey_21] at hP); (try rw [ey_21] at hD); (try rw [ey_21] at hl); (try rw [ey_21] at hL); (try rw [ey_21] at c_21); (try rw [ey_21] at c_56); (try rw [ey_21] at d_56); (try rw [ey_21] at hO); (try rw [ey_21])
          (try rw [ey_17] at hP); (try rw [ey_17] at hD); (try rw [ey_17] at hl); (try rw [ey_17] at hL); (try rw [ey_17] at c_21); (try rw [ey_17] at c_56); (try rw [ey_17] at d_56); (try rw [ey_17] at hO); (try rw [ey_17])
          (try rw [ey_16] at hP); (try rw [ey_16] at hD); (try rw [ey_16] at hl); (try rw [ey_16] at hL); (try rw [ey_16] at c_21); (try rw [ey_16] at c_56); (try rw [ey_16] at d_56); (try rw [ey_16] at hO); (try rw [ey_16])
          refine rMv hx hb hr hlk hS (mkB (kd_ B) (fg_ B) (pl_ B) (sp_ B (sn_ B)) (upd (jy_ B) u2 (if (((jy_ B) u2) + 1) < 999 then (((jy_ B) u2) + 1) else 999)) (qt_ B) (sn_ B) (tw_ B t) (pa_ B) 0 ((dy_ B) + 1)) hP ?_ dX0_passHour_105
          have hO2 : at_ (pl_ B) (tw_ B t) (sn_ B) 0 = some u2 := hO
          exact hb_fin (z := z) (i2 := (tw_ B t)) (h2 := 0) (d2 := ((dy_ B) + 1)) (j2 := (upd (jy_ B) u2 (if (((jy_ B) u2) + 1) < 999 then (((jy_ B) u2) + 1) else 999))) hL (Or.inr ⟨t, rfl, Or.inr ⟨by assumption, rfl⟩⟩) hO2 (Or.inr ⟨u2, rfl, by unfold jo_; rfl⟩) (Or.inl ⟨by first | assumption | exact Int32.not_le.mp (by assumption), rfl, rfl⟩)
    · replace c_21 := b1_n c_21
      refine lv_aload_n hx hb dX0_passHour_24 rfl (lv_at hl 1 rfl) ?_
      refine lv_iload_n hx hb dX0_passHour_25 rfl (lv_at hl 0 rfl) ?_
      refine kSiV hx hb hml hown hts hK hP gX0_passHour_X0_placeAwayFrom okX0_placeAwayFrom (qX0_placeAwayFrom l D cI cB g i0 (us_ B (sn_ B)) t (by show sn_ B ≤ 7; omega) (by omega)) [0, 1, 2, 3, 4, 5] rfl rfl rfl rfl (by decide) hl.1 rfl rfl (Nat.le_of_ble_eq_true rfl) dX0_passHour_26 (by decide) (fun r_25 hr_26 => ?_)
      replace hr_26 : r_25 = aw_ B t := hr_26
      subst r_25
      refine lv_goto (tgt := 37) hx hb dX0_passHour_29 (by decide) ?_
      refine lv_topi (fun y_27 ey_27 => ?_)
      replace ey_27 : y_27 = aw_ B t := ey_27
      refine va_put (ci := 0) (ty := .int) (C := RX0) (T := TX0) (N := 11) hx hb hts hinX0 tyX0 tyX0_ok nmX0 hown hK.1 hP hD hS 0 rfl rfl 7 (by decide) (hts _ (List.mem_of_getElem? (i := 2) rfl)) (fun _ h9 => h9) rfl (by decide +kernel) (rfl) (rfl) (Nat.le_of_ble_eq_true rfl) dX0_passHour_37 (fun H locs hP hD hS => ?_)
      replace hP : va_P D vwCl (bW cI g i0 (mkB (kd_ B) (fg_ B) (pl_ B) (sp_ B (sn_ B)) (jy_ B) (qt_ B) (sn_ B) y_27 (pa_ B) (ho_ B) (dy_ B))) H := hP
      replace hD : va_D A (bW cI g i0 (mkB (kd_ B) (fg_ B) (pl_ B) (sp_ B (sn_ B)) (jy_ B) (qt_ B) (sn_ B) y_27 (pa_ B) (ho_ B) (dy_ B))) := hD
      refine lv_aload_n hx hb dX0_passHour_40 rfl (lv_at hl 1 rfl) ?_
      refine lv_dup hx hb dX0_passHour_41 rfl ?_
      refine va_get (ci := 0) (C := RX0) (T := TX0) (N := 11) hx hb hts hinX0 hown hK.1 hP 0 rfl rfl 9 (by decide) (hts _ (List.mem_of_getElem? (i := 1) rfl)) (fun _ h9 => h9) rfl dX0_passHour_42 ?_
      refine lv_iconst (v := 1) hx hb dX0_passHour_45 (by decide) ?_
      refine lv_iadd hx hb dX0_passHour_46 ?_
      refine lv_topi (fun y_28 ey_28 => ?_)
      replace ey_28 : y_28 = (ho_ B) + 1 := ey_28
      refine va_put (ci := 0) (ty := .int) (C := RX0) (T := TX0) (N := 11) hx hb hts hinX0 tyX0 tyX0_ok nmX0 hown hK.1 hP hD hS 0 rfl rfl 9 (by decide) (hts _ (List.mem_of_getElem? (i := 1) rfl)) (fun _ h9 => h9) rfl (by decide +kernel) (rfl) (rfl) (Nat.le_of_ble_eq_true rfl) dX0_passHour_47 (fun H locs hP hD hS => ?_)
      replace hP : va_P D vwCl (bW cI g i0 (mkB (kd_ B) (fg_ B) (pl_ B) (sp_ B (sn_ B)) (jy_ B) (qt_ B) (sn_ B) y_27 (pa_ B) y_28 (dy_ B))) H := hP
      replace hD : va_D A (bW cI g i0 (mkB (kd_ B) (fg_ B) (pl_ B) (sp_ B (sn_ B)) (jy_ B) (qt_ B) (sn_ B) y_27 (pa_ B) y_28 (dy_ B))) := hD
      refine lv_aload_n hx hb dX0_passHour_50 rfl (lv_at hl 1 rfl) ?_
      refine va_get (ci := 0) (C := RX0) (T := TX0) (N := 11) hx hb hts hinX0 hown hK.1 hP 0 rfl rfl 9 (by decide) (hts _ (List.mem_of_getElem? (i := 1) rfl)) (fun _ h9 => h9) rfl dX0_passHour_51 ?_
      refine lv_bipush (v := 23) hx hb dX0_passHour_54 (by decide) ?_
      refine lv_icmp_le (tgt := 74) hx hb dX0_passHour_56 (by decide) (fun c_56 => ?_) (fun c_56 => ?_)
      · have d_56 := Int32.not_lt.mpr c_56
        refine lv_aload_n hx hb dX0_passHour_74 rfl (lv_at hl 1 rfl) ?_
        refine kSiV hx hb hml hown hts hK hP gX0_passHour_X0_owner okX0_owner (qX0_owner l D cI cB g i0 (mkB (kd_ B) (fg_ B) (pl_ B) (sp_ B (sn_ B)) (jy_ B) (qt_ B) (sn_ B) y_27 (pa_ B) y_28 (dy_ B)) (by show sn_ B ≤ 7; omega)) [0, 1, 2, 3, 4, 5] rfl rfl rfl rfl (by decide) hl.1 rfl rfl (Nat.le_of_ble_eq_true rfl) dX0_passHour_75 (by decide) (fun r_29 hr_30 => ?_)
        replace hr_30 : r_29 = oI_ (ow_ (mkB (kd_ B) (fg_ B) (pl_ B) (sp_ B (sn_ B)) (jy_ B) (qt_ B) (sn_ B) y_27 (pa_ B) y_28 (dy_ B))) := hr_30
        subst r_29
        refine lv_istore_n (lv' := [(3, .int (oI_ (ow_ (mkB (kd_ B) (fg_ B) (pl_ B) (sp_ B (sn_ B)) (jy_ B) (qt_ B) (sn_ B) y_27 (pa_ B) y_28 (dy_ B))))), (2, .int (nI t)), (0, .ref (g i0)), (1, .int (b1 z))]) hx hb dX0_passHour_78 rfl hl (by decide) rfl (fun ls hl => ?_)
        rcases hO : ow_ (mkB (kd_ B) (fg_ B) (pl_ B) (sp_ B (sn_ B)) (jy_ B) (qt_ B) (sn_ B) y_27 (pa_ B) y_28 (dy_ B)) with _ | u2
        · rw [hO] at hl
          replace hl : lv_has ls 4 [(3, .int (-9)), (2, .int (nI t)), (0, .ref (g i0)), (1, .int (b1 z))] := hl
          refine lv_iload_n hx hb dX0_passHour_79 rfl (lv_at hl 0 rfl) ?_
          refine lv_bipush (v := (-9)) hx hb dX0_passHour_80 (by decide) ?_
          refine lv_icmp_eq (tgt := 105) hx hb dX0_passHour_82 (by decide) (fun _ => ?_) (fun q => absurd q (by decide))
          (try rw [ey_28] at hP); (try rw [ey_28] at hD); (try rw [ey_28] at hl); (try rw [ey_28] at hL); (try rw [ey_28] at c_21); (try rw [ey_28] at c_56); (try rw [ey_28] at d_56); (try rw [ey_28] at hO); (try rw [ey_28])
          (try rw [ey_27] at hP); (try rw [ey_27] at hD); (try rw [ey_27] at hl); (try rw [ey_27] at hL); (try rw [ey_27] at c_21); (try rw [ey_27] at c_56); (try rw [ey_27] at d_56); (try rw [ey_27] at hO); (try rw [ey_27])
          refine rMv hx hb hr hlk hS (mkB (kd_ B) (fg_ B) (pl_ B) (sp_ B (sn_ B)) (jy_ B) (qt_ B) (sn_ B) (aw_ B t) (pa_ B) ((ho_ B) + 1) (dy_ B)) hP ?_ dX0_passHour_105
          have hO2 : at_ (pl_ B) (aw_ B t) (sn_ B) 0 = none := hO
          exact hb_fin (z := z) (i2 := (aw_ B t)) (h2 := ((ho_ B) + 1)) (d2 := (dy_ B)) (j2 := (jy_ B)) hL (Or.inr ⟨t, rfl, Or.inl ⟨by assumption, rfl⟩⟩) hO2 (Or.inl ⟨rfl, rfl⟩) (Or.inr ⟨by first | assumption | exact Int32.not_lt.mpr (by assumption), rfl, rfl⟩)
        · rw [hO] at hl
          replace hl : lv_has ls 4 [(3, .int (nI u2)), (2, .int (nI t)), (0, .ref (g i0)), (1, .int (b1 z))] := hl
          have hu : u2 < sn_ B := (sa_lt hO).1
          refine lv_iload_n hx hb dX0_passHour_79 rfl (lv_at hl 0 rfl) ?_
          refine lv_bipush (v := (-9)) hx hb dX0_passHour_80 (by decide) ?_
          refine lv_icmp_eq (tgt := 105) hx hb dX0_passHour_82 (by decide) (fun q => absurd q (nI_m9 (by omega))) (fun _ => ?_)
          refine lv_aload_n hx hb dX0_passHour_85 rfl (lv_at hl 2 rfl) ?_
          refine va_get (ci := 0) (C := RX0) (T := TX0) (N := 11) hx hb hts hinX0 hown hK.1 hP 0 rfl rfl 4 (by decide) (hts _ (List.mem_of_getElem? (i := 4) rfl)) (fun _ h9 => h9) rfl dX0_passHour_86 ?_
          refine lv_iload_n hx hb dX0_passHour_89 rfl (lv_at hl 0 rfl) ?_
          refine lv_sipush (v := 999) hx hb dX0_passHour_90 (by decide) ?_
          refine lv_aload_n hx hb dX0_passHour_93 rfl (lv_at hl 2 rfl) ?_
          refine va_get (ci := 0) (C := RX0) (T := TX0) (N := 11) hx hb hts hinX0 hown hK.1 hP 0 rfl rfl 4 (by decide) (hts _ (List.mem_of_getElem? (i := 4) rfl)) (fun _ h9 => h9) rfl dX0_passHour_94 ?_
          refine lv_iload_n hx hb dX0_passHour_97 rfl (lv_at hl 0 rfl) ?_
          refine jald hx hb hK.1 hP 5 0 u2 rfl rfl rfl (by omega) (Nat.le_of_ble_eq_true rfl) dX0_passHour_98 ?_
          refine lv_iconst (v := 1) hx hb dX0_passHour_99 (by decide) ?_
          refine lv_iadd hx hb dX0_passHour_100 ?_
          refine va_mmin hx hb (hml.trans hl.1.symm) hown (hts _ (List.mem_of_getElem? (i := 5) rfl)) (hts _ (List.mem_of_getElem? (i := 6) rfl)) (hts _ (List.mem_of_getElem? (i := 7) rfl)) (hts _ (List.mem_of_getElem? (i := 8) rfl)) (by decide) (Nat.le_of_ble_eq_true rfl) (by decide) (by decide) dX0_passHour_101 ?_
          refine jast hx hb hK.1 hP hD hS 5 0 u2 rfl rfl rfl (by omega) (Nat.le_of_ble_eq_true rfl) dX0_passHour_104 (fun f_31 ef_31 H locs hP hD hS => ?_)
          replace ef_31 : f_31 = upd (jy_ B) u2 (if (((jy_ B) u2) + 1) < 999 then (((jy_ B) u2) + 1) else 999) := ef_31
          replace hP : va_P D vwCl (bW cI g i0 (mkB (kd_ B) (fg_ B) (pl_ B) (sp_ B (sn_ B)) f_31 (qt_ B) (sn_ B) y_27 (pa_ B) y_28 (dy_ B))) H := hP
          replace hD : va_D A (bW cI g i0 (mkB (kd_ B) (fg_ B) (pl_ B) (sp_ B (sn_ B)) f_31 (qt_ B) (sn_ B) y_27 (pa_ B) y_28 (dy_ B))) := hD
          (try rw [ef_31] at hP); (try rw [ef_31] at hD); (try rw [ef_31] at hl); (try rw [ef_31] at hL); (try rw [ef_31] at c_21); (try rw [ef_31] at c_56); (try rw [ef_31] at d_56); (try rw [ef_31] at hO); (try rw [ef_31])
          (try rw [ey_28] at hP); (try rw [ey_28] at hD); (try rw [ey_28] at hl); (try rw [ey_28] at hL); (try rw [ey_28] at c_21); (try rw [ey_28] at c_56); (try rw [ey_28] at d_56); (try rw [ey_28] at hO); (try rw [ey_28])
          (try rw [ey_27] at hP); (try rw [ey_27] at hD); (try rw [ey_27] at hl); (try rw [ey_27] at hL); (try rw [ey_27] at c_21); (try rw [ey_27] at c_56); (try rw [ey_27] at d_56); (try rw [ey_27] at hO); (try rw [ey_27])
          refine rMv hx hb hr hlk hS (mkB (kd_ B) (fg_ B) (pl_ B) (sp_ B (sn_ B)) (upd (jy_ B) u2 (if (((jy_ B) u2) + 1) < 999 then (((jy_ B) u2) + 1) else 999)) (qt_ B) (sn_ B) (aw_ B t) (pa_ B) ((ho_ B) + 1) (dy_ B)) hP ?_ dX0_passHour_105
          have hO2 : at_ (pl_ B) (aw_ B t) (sn_ B) 0 = some u2 := hO
          exact hb_fin (z := z) (i2 := (aw_ B t)) (h2 := ((ho_ B) + 1)) (d2 := (dy_ B)) (j2 := (upd (jy_ B) u2 (if (((jy_ B) u2) + 1) < 999 then (((jy_ B) u2) + 1) else 999))) hL (Or.inr ⟨t, rfl, Or.inl ⟨by assumption, rfl⟩⟩) hO2 (Or.inr ⟨u2, rfl, by unfold jo_; rfl⟩) (Or.inr ⟨by first | assumption | exact Int32.not_lt.mpr (by assumption), rfl, rfl⟩)
      · have d_56 := Int32.not_le.mp c_56
        refine lv_aload_n hx hb dX0_passHour_59 rfl (lv_at hl 1 rfl) ?_
        refine lv_iconst (v := 0) hx hb dX0_passHour_60 (by decide) ?_
        refine va_put (ci := 0) (ty := .int) (C := RX0) (T := TX0) (N := 11) hx hb hts hinX0 tyX0 tyX0_ok nmX0 hown hK.1 hP hD hS 0 rfl rfl 9 (by decide) (hts _ (List.mem_of_getElem? (i := 1) rfl)) (fun _ h9 => h9) rfl (by decide +kernel) (rfl) (rfl) (Nat.le_of_ble_eq_true rfl) dX0_passHour_61 (fun H locs hP hD hS => ?_)
        replace hP : va_P D vwCl (bW cI g i0 (mkB (kd_ B) (fg_ B) (pl_ B) (sp_ B (sn_ B)) (jy_ B) (qt_ B) (sn_ B) y_27 (pa_ B) 0 (dy_ B))) H := hP
        replace hD : va_D A (bW cI g i0 (mkB (kd_ B) (fg_ B) (pl_ B) (sp_ B (sn_ B)) (jy_ B) (qt_ B) (sn_ B) y_27 (pa_ B) 0 (dy_ B))) := hD
        refine lv_aload_n hx hb dX0_passHour_64 rfl (lv_at hl 1 rfl) ?_
        refine lv_dup hx hb dX0_passHour_65 rfl ?_
        refine va_get (ci := 0) (C := RX0) (T := TX0) (N := 11) hx hb hts hinX0 hown hK.1 hP 0 rfl rfl 10 (by decide) (hts _ (List.mem_of_getElem? (i := 3) rfl)) (fun _ h9 => h9) rfl dX0_passHour_66 ?_
        refine lv_iconst (v := 1) hx hb dX0_passHour_69 (by decide) ?_
        refine lv_iadd hx hb dX0_passHour_70 ?_
        refine lv_topi (fun y_32 ey_32 => ?_)
        replace ey_32 : y_32 = (dy_ B) + 1 := ey_32
        refine va_put (ci := 0) (ty := .int) (C := RX0) (T := TX0) (N := 11) hx hb hts hinX0 tyX0 tyX0_ok nmX0 hown hK.1 hP hD hS 0 rfl rfl 10 (by decide) (hts _ (List.mem_of_getElem? (i := 3) rfl)) (fun _ h9 => h9) rfl (by decide +kernel) (rfl) (rfl) (Nat.le_of_ble_eq_true rfl) dX0_passHour_71 (fun H locs hP hD hS => ?_)
        replace hP : va_P D vwCl (bW cI g i0 (mkB (kd_ B) (fg_ B) (pl_ B) (sp_ B (sn_ B)) (jy_ B) (qt_ B) (sn_ B) y_27 (pa_ B) 0 y_32)) H := hP
        replace hD : va_D A (bW cI g i0 (mkB (kd_ B) (fg_ B) (pl_ B) (sp_ B (sn_ B)) (jy_ B) (qt_ B) (sn_ B) y_27 (pa_ B) 0 y_32)) := hD
        refine lv_aload_n hx hb dX0_passHour_74 rfl (lv_at hl 1 rfl) ?_
        refine kSiV hx hb hml hown hts hK hP gX0_passHour_X0_owner okX0_owner (qX0_owner l D cI cB g i0 (mkB (kd_ B) (fg_ B) (pl_ B) (sp_ B (sn_ B)) (jy_ B) (qt_ B) (sn_ B) y_27 (pa_ B) 0 y_32) (by show sn_ B ≤ 7; omega)) [0, 1, 2, 3, 4, 5] rfl rfl rfl rfl (by decide) hl.1 rfl rfl (Nat.le_of_ble_eq_true rfl) dX0_passHour_75 (by decide) (fun r_33 hr_34 => ?_)
        replace hr_34 : r_33 = oI_ (ow_ (mkB (kd_ B) (fg_ B) (pl_ B) (sp_ B (sn_ B)) (jy_ B) (qt_ B) (sn_ B) y_27 (pa_ B) 0 y_32)) := hr_34
        subst r_33
        refine lv_istore_n (lv' := [(3, .int (oI_ (ow_ (mkB (kd_ B) (fg_ B) (pl_ B) (sp_ B (sn_ B)) (jy_ B) (qt_ B) (sn_ B) y_27 (pa_ B) 0 y_32)))), (2, .int (nI t)), (0, .ref (g i0)), (1, .int (b1 z))]) hx hb dX0_passHour_78 rfl hl (by decide) rfl (fun ls hl => ?_)
        rcases hO : ow_ (mkB (kd_ B) (fg_ B) (pl_ B) (sp_ B (sn_ B)) (jy_ B) (qt_ B) (sn_ B) y_27 (pa_ B) 0 y_32) with _ | u2
        · rw [hO] at hl
          replace hl : lv_has ls 4 [(3, .int (-9)), (2, .int (nI t)), (0, .ref (g i0)), (1, .int (b1 z))] := hl
          refine lv_iload_n hx hb dX0_passHour_79 rfl (lv_at hl 0 rfl) ?_
          refine lv_bipush (v := (-9)) hx hb dX0_passHour_80 (by decide) ?_
          refine lv_icmp_eq (tgt := 105) hx hb dX0_passHour_82 (by decide) (fun _ => ?_) (fun q => absurd q (by decide))
          (try rw [ey_32] at hP); (try rw [ey_32] at hD); (try rw [ey_32] at hl); (try rw [ey_32] at hL); (try rw [ey_32] at c_21); (try rw [ey_32] at c_56); (try rw [ey_32] at d_56); (try rw [ey_32] at hO); (try rw [ey_32])
          (try rw [ey_28] at hP); (try rw [ey_28] at hD); (try rw [ey_28] at hl); (try rw [ey_28] at hL); (try rw [ey_28] at c_21); (try rw [ey_28] at c_56); (try rw [ey_28] at d_56); (try rw [ey_28] at hO); (try rw [ey_28])
          (try rw [ey_27] at hP); (try rw [ey_27] at hD); (try rw [ey_27] at hl); (try rw [ey_27] at hL); (try rw [ey_27] at c_21); (try rw [ey_27] at c_56); (try rw [ey_27] at d_56); (try rw [ey_27] at hO); (try rw [ey_27])
          refine rMv hx hb hr hlk hS (mkB (kd_ B) (fg_ B) (pl_ B) (sp_ B (sn_ B)) (jy_ B) (qt_ B) (sn_ B) (aw_ B t) (pa_ B) 0 ((dy_ B) + 1)) hP ?_ dX0_passHour_105
          have hO2 : at_ (pl_ B) (aw_ B t) (sn_ B) 0 = none := hO
          exact hb_fin (z := z) (i2 := (aw_ B t)) (h2 := 0) (d2 := ((dy_ B) + 1)) (j2 := (jy_ B)) hL (Or.inr ⟨t, rfl, Or.inl ⟨by assumption, rfl⟩⟩) hO2 (Or.inl ⟨rfl, rfl⟩) (Or.inl ⟨by first | assumption | exact Int32.not_le.mp (by assumption), rfl, rfl⟩)
        · rw [hO] at hl
          replace hl : lv_has ls 4 [(3, .int (nI u2)), (2, .int (nI t)), (0, .ref (g i0)), (1, .int (b1 z))] := hl
          have hu : u2 < sn_ B := (sa_lt hO).1
          refine lv_iload_n hx hb dX0_passHour_79 rfl (lv_at hl 0 rfl) ?_
          refine lv_bipush (v := (-9)) hx hb dX0_passHour_80 (by decide) ?_
          refine lv_icmp_eq (tgt := 105) hx hb dX0_passHour_82 (by decide) (fun q => absurd q (nI_m9 (by omega))) (fun _ => ?_)
          refine lv_aload_n hx hb dX0_passHour_85 rfl (lv_at hl 2 rfl) ?_
          refine va_get (ci := 0) (C := RX0) (T := TX0) (N := 11) hx hb hts hinX0 hown hK.1 hP 0 rfl rfl 4 (by decide) (hts _ (List.mem_of_getElem? (i := 4) rfl)) (fun _ h9 => h9) rfl dX0_passHour_86 ?_
          refine lv_iload_n hx hb dX0_passHour_89 rfl (lv_at hl 0 rfl) ?_
          refine lv_sipush (v := 999) hx hb dX0_passHour_90 (by decide) ?_
          refine lv_aload_n hx hb dX0_passHour_93 rfl (lv_at hl 2 rfl) ?_
          refine va_get (ci := 0) (C := RX0) (T := TX0) (N := 11) hx hb hts hinX0 hown hK.1 hP 0 rfl rfl 4 (by decide) (hts _ (List.mem_of_getElem? (i := 4) rfl)) (fun _ h9 => h9) rfl dX0_passHour_94 ?_
          refine lv_iload_n hx hb dX0_passHour_97 rfl (lv_at hl 0 rfl) ?_
          refine jald hx hb hK.1 hP 5 0 u2 rfl rfl rfl (by omega) (Nat.le_of_ble_eq_true rfl) dX0_passHour_98 ?_
          refine lv_iconst (v := 1) hx hb dX0_passHour_99 (by decide) ?_
          refine lv_iadd hx hb dX0_passHour_100 ?_
          refine va_mmin hx hb (hml.trans hl.1.symm) hown (hts _ (List.mem_of_getElem? (i := 5) rfl)) (hts _ (List.mem_of_getElem? (i := 6) rfl)) (hts _ (List.mem_of_getElem? (i := 7) rfl)) (hts _ (List.mem_of_getElem? (i := 8) rfl)) (by decide) (Nat.le_of_ble_eq_true rfl) (by decide) (by decide) dX0_passHour_101 ?_
          refine jast hx hb hK.1 hP hD hS 5 0 u2 rfl rfl rfl (by omega) (Nat.le_of_ble_eq_true rfl) dX0_passHour_104 (fun f_35 ef_35 H locs hP hD hS => ?_)
          replace ef_35 : f_35 = upd (jy_ B) u2 (if (((jy_ B) u2) + 1) < 999 then (((jy_ B) u2) + 1) else 999) := ef_35
          replace hP : va_P D vwCl (bW cI g i0 (mkB (kd_ B) (fg_ B) (pl_ B) (sp_ B (sn_ B)) f_35 (qt_ B) (sn_ B) y_27 (pa_ B) 0 y_32)) H := hP
          replace hD : va_D A (bW cI g i0 (mkB (kd_ B) (fg_ B) (pl_ B) (sp_ B (sn_ B)) f_35 (qt_ B) (sn_ B) y_27 (pa_ B) 0 y_32)) := hD
          (try rw [ef_35] at hP); (try rw [ef_35] at hD); (try rw [ef_35] at hl); (try rw [ef_35] at hL); (try rw [ef_35] at c_21); (try rw [ef_35] at c_56); (try rw [ef_35] at d_56); (try rw [ef_35] at hO); (try rw [ef_35])
          (try rw [ey_32] at hP); (try rw [ey_32] at hD); (try rw [ey_32] at hl); (try rw [ey_32] at hL); (try rw [ey_32] at c_21); (try rw [ey_32] at c_56); (try rw [ey_32] at d_56); (try rw [ey_32] at hO); (try rw [ey_32])
          (try rw [ey_28] at hP); (try rw [ey_28] at hD); (try rw [ey_28] at hl); (try rw [ey_28] at hL); (try rw [ey_28] at c_21); (try rw [ey_28] at c_56); (try rw [ey_28] at d_56); (try rw [ey_28] at hO); (try rw [ey_28])
          (try rw [ey_27] at hP); (try rw [ey_27] at hD); (try rw [ey_27] at hl); (try rw [ey_27] at hL); (try rw [ey_27] at c_21); (try rw [ey_27] at c_56); (try rw [ey_27] at d_56); (try rw [ey_27] at hO); (try rw [ey_27])
          refine rMv hx hb hr hlk hS (mkB (kd_ B) (fg_ B) (pl_ B) (sp_ B (sn_ B)) (upd (jy_ B) u2 (if (((jy_ B) u2) + 1) < 999 then (((jy_ B) u2) + 1) else 999)) (qt_ B) (sn_ B) (aw_ B t) (pa_ B) 0 ((dy_ B) + 1)) hP ?_ dX0_passHour_105
          have hO2 : at_ (pl_ B) (aw_ B t) (sn_ B) 0 = some u2 := hO
          exact hb_fin (z := z) (i2 := (aw_ B t)) (h2 := 0) (d2 := ((dy_ B) + 1)) (j2 := (upd (jy_ B) u2 (if (((jy_ B) u2) + 1) < 999 then (((jy_ B) u2) + 1) else 999))) hL (Or.inr ⟨t, rfl, Or.inl ⟨by assumption, rfl⟩⟩) hO2 (Or.inr ⟨u2, rfl, by unfold jo_; rfl⟩) (Or.inl ⟨by first | assumption | exact Int32.not_le.mp (by assumption), rfl, rfl⟩)

theorem okX0_passHours : jok yX0_passHours wsX0_passHours cX0_passHours 3 none 1 := ⟨⟨_, rfl⟩, by decide +kernel, by decide +kernel⟩
set_option maxHeartbeats 1000000 in
set_option maxRecDepth 100000 in
theorem qX0_passHours (l : Launch) (D : va_G) (cI cB : ClassId) (g : Nat → Nat) (i0 : Nat) (B : BayT) (n : Nat) (hn7 : sn_ B ≤ 7) (hn : n < 2147483647) : jMv D cI cB l yX0_passHours wsX0_passHours 4 [.ref (g i0), .int (nI n)] (bW cI g i0 B) (S := BayT) (fun u => u = hs_ n B) (fun u => bW cI g i0 u) := by
  refine jMv.of (cc := cX0_passHours) (maxL := 3) (ret := none) okX0_passHours (Nat.le_of_ble_eq_true rfl) ?_
  intro p e s m below meth c ls A hx hb hr hts hown hlk hml hP hK hD hA hS hl
  replace hown : s.vm.findClass RX0 = some m.cls := hown
  replace hl : lv_has ls 3 [(0, .ref (g i0)), (1, .int (nI n))] := hl
  refine lv_iconst (v := 0) hx hb dX0_passHours_0 (by decide) ?_
  refine lv_istore_n (lv' := [(2, .int 0), (0, .ref (g i0)), (1, .int (nI n))]) hx hb dX0_passHours_1 rfl hl (by decide) rfl (fun ls hl => ?_)
  have lp_2 : ∀ (fu_2 : Nat) (i : Nat) (x2_2 : Int32) (T : BayT), (x2_2 = nI i) → (T = hs_ i B) → (i ≤ n) → n - i < fu_2 → ∀ (H : Heap) (locs : List Loc), va_P D vwCl (bW cI g i0 T) H → va_D A (bW cI g i0 T) → va_S A s.heap H locs → ∀ ls : Array Slot, lv_has ls 3 [(2, .int x2_2), (0, .ref (g i0)), (1, .int (nI n))] → W p l e (jR 4) s m ([.ref (g i0), .int (nI n)] : List Value).toArray below meth c H locs 0 0 (MQ below (va_Qv (S := BayT) (fun u => u = hs_ n B) (fun u t => va_P D vwCl ((fun u => bW cI g i0 u) u) t.heap) A) ([.ref (g i0), .int (nI n)] : List Value).toArray s 0 0 A) (F0 m 2 ls []) := by
    intro fu_2
    induction fu_2 with
    | zero => intro i x2_2 T hx2_2 hT hi hfu; exact absurd hfu (Nat.not_lt_zero _)
    | succ fu_2 ih_2 =>
      intro i x2_2 T hx2_2 hT hi hfu_2 H locs hP hD hS ls hl
      subst x2_2
      subst T
      replace hl : lv_has ls 3 [(2, .int (nI i)), (0, .ref (g i0)), (1, .int (nI n))] := hl
      replace hP : va_P D vwCl (bW cI g i0 (hs_ i B)) H := hP
      replace hD : va_D A (bW cI g i0 (hs_ i B)) := hD
      refine lv_iload_n hx hb dX0_passHours_2 rfl (lv_at hl 0 rfl) ?_
      refine lv_iload_n hx hb dX0_passHours_3 rfl (lv_at hl 2 rfl) ?_
      refine lv_icmp_ge (tgt := 18) hx hb dX0_passHours_4 (by decide) (fun c_4 => ?_) (fun c_4 => ?_)
      · replace c_4 : nI n ≤ nI i := c_4
        rw [jle (by omega) (by omega)] at c_4
        refine rMv hx hb hr hlk hS (hs_ i B) hP ?_ dX0_passHours_18
        have e9 : i = n := by omega
        subst e9; rfl
      · replace c_4 : ¬ nI n ≤ nI i := c_4
        rw [jle (by omega) (by omega)] at c_4
        refine lv_aload_n hx hb dX0_passHours_7 rfl (lv_at hl 1 rfl) ?_
        refine lv_iconst (v := 0) hx hb dX0_passHours_8 (by decide) ?_
        refine kMvV hx hb hml hown hts hK hP hD hA hS gX0_passHours_X0_passHour okX0_passHour (qX0_passHour l D cI cB g i0 (hs_ i B) False inferInstance (by rw [sn_hs]; exact hn7)) [0, 1, 2, 3, 4, 5] rfl (by decide) (fun _ => rfl) rfl rfl rfl (by decide) hl.1 rfl rfl (Nat.le_of_ble_eq_true rfl) dX0_passHours_9 (by decide) (fun u_2 H locs hw_3 hP hD hS => ?_)
        replace hw_3 : u_2 = hb_ False (hs_ i B) := hw_3
        subst u_2
        replace hP : va_P D vwCl (bW cI g i0 (hb_ False (hs_ i B))) H := hP
        replace hD : va_D A (bW cI g i0 (hb_ False (hs_ i B))) := hD
        refine lv_iinc (v := (nI i) + 1) (lv' := [(2, .int ((nI i) + 1)), (0, .ref (g i0)), (1, .int (nI n))]) hx hb dX0_passHours_12 hl (k := 0) rfl (by first | rfl | decide) (by decide) rfl (fun ls hl => ?_)
        refine lv_goto (tgt := 2) hx hb dX0_passHours_15 (by decide) ?_
        exact ih_2 (i + 1) ((nI i) + 1) (hb_ False (hs_ i B)) (by first | rfl | exact nI_1 _) (rfl) (by omega) (by omega) _ _ hP hD hS ls (lv_sub hl [0, 1, 2] rfl)
  exact lp_2 (n + 1) 0 0 B (by first | rfl | exact nI_0.symm) (rfl) (by omega) (by omega) _ _ hP hD hS ls (lv_sub hl [0, 1, 2] rfl)
