theorem okX5_goesHour : jok yX5_goesHour wsX5_goesHour cX5_goesHour 4 none 1 := ⟨⟨_, rfl⟩, by decide +kernel, by decide +kernel⟩
set_option maxHeartbeats 1000000 in
set_option maxRecDepth 100000 in
theorem qX5_goesHour (l : Launch) (D : va_G) (cI cB : ClassId) (r : Nat → Nat) (B : BayT) (M : MT) (z : Prop) (iz : Decidable z) (hI : bI_ B) : jMv D cI cB l yX5_goesHour wsX5_goesHour 5 [.ref (r 0), .int (b1 z)] (mW cI r B M) (S := BayT) (fun u => u = hb_ z B) (fun u => mW cI r u M) := by
  refine jMv.of (cc := cX5_goesHour) (maxL := 4) (ret := none) okX5_goesHour (Nat.le_of_ble_eq_true rfl) ?_
  intro p e s m below meth c ls A hx hb hr hts hown hlk hml hP hK hD hA hS hl
  replace hown : s.vm.findClass RX5 = some m.cls := hown
  replace hl : lv_has ls 4 [(0, .ref (r 0)), (1, .int (b1 z))] := hl
  have hn7 := hI.1
  have hil := hI.2.2.2.2.1
  have hpa := hI.2.2.2.2.2.1
  have hho := hI.2.2.2.2.2.2.1
  have hinX5 : ∀ w ∈ wsX50, w ∈ wsX5_goesHour := by decide +kernel
  refine lv_aload_n hx hb dX5_goesHour_0 rfl (lv_at hl 0 rfl) ?_
  refine lv_aload_n hx hb dX5_goesHour_1 rfl (lv_at hl 0 rfl) ?_
  refine va_get (ci := 5) (C := RX5) (T := TX5) (N := 33) hx hb hts hinX5 hown hK.1 hP 0 rfl rfl 10 (by decide) (hts _ (List.mem_of_getElem? (i := 1) rfl)) (fun _ h9 => h9) rfl dX5_goesHour_2 ?_
  refine kSiV hx hb hml hown hts hK hP gX5_goesHour_X5_loudestAt okX5_loudestAt (qX5_loudestAt l D cI cB r B M (ho_ B) (by omega)) [0, 1, 2, 3, 4, 5, 6, 7, 8, 9, 10, 11, 12, 13, 14, 15] rfl rfl rfl rfl (by decide) hl.1 rfl rfl (Nat.le_of_ble_eq_true rfl) dX5_goesHour_5 (by decide) (fun r_1 hr_2 => ?_)
  replace hr_2 : r_1 = oI_ (lt_ B (ho_ B)) := hr_2
  subst r_1
  refine lv_istore_n (lv' := [(2, .int (oI_ (lt_ B (ho_ B)))), (0, .ref (r 0)), (1, .int (b1 z))]) hx hb dX5_goesHour_8 rfl hl (by decide) rfl (fun ls hl => ?_)
  refine lv_iconst (v := 0) hx hb dX5_goesHour_9 (by decide) ?_
  refine lv_istore_n (lv' := [(3, .int 0), (2, .int (oI_ (lt_ B (ho_ B)))), (0, .ref (r 0)), (1, .int (b1 z))]) hx hb dX5_goesHour_10 rfl hl (by decide) rfl (fun ls hl => ?_)
  have lp_11 : ∀ (fu_11 : Nat) (i : Nat) (x3_11 : Int32) (T : BayT), (x3_11 = nI i) → (T = us_ B i) → (i ≤ sn_ B) → sn_ B - i < fu_11 → ∀ (H : Heap) (locs : List Loc), va_P D vwCl (mW cI r T M) H → va_D A (mW cI r T M) → va_S A s.heap H locs → ∀ ls : Array Slot, lv_has ls 4 [(3, .int x3_11), (2, .int (oI_ (lt_ B (ho_ B)))), (0, .ref (r 0)), (1, .int (b1 z))] → W p l e (jR 5) s m ([.ref (r 0), .int (b1 z)] : List Value).toArray below meth c H locs 0 0 (MQ below (va_Qv (S := BayT) (fun u => u = hb_ z B) (fun u t => va_P D vwCl ((fun u => mW cI r u M) u) t.heap) A) ([.ref (r 0), .int (b1 z)] : List Value).toArray s 0 0 A) (F0 m 11 ls []) := by
    intro fu_11
    induction fu_11 with
    | zero => intro i x3_11 T hx3_11 hT hi hfu; exact absurd hfu (Nat.not_lt_zero _)
    | succ fu_11 ih_11 =>
      intro i x3_11 T hx3_11 hT hi hfu_11 H locs hP hD hS ls hl
      subst x3_11
      subst T
      replace hl : lv_has ls 4 [(3, .int (nI i)), (2, .int (oI_ (lt_ B (ho_ B)))), (0, .ref (r 0)), (1, .int (b1 z))] := hl
      replace hP : va_P D vwCl (mW cI r (us_ B i) M) H := hP
      replace hD : va_D A (mW cI r (us_ B i) M) := hD
      refine lv_iload_n hx hb dX5_goesHour_11 rfl (lv_at hl 0 rfl) ?_
      refine lv_aload_n hx hb dX5_goesHour_12 rfl (lv_at hl 2 rfl) ?_
      refine va_get (ci := 5) (C := RX5) (T := TX5) (N := 33) hx hb hts hinX5 hown hK.1 hP 0 rfl rfl 6 (by decide) (hts _ (List.mem_of_getElem? (i := 2) rfl)) (fun _ h9 => h9) rfl dX5_goesHour_13 ?_
      refine lv_icmp_ge (tgt := 55) hx hb dX5_goesHour_16 (by decide) (fun c_16 => ?_) (fun c_16 => ?_)
      · replace c_16 : nI (sn_ B) ≤ nI i := c_16
        rw [jle (by omega) (by omega)] at c_16
        have e9 : i = sn_ B := by omega
        subst e9
        replace hP : va_P D vwCl (mW cI r (us_ B (sn_ B)) M) H := hP
        replace hD : va_D A (mW cI r (us_ B (sn_ B)) M) := hD
        replace hl : lv_has ls 4 [(3, .int (nI (sn_ B))), (2, .int (oI_ (lt_ B (ho_ B)))), (0, .ref (r 0)), (1, .int (b1 z))] := hl
        rcases hL : lt_ B (ho_ B) with _ | t
        · rw [hL] at hl
          replace hl : lv_has ls 4 [(3, .int (nI (sn_ B))), (2, .int (-9)), (0, .ref (r 0)), (1, .int (b1 z))] := hl
          refine lv_iload_n hx hb dX5_goesHour_55 rfl (lv_at hl 1 rfl) ?_
          refine lv_if_lt (tgt := 70) hx hb dX5_goesHour_56 (by decide) (fun _ => ?_) (fun q => absurd q (by decide))
          refine lv_aload_n hx hb dX5_goesHour_70 rfl (lv_at hl 2 rfl) ?_
          refine lv_dup hx hb dX5_goesHour_71 rfl ?_
          refine va_get (ci := 5) (C := RX5) (T := TX5) (N := 33) hx hb hts hinX5 hown hK.1 hP 0 rfl rfl 10 (by decide) (hts _ (List.mem_of_getElem? (i := 1) rfl)) (fun _ h9 => h9) rfl dX5_goesHour_72 ?_
          refine lv_iconst (v := 1) hx hb dX5_goesHour_75 (by decide) ?_
          refine lv_iadd hx hb dX5_goesHour_76 ?_
          refine lv_topi (fun y_3 ey_3 => ?_)
          replace ey_3 : y_3 = (ho_ B) + 1 := ey_3
          refine va_put (ci := 5) (ty := .int) (C := RX5) (T := TX5) (N := 33) hx hb hts hinX5 tyX5 tyX5_ok nmX5 hown hK.1 hP hD hS 0 rfl rfl 10 (by decide) (hts _ (List.mem_of_getElem? (i := 1) rfl)) (fun _ h9 => h9) rfl (by decide +kernel) (rfl) (rfl) (Nat.le_of_ble_eq_true rfl) dX5_goesHour_77 (fun H locs hP hD hS => ?_)
          replace hP : va_P D vwCl (mW cI r (mkB (kd_ B) (fg_ B) (pl_ B) (sp_ B (sn_ B)) (jy_ B) (qt_ B) (sn_ B) (il_ B) (pa_ B) y_3 (dy_ B)) M) H := hP
          replace hD : va_D A (mW cI r (mkB (kd_ B) (fg_ B) (pl_ B) (sp_ B (sn_ B)) (jy_ B) (qt_ B) (sn_ B) (il_ B) (pa_ B) y_3 (dy_ B)) M) := hD
          refine lv_aload_n hx hb dX5_goesHour_80 rfl (lv_at hl 2 rfl) ?_
          refine va_get (ci := 5) (C := RX5) (T := TX5) (N := 33) hx hb hts hinX5 hown hK.1 hP 0 rfl rfl 10 (by decide) (hts _ (List.mem_of_getElem? (i := 1) rfl)) (fun _ h9 => h9) rfl dX5_goesHour_81 ?_
          refine lv_bipush (v := 24) hx hb dX5_goesHour_84 (by decide) ?_
          refine lv_icmp_ne (tgt := 104) hx hb dX5_goesHour_86 (by decide) (fun c_86 => ?_) (fun c_86 => ?_)
          · replace c_86 : ¬ y_3 = 24 := c_86
            rw [ey_3, ho_24 hho] at c_86
            refine lv_aload_n hx hb dX5_goesHour_104 rfl (lv_at hl 2 rfl) ?_
            refine kSiV hx hb hml hown hts hK hP gX5_goesHour_X5_holder okX5_holder (qX5_holder l D cI cB r (mkB (kd_ B) (fg_ B) (pl_ B) (sp_ B (sn_ B)) (jy_ B) (qt_ B) (sn_ B) (il_ B) (pa_ B) y_3 (dy_ B)) M hn7) [0, 1, 2, 3, 4, 5, 6, 7, 8, 9, 10, 11, 12, 13, 14, 15] rfl rfl rfl rfl (by decide) hl.1 rfl rfl (Nat.le_of_ble_eq_true rfl) dX5_goesHour_105 (by decide) (fun r_4 hr_5 => ?_)
            replace hr_5 : r_4 = oI_ (ow_ (mkB (kd_ B) (fg_ B) (pl_ B) (sp_ B (sn_ B)) (jy_ B) (qt_ B) (sn_ B) (il_ B) (pa_ B) y_3 (dy_ B))) := hr_5
            subst r_4
            refine lv_istore_n (lv' := [(3, .int (oI_ (ow_ (mkB (kd_ B) (fg_ B) (pl_ B) (sp_ B (sn_ B)) (jy_ B) (qt_ B) (sn_ B) (il_ B) (pa_ B) y_3 (dy_ B))))), (2, .int (-9)), (0, .ref (r 0)), (1, .int (b1 z))]) hx hb dX5_goesHour_108 rfl hl (by decide) rfl (fun ls hl => ?_)
            rcases hO : ow_ (mkB (kd_ B) (fg_ B) (pl_ B) (sp_ B (sn_ B)) (jy_ B) (qt_ B) (sn_ B) (il_ B) (pa_ B) y_3 (dy_ B)) with _ | u2
            · rw [hO] at hl
              replace hl : lv_has ls 4 [(3, .int (-9)), (2, .int (-9)), (0, .ref (r 0)), (1, .int (b1 z))] := hl
              refine lv_iload_n hx hb dX5_goesHour_109 rfl (lv_at hl 0 rfl) ?_
              refine lv_if_lt (tgt := 134) hx hb dX5_goesHour_110 (by decide) (fun _ => ?_) (fun q => absurd q (by decide))
              (try rw [ey_3] at hP); (try rw [ey_3] at hD); (try rw [ey_3] at hl); (try rw [ey_3] at c_16); (try rw [ey_3] at hL); (try rw [ey_3] at c_86); (try rw [ey_3] at hO); (try rw [ey_3])
              refine rMv hx hb hr hlk hS (mkB (kd_ B) (fg_ B) (pl_ B) (sp_ B (sn_ B)) (jy_ B) (qt_ B) (sn_ B) (il_ B) (pa_ B) ((ho_ B) + 1) (dy_ B)) hP ?_ dX5_goesHour_134
              have hO2 : at_ (pl_ B) (il_ B) (sn_ B) 0 = none := hO
              exact hb_fin (z := z) (i2 := (il_ B)) (h2 := ((ho_ B) + 1)) (d2 := (dy_ B)) (j2 := (jy_ B)) hL (Or.inl ⟨rfl, rfl⟩) hO2 (Or.inl ⟨rfl, rfl⟩) (Or.inr ⟨c_86, rfl, rfl⟩)
            · rw [hO] at hl
              replace hl : lv_has ls 4 [(3, .int (nI u2)), (2, .int (-9)), (0, .ref (r 0)), (1, .int (b1 z))] := hl
              have hu : u2 < sn_ B := (sa_lt hO).1
              refine lv_iload_n hx hb dX5_goesHour_109 rfl (lv_at hl 0 rfl) ?_
              refine lv_if_lt (tgt := 134) hx hb dX5_goesHour_110 (by decide) (fun q => absurd q (nI_pos (by omega))) (fun _ => ?_)
              refine lv_aload_n hx hb dX5_goesHour_113 rfl (lv_at hl 2 rfl) ?_
              refine va_get (ci := 5) (C := RX5) (T := TX5) (N := 33) hx hb hts hinX5 hown hK.1 hP 0 rfl rfl 5 (by decide) (hts _ (List.mem_of_getElem? (i := 6) rfl)) (fun _ h9 => h9) rfl dX5_goesHour_114 ?_
              refine lv_iload_n hx hb dX5_goesHour_117 rfl (lv_at hl 0 rfl) ?_
              refine lv_aload_n hx hb dX5_goesHour_118 rfl (lv_at hl 2 rfl) ?_
              refine va_get (ci := 5) (C := RX5) (T := TX5) (N := 33) hx hb hts hinX5 hown hK.1 hP 0 rfl rfl 5 (by decide) (hts _ (List.mem_of_getElem? (i := 6) rfl)) (fun _ h9 => h9) rfl dX5_goesHour_119 ?_
              refine lv_iload_n hx hb dX5_goesHour_122 rfl (lv_at hl 0 rfl) ?_
              refine jald hx hb hK.1 hP 6 0 u2 rfl rfl rfl (by omega) (Nat.le_of_ble_eq_true rfl) dX5_goesHour_123 ?_
              refine lv_iconst (v := 1) hx hb dX5_goesHour_124 (by decide) ?_
              refine lv_iadd hx hb dX5_goesHour_125 ?_
              refine lv_iconst (v := 0) hx hb dX5_goesHour_126 (by decide) ?_
              refine lv_sipush (v := 999) hx hb dX5_goesHour_127 (by decide) ?_
              refine kSiS hx hb hml hown hts hK hP gX5_goesHour_X5_held okX5_held (qX5_held l D cI cB (((jy_ B) u2) + 1) 0 999 ) [] rfl (by decide) hl.1 rfl rfl (Nat.le_of_ble_eq_true rfl) dX5_goesHour_130 (by decide) (fun r_6 hr_7 => ?_)
              replace hr_7 : r_6 = he_ (((jy_ B) u2) + 1) 0 999 := hr_7
              subst r_6
              refine jast hx hb hK.1 hP hD hS 6 0 u2 rfl rfl rfl (by omega) (Nat.le_of_ble_eq_true rfl) dX5_goesHour_133 (fun f_8 ef_8 H locs hP hD hS => ?_)
              replace ef_8 : f_8 = upd (jy_ B) u2 (he_ (((jy_ B) u2) + 1) 0 999) := ef_8
              replace hP : va_P D vwCl (mW cI r (mkB (kd_ B) (fg_ B) (pl_ B) (sp_ B (sn_ B)) f_8 (qt_ B) (sn_ B) (il_ B) (pa_ B) y_3 (dy_ B)) M) H := hP
              replace hD : va_D A (mW cI r (mkB (kd_ B) (fg_ B) (pl_ B) (sp_ B (sn_ B)) f_8 (qt_ B) (sn_ B) (il_ B) (pa_ B) y_3 (dy_ B)) M) := hD
              (try rw [ef_8] at hP); (try rw [ef_8] at hD); (try rw [ef_8] at hl); (try rw [ef_8] at c_16); (try rw [ef_8] at hL); (try rw [ef_8] at c_86); (try rw [ef_8] at hO); (try rw [ef_8])
              (try rw [ey_3] at hP); (try rw [ey_3] at hD); (try rw [ey_3] at hl); (try rw [ey_3] at c_16); (try rw [ey_3] at hL); (try rw [ey_3] at c_86); (try rw [ey_3] at hO); (try rw [ey_3])
              refine rMv hx hb hr hlk hS (mkB (kd_ B) (fg_ B) (pl_ B) (sp_ B (sn_ B)) (upd (jy_ B) u2 (he_ (((jy_ B) u2) + 1) 0 999)) (qt_ B) (sn_ B) (il_ B) (pa_ B) ((ho_ B) + 1) (dy_ B)) hP ?_ dX5_goesHour_134
              have hO2 : at_ (pl_ B) (il_ B) (sn_ B) 0 = some u2 := hO
              exact hb_fin (z := z) (i2 := (il_ B)) (h2 := ((ho_ B) + 1)) (d2 := (dy_ B)) (j2 := (upd (jy_ B) u2 (he_ (((jy_ B) u2) + 1) 0 999))) hL (Or.inl ⟨rfl, rfl⟩) hO2 (Or.inr ⟨u2, rfl, by rw [he_jo (hI.2.1 u2 hu).2.2.2.2]⟩) (Or.inr ⟨c_86, rfl, rfl⟩)
          · replace c_86 : y_3 = 24 := c_86
            rw [ey_3, ho_24 hho] at c_86
            refine lv_aload_n hx hb dX5_goesHour_89 rfl (lv_at hl 2 rfl) ?_
            refine lv_iconst (v := 0) hx hb dX5_goesHour_90 (by decide) ?_
            refine va_put (ci := 5) (ty := .int) (C := RX5) (T := TX5) (N := 33) hx hb hts hinX5 tyX5 tyX5_ok nmX5 hown hK.1 hP hD hS 0 rfl rfl 10 (by decide) (hts _ (List.mem_of_getElem? (i := 1) rfl)) (fun _ h9 => h9) rfl (by decide +kernel) (rfl) (rfl) (Nat.le_of_ble_eq_true rfl) dX5_goesHour_91 (fun H locs hP hD hS => ?_)
            replace hP : va_P D vwCl (mW cI r (mkB (kd_ B) (fg_ B) (pl_ B) (sp_ B (sn_ B)) (jy_ B) (qt_ B) (sn_ B) (il_ B) (pa_ B) 0 (dy_ B)) M) H := hP
            replace hD : va_D A (mW cI r (mkB (kd_ B) (fg_ B) (pl_ B) (sp_ B (sn_ B)) (jy_ B) (qt_ B) (sn_ B) (il_ B) (pa_ B) 0 (dy_ B)) M) := hD
            refine lv_aload_n hx hb dX5_goesHour_94 rfl (lv_at hl 2 rfl) ?_
            refine lv_dup hx hb dX5_goesHour_95 rfl ?_
            refine va_get (ci := 5) (C := RX5) (T := TX5) (N := 33) hx hb hts hinX5 hown hK.1 hP 0 rfl rfl 11 (by decide) (hts _ (List.mem_of_getElem? (i := 5) rfl)) (fun _ h9 => h9) rfl dX5_goesHour_96 ?_
            refine lv_iconst (v := 1) hx hb dX5_goesHour_99 (by decide) ?_
            refine lv_iadd hx hb dX5_goesHour_100 ?_
            refine lv_topi (fun y_9 ey_9 => ?_)
            replace ey_9 : y_9 = (dy_ B) + 1 := ey_9
            refine va_put (ci := 5) (ty := .int) (C := RX5) (T := TX5) (N := 33) hx hb hts hinX5 tyX5 tyX5_ok nmX5 hown hK.1 hP hD hS 0 rfl rfl 11 (by decide) (hts _ (List.mem_of_getElem? (i := 5) rfl)) (fun _ h9 => h9) rfl (by decide +kernel) (rfl) (rfl) (Nat.le_of_ble_eq_true rfl) dX5_goesHour_101 (fun H locs hP hD hS => ?_)
            replace hP : va_P D vwCl (mW cI r (mkB (kd_ B) (fg_ B) (pl_ B) (sp_ B (sn_ B)) (jy_ B) (qt_ B) (sn_ B) (il_ B) (pa_ B) 0 y_9) M) H := hP
            replace hD : va_D A (mW cI r (mkB (kd_ B) (fg_ B) (pl_ B) (sp_ B (sn_ B)) (jy_ B) (qt_ B) (sn_ B) (il_ B) (pa_ B) 0 y_9) M) := hD
            refine lv_aload_n hx hb dX5_goesHour_104 rfl (lv_at hl 2 rfl) ?_
            refine kSiV hx hb hml hown hts hK hP gX5_goesHour_X5_holder okX5_holder (qX5_holder l D cI cB r (mkB (kd_ B) (fg_ B) (pl_ B) (sp_ B (sn_ B)) (jy_ B) (qt_ B) (sn_ B) (il_ B) (pa_ B) 0 y_9) M hn7) [0, 1, 2, 3, 4, 5, 6, 7, 8, 9, 10, 11, 12, 13, 14, 15] rfl rfl rfl rfl (by decide) hl.1 rfl rfl (Nat.le_of_ble_eq_true rfl) dX5_goesHour_105 (by decide) (fun r_10 hr_11 => ?_)
            replace hr_11 : r_10 = oI_ (ow_ (mkB (kd_ B) (fg_ B) (pl_ B) (sp_ B (sn_ B)) (jy_ B) (qt_ B) (sn_ B) (il_ B) (pa_ B) 0 y_9)) := hr_11
            subst r_10
            refine lv_istore_n (lv' := [(3, .int (oI_ (ow_ (mkB (kd_ B) (fg_ B) (pl_ B) (sp_ B (sn_ B)) (jy_ B) (qt_ B) (sn_ B) (il_ B) (pa_ B) 0 y_9)))), (2, .int (-9)), (0, .ref (r 0)), (1, .int (b1 z))]) hx hb dX5_goesHour_108 rfl hl (by decide) rfl (fun ls hl => ?_)
            rcases hO : ow_ (mkB (kd_ B) (fg_ B) (pl_ B) (sp_ B (sn_ B)) (jy_ B) (qt_ B) (sn_ B) (il_ B) (pa_ B) 0 y_9) with _ | u2
            · rw [hO] at hl
              replace hl : lv_has ls 4 [(3, .int (-9)), (2, .int (-9)), (0, .ref (r 0)), (1, .int (b1 z))] := hl
              refine lv_iload_n hx hb dX5_goesHour_109 rfl (lv_at hl 0 rfl) ?_
              refine lv_if_lt (tgt := 134) hx hb dX5_goesHour_110 (by decide) (fun _ => ?_) (fun q => absurd q (by decide))
              (try rw [ey_9] at hP); (try rw [ey_9] at hD); (try rw [ey_9] at hl); (try rw [ey_9] at c_16); (try rw [ey_9] at hL); (try rw [ey_9] at c_86); (try rw [ey_9] at hO); (try rw [ey_9])
              (try rw [ey_3] at hP); (try rw [ey_3] at hD); (try rw [ey_3] at hl); (try rw [ey_3] at c_16); (try rw [ey_3] at hL); (try rw [ey_3] at c_86); (try rw [ey_3] at hO); (try rw [ey_3])
              refine rMv hx hb hr hlk hS (mkB (kd_ B) (fg_ B) (pl_ B) (sp_ B (sn_ B)) (jy_ B) (qt_ B) (sn_ B) (il_ B) (pa_ B) 0 ((dy_ B) + 1)) hP ?_ dX5_goesHour_134
              have hO2 : at_ (pl_ B) (il_ B) (sn_ B) 0 = none := hO
              exact hb_fin (z := z) (i2 := (il_ B)) (h2 := 0) (d2 := ((dy_ B) + 1)) (j2 := (jy_ B)) hL (Or.inl ⟨rfl, rfl⟩) hO2 (Or.inl ⟨rfl, rfl⟩) (Or.inl ⟨c_86, rfl, rfl⟩)
            · rw [hO] at hl
              replace hl : lv_has ls 4 [(3, .int (nI u2)), (2, .int (-9)), (0, .ref (r 0)), (1, .int (b1 z))] := hl
              have hu : u2 < sn_ B := (sa_lt hO).1
              refine lv_iload_n hx hb dX5_goesHour_109 rfl (lv_at hl 0 rfl) ?_
              refine lv_if_lt (tgt := 134) hx hb dX5_goesHour_110 (by decide) (fun q => absurd q (nI_pos (by omega))) (fun _ => ?_)
              refine lv_aload_n hx hb dX5_goesHour_113 rfl (lv_at hl 2 rfl) ?_
              refine va_get (ci := 5) (C := RX5) (T := TX5) (N := 33) hx hb hts hinX5 hown hK.1 hP 0 rfl rfl 5 (by decide) (hts _ (List.mem_of_getElem? (i := 6) rfl)) (fun _ h9 => h9) rfl dX5_goesHour_114 ?_
              refine lv_iload_n hx hb dX5_goesHour_117 rfl (lv_at hl 0 rfl) ?_
              refine lv_aload_n hx hb dX5_goesHour_118 rfl (lv_at hl 2 rfl) ?_
              refine va_get (ci := 5) (C := RX5) (T := TX5) (N := 33) hx hb hts hinX5 hown hK.1 hP 0 rfl rfl 5 (by decide) (hts _ (List.mem_of_getElem? (i := 6) rfl)) (fun _ h9 => h9) rfl dX5_goesHour_119 ?_
              refine lv_iload_n hx hb dX5_goesHour_122 rfl (lv_at hl 0 rfl) ?_
              refine jald hx hb hK.1 hP 6 0 u2 rfl rfl rfl (by omega) (Nat.le_of_ble_eq_true rfl) dX5_goesHour_123 ?_
              refine lv_iconst (v := 1) hx hb dX5_goesHour_124 (by decide) ?_
              refine lv_iadd hx hb dX5_goesHour_125 ?_
              refine lv_iconst (v := 0) hx hb dX5_goesHour_126 (by decide) ?_
              refine lv_sipush (v := 999) hx hb dX5_goesHour_127 (by decide) ?_
              refine kSiS hx hb hml hown hts hK hP gX5_goesHour_X5_held okX5_held (qX5_held l D cI cB (((jy_ B) u2) + 1) 0 999 ) [] rfl (by decide) hl.1 rfl rfl (Nat.le_of_ble_eq_true rfl) dX5_goesHour_130 (by decide) (fun r_12 hr_13 => ?_)
              replace hr_13 : r_12 = he_ (((jy_ B) u2) + 1) 0 999 := hr_13
              subst r_12
              refine jast hx hb hK.1 hP hD hS 6 0 u2 rfl rfl rfl (by omega) (Nat.le_of_ble_eq_true rfl) dX5_goesHour_133 (fun f_14 ef_14 H locs hP hD hS => ?_)
              replace ef_14 : f_14 = upd (jy_ B) u2 (he_ (((jy_ B) u2) + 1) 0 999) := ef_14
              replace hP : va_P D vwCl (mW cI r (mkB (kd_ B) (fg_ B) (pl_ B) (sp_ B (sn_ B)) f_14 (qt_ B) (sn_ B) (il_ B) (pa_ B) 0 y_9) M) H := hP
              replace hD : va_D A (mW cI r (mkB (kd_ B) (fg_ B) (pl_ B) (sp_ B (sn_ B)) f_14 (qt_ B) (sn_ B) (il_ B) (pa_ B) 0 y_9) M) := hD
              (try rw [ef_14] at hP); (try rw [ef_14] at hD); (try rw [ef_14] at hl); (try rw [ef_14] at c_16); (try rw [ef_14] at hL); (try rw [ef_14] at c_86); (try rw [ef_14] at hO); (try rw [ef_14])
              (try rw [ey_9] at hP); (try rw [ey_9] at hD); (try rw [ey_9] at hl); (try rw [ey_9] at c_16); (try rw [ey_9] at hL); (try rw [ey_9] at c_86); (try rw [ey_9] at hO); (try rw [ey_9])
              (try rw [ey_3] at hP); (try rw [ey_3] at hD); (try rw [ey_3] at hl); (try rw [ey_3] at c_16); (try rw [ey_3] at hL); (try rw [ey_3] at c_86); (try rw [ey_3] at hO); (try rw [ey_3])
              refine rMv hx hb hr hlk hS (mkB (kd_ B) (fg_ B) (pl_ B) (sp_ B (sn_ B)) (upd (jy_ B) u2 (he_ (((jy_ B) u2) + 1) 0 999)) (qt_ B) (sn_ B) (il_ B) (pa_ B) 0 ((dy_ B) + 1)) hP ?_ dX5_goesHour_134
              have hO2 : at_ (pl_ B) (il_ B) (sn_ B) 0 = some u2 := hO
              exact hb_fin (z := z) (i2 := (il_ B)) (h2 := 0) (d2 := ((dy_ B) + 1)) (j2 := (upd (jy_ B) u2 (he_ (((jy_ B) u2) + 1) 0 999))) hL (Or.inl ⟨rfl, rfl⟩) hO2 (Or.inr ⟨u2, rfl, by rw [he_jo (hI.2.1 u2 hu).2.2.2.2]⟩) (Or.inl ⟨c_86, rfl, rfl⟩)
        · rw [hL] at hl
          replace hl : lv_has ls 4 [(3, .int (nI (sn_ B))), (2, .int (nI t)), (0, .ref (r 0)), (1, .int (b1 z))] := hl
          have ht : t < sn_ B := (lo_lt _ _ hL).1
          refine lv_iload_n hx hb dX5_goesHour_55 rfl (lv_at hl 1 rfl) ?_
          refine lv_if_lt (tgt := 70) hx hb dX5_goesHour_56 (by decide) (fun q => absurd q (nI_pos (by omega))) (fun _ => ?_)
          refine lv_aload_n hx hb dX5_goesHour_59 rfl (lv_at hl 2 rfl) ?_
          refine lv_aload_n hx hb dX5_goesHour_60 rfl (lv_at hl 2 rfl) ?_
          refine va_get (ci := 5) (C := RX5) (T := TX5) (N := 33) hx hb hts hinX5 hown hK.1 hP 0 rfl rfl 3 (by decide) (hts _ (List.mem_of_getElem? (i := 4) rfl)) (fun _ h9 => h9) rfl dX5_goesHour_61 ?_
          refine lv_iload_n hx hb dX5_goesHour_64 rfl (lv_at hl 1 rfl) ?_
          refine jald hx hb hK.1 hP 4 0 t rfl rfl rfl (by omega) (Nat.le_of_ble_eq_true rfl) dX5_goesHour_65 ?_
          refine lv_iload_n hx hb dX5_goesHour_66 rfl (lv_at hl 3 rfl) ?_
          refine kMvV hx hb hml hown hts hK hP hD hA hS gX5_goesHour_X5_drifts okX5_drifts (qX5_drifts l D cI cB r (us_ B (sn_ B)) M t z inferInstance (hI.2.1 t ht).2.2.1 hil hpa) [0, 1, 2, 3, 4, 5, 6, 7, 8, 9, 10, 11, 12, 13, 14, 15] rfl (by decide) (fun _ => rfl) rfl rfl rfl (by decide) hl.1 rfl rfl (Nat.le_of_ble_eq_true rfl) dX5_goesHour_67 (by decide) (fun u_16 H locs hw_17 hP hD hS => ?_)
          replace hw_17 : u_16 = (ui_ (us_ B (sn_ B)) (if z then aw_ (us_ B (sn_ B)) t else tw_ (us_ B (sn_ B)) t)) := hw_17
          subst u_16
          replace hP : va_P D vwCl (mW cI r (ui_ (us_ B (sn_ B)) (if z then aw_ (us_ B (sn_ B)) t else tw_ (us_ B (sn_ B)) t)) M) H := (va_P.m [true, true, true, true, true, true, true, true, true, true, true, true, true, true, true, true] [] hP)
          replace hD : va_D A (mW cI r (ui_ (us_ B (sn_ B)) (if z then aw_ (us_ B (sn_ B)) t else tw_ (us_ B (sn_ B)) t)) M) := (va_D.m [true, true, true, true, true, true, true, true, true, true, true, true, true, true, true, true] [] hD)
          refine lv_aload_n hx hb dX5_goesHour_70 rfl (lv_at hl 2 rfl) ?_
          refine lv_dup hx hb dX5_goesHour_71 rfl ?_
          refine va_get (ci := 5) (C := RX5) (T := TX5) (N := 33) hx hb hts hinX5 hown hK.1 hP 0 rfl rfl 10 (by decide) (hts _ (List.mem_of_getElem? (i := 1) rfl)) (fun _ h9 => h9) rfl dX5_goesHour_72 ?_
          refine lv_iconst (v := 1) hx hb dX5_goesHour_75 (by decide) ?_
          refine lv_iadd hx hb dX5_goesHour_76 ?_
          refine lv_topi (fun y_18 ey_18 => ?_)
          replace ey_18 : y_18 = (ho_ B) + 1 := ey_18
          refine va_put (ci := 5) (ty := .int) (C := RX5) (T := TX5) (N := 33) hx hb hts hinX5 tyX5 tyX5_ok nmX5 hown hK.1 hP hD hS 0 rfl rfl 10 (by decide) (hts _ (List.mem_of_getElem? (i := 1) rfl)) (fun _ h9 => h9) rfl (by decide +kernel) (rfl) (rfl) (Nat.le_of_ble_eq_true rfl) dX5_goesHour_77 (fun H locs hP hD hS => ?_)
          replace hP : va_P D vwCl (mW cI r (mkB (kd_ B) (fg_ B) (pl_ B) (sp_ B (sn_ B)) (jy_ B) (qt_ B) (sn_ B) (if z then aw_ (us_ B (sn_ B)) t else tw_ (us_ B (sn_ B)) t) (pa_ B) y_18 (dy_ B)) M) H := hP
          replace hD : va_D A (mW cI r (mkB (kd_ B) (fg_ B) (pl_ B) (sp_ B (sn_ B)) (jy_ B) (qt_ B) (sn_ B) (if z then aw_ (us_ B (sn_ B)) t else tw_ (us_ B (sn_ B)) t) (pa_ B) y_18 (dy_ B)) M) := hD
          refine lv_aload_n hx hb dX5_goesHour_80 rfl (lv_at hl 2 rfl) ?_
          refine va_get (ci := 5) (C := RX5) (T := TX5) (N := 33) hx hb hts hinX5 hown hK.1 hP 0 rfl rfl 10 (by decide) (hts _ (List.mem_of_getElem? (i := 1) rfl)) (fun _ h9 => h9) rfl dX5_goesHour_81 ?_
          refine lv_bipush (v := 24) hx hb dX5_goesHour_84 (by decide) ?_
          refine lv_icmp_ne (tgt := 104) hx hb dX5_goesHour_86 (by decide) (fun c_86 => ?_) (fun c_86 => ?_)
          · replace c_86 : ¬ y_18 = 24 := c_86
            rw [ey_18, ho_24 hho] at c_86
            refine lv_aload_n hx hb dX5_goesHour_104 rfl (lv_at hl 2 rfl) ?_
            refine kSiV hx hb hml hown hts hK hP gX5_goesHour_X5_holder okX5_holder (qX5_holder l D cI cB r (mkB (kd_ B) (fg_ B) (pl_ B) (sp_ B (sn_ B)) (jy_ B) (qt_ B) (sn_ B) (if z then aw_ (us_ B (sn_ B)) t else tw_ (us_ B (sn_ B)) t) (pa_ B) y_18 (dy_ B)) M hn7) [0, 1, 2, 3, 4, 5, 6, 7, 8, 9, 10, 11, 12, 13, 14, 15] rfl rfl rfl rfl (by decide) hl.1 rfl rfl (Nat.le_of_ble_eq_true rfl) dX5_goesHour_105 (by decide) (fun r_19 hr_20 => ?_)
            replace hr_20 : r_19 = oI_ (ow_ (mkB (kd_ B) (fg_ B) (pl_ B) (sp_ B (sn_ B)) (jy_ B) (qt_ B) (sn_ B) (if z then aw_ B t else tw_ B t) (pa_ B) y_18 (dy_ B))) := hr_20
            subst r_19
            refine lv_istore_n (lv' := [(3, .int (oI_ (ow_ (mkB (kd_ B) (fg_ B) (pl_ B) (sp_ B (sn_ B)) (jy_ B) (qt_ B) (sn_ B) (if z then aw_ B t else tw_ B t) (pa_ B) y_18 (dy_ B))))), (2, .int (nI t)), (0, .ref (r 0)), (1, .int (b1 z))]) hx hb dX5_goesHour_108 rfl hl (by decide) rfl (fun ls hl => ?_)
            rcases hO : ow_ (mkB (kd_ B) (fg_ B) (pl_ B) (sp_ B (sn_ B)) (jy_ B) (qt_ B) (sn_ B) (if z then aw_ B t else tw_ B t) (pa_ B) y_18 (dy_ B)) with _ | u2
            · rw [hO] at hl
              replace hl : lv_has ls 4 [(3, .int (-9)), (2, .int (nI t)), (0, .ref (r 0)), (1, .int (b1 z))] := hl
              refine lv_iload_n hx hb dX5_goesHour_109 rfl (lv_at hl 0 rfl) ?_
              refine lv_if_lt (tgt := 134) hx hb dX5_goesHour_110 (by decide) (fun _ => ?_) (fun q => absurd q (by decide))
              (try rw [ey_18] at hP); (try rw [ey_18] at hD); (try rw [ey_18] at hl); (try rw [ey_18] at c_16); (try rw [ey_18] at hL); (try rw [ey_18] at c_86); (try rw [ey_18] at hO); (try rw [ey_18])
              refine rMv hx hb hr hlk hS (mkB (kd_ B) (fg_ B) (pl_ B) (sp_ B (sn_ B)) (jy_ B) (qt_ B) (sn_ B) (if z then aw_ (us_ B (sn_ B)) t else tw_ (us_ B (sn_ B)) t) (pa_ B) ((ho_ B) + 1) (dy_ B)) hP ?_ dX5_goesHour_134
              have hO2 : at_ (pl_ B) (if z then aw_ B t else tw_ B t) (sn_ B) 0 = none := hO
              exact hb_fin (z := z) (i2 := (if z then aw_ B t else tw_ B t)) (h2 := ((ho_ B) + 1)) (d2 := (dy_ B)) (j2 := (jy_ B)) hL (Or.inr ⟨t, rfl, (Decidable.em z).elim (fun zz => Or.inl ⟨zz, if_pos zz⟩) (fun zz => Or.inr ⟨zz, if_neg zz⟩)⟩) hO2 (Or.inl ⟨rfl, rfl⟩) (Or.inr ⟨c_86, rfl, rfl⟩)
            · rw [hO] at hl
              replace hl : lv_has ls 4 [(3, .int (nI u2)), (2, .int (nI t)), (0, .ref (r 0)), (1, .int (b1 z))] := hl
              have hu : u2 < sn_ B := (sa_lt hO).1
              refine lv_iload_n hx hb dX5_goesHour_109 rfl (lv_at hl 0 rfl) ?_
              refine lv_if_lt (tgt := 134) hx hb dX5_goesHour_110 (by decide) (fun q => absurd q (nI_pos (by omega))) (fun _ => ?_)
              refine lv_aload_n hx hb dX5_goesHour_113 rfl (lv_at hl 2 rfl) ?_
              refine va_get (ci := 5) (C := RX5) (T := TX5) (N := 33) hx hb hts hinX5 hown hK.1 hP 0 rfl rfl 5 (by decide) (hts _ (List.mem_of_getElem? (i := 6) rfl)) (fun _ h9 => h9) rfl dX5_goesHour_114 ?_
              refine lv_iload_n hx hb dX5_goesHour_117 rfl (lv_at hl 0 rfl) ?_
              refine lv_aload_n hx hb dX5_goesHour_118 rfl (lv_at hl 2 rfl) ?_
              refine va_get (ci := 5) (C := RX5) (T := TX5) (N := 33) hx hb hts hinX5 hown hK.1 hP 0 rfl rfl 5 (by decide) (hts _ (List.mem_of_getElem? (i := 6) rfl)) (fun _ h9 => h9) rfl dX5_goesHour_119 ?_
              refine lv_iload_n hx hb dX5_goesHour_122 rfl (lv_at hl 0 rfl) ?_
              refine jald hx hb hK.1 hP 6 0 u2 rfl rfl rfl (by omega) (Nat.le_of_ble_eq_true rfl) dX5_goesHour_123 ?_
              refine lv_iconst (v := 1) hx hb dX5_goesHour_124 (by decide) ?_
              refine lv_iadd hx hb dX5_goesHour_125 ?_
              refine lv_iconst (v := 0) hx hb dX5_goesHour_126 (by decide) ?_
              refine lv_sipush (v := 999) hx hb dX5_goesHour_127 (by decide) ?_
              refine kSiS hx hb hml hown hts hK hP gX5_goesHour_X5_held okX5_held (qX5_held l D cI cB (((jy_ B) u2) + 1) 0 999 ) [] rfl (by decide) hl.1 rfl rfl (Nat.le_of_ble_eq_true rfl) dX5_goesHour_130 (by decide) (fun r_21 hr_22 => ?_)
              replace hr_22 : r_21 = he_ (((jy_ B) u2) + 1) 0 999 := hr_22
              subst r_21
              refine jast hx hb hK.1 hP hD hS 6 0 u2 rfl rfl rfl (by omega) (Nat.le_of_ble_eq_true rfl) dX5_goesHour_133 (fun f_23 ef_23 H locs hP hD hS => ?_)
              replace ef_23 : f_23 = upd (jy_ B) u2 (he_ (((jy_ B) u2) + 1) 0 999) := ef_23
              replace hP : va_P D vwCl (mW cI r (mkB (kd_ B) (fg_ B) (pl_ B) (sp_ B (sn_ B)) f_23 (qt_ B) (sn_ B) (if z then aw_ (us_ B (sn_ B)) t else tw_ (us_ B (sn_ B)) t) (pa_ B) y_18 (dy_ B)) M) H := hP
              replace hD : va_D A (mW cI r (mkB (kd_ B) (fg_ B) (pl_ B) (sp_ B (sn_ B)) f_23 (qt_ B) (sn_ B) (if z then aw_ (us_ B (sn_ B)) t else tw_ (us_ B (sn_ B)) t) (pa_ B) y_18 (dy_ B)) M) := hD
              (try rw [ef_23] at hP); (try rw [ef_23] at hD); (try rw [ef_23] at hl); (try rw [ef_23] at c_16); (try rw [ef_23] at hL); (try rw [ef_23] at c_86); (try rw [ef_23] at hO); (try rw [ef_23])
              (try rw [ey_18] at hP); (try rw [ey_18] at hD); (try rw [ey_18] at hl); (try rw [ey_18] at c_16); (try rw [ey_18] at hL); (try rw [ey_18] at c_86); (try rw [ey_18] at hO); (try rw [ey_18])
              refine rMv hx hb hr hlk hS (mkB (kd_ B) (fg_ B) (pl_ B) (sp_ B (sn_ B)) (upd (jy_ B) u2 (he_ (((jy_ B) u2) + 1) 0 999)) (qt_ B) (sn_ B) (if z then aw_ (us_ B (sn_ B)) t else tw_ (us_ B (sn_ B)) t) (pa_ B) ((ho_ B) + 1) (dy_ B)) hP ?_ dX5_goesHour_134
              have hO2 : at_ (pl_ B) (if z then aw_ B t else tw_ B t) (sn_ B) 0 = some u2 := hO
              exact hb_fin (z := z) (i2 := (if z then aw_ B t else tw_ B t)) (h2 := ((ho_ B) + 1)) (d2 := (dy_ B)) (j2 := (upd (jy_ B) u2 (he_ (((jy_ B) u2) + 1) 0 999))) hL (Or.inr ⟨t, rfl, (Decidable.em z).elim (fun zz => Or.inl ⟨zz, if_pos zz⟩) (fun zz => Or.inr ⟨zz, if_neg zz⟩)⟩) hO2 (Or.inr ⟨u2, rfl, by rw [he_jo (hI.2.1 u2 hu).2.2.2.2]⟩) (Or.inr ⟨c_86, rfl, rfl⟩)
          · replace c_86 : y_18 = 24 := c_86
            rw [ey_18, ho_24 hho] at c_86
            refine lv_aload_n hx hb dX5_goesHour_89 rfl (lv_at hl 2 rfl) ?_
            refine lv_iconst (v := 0) hx hb dX5_goesHour_90 (by decide) ?_
            refine va_put (ci := 5) (ty := .int) (C := RX5) (T := TX5) (N := 33) hx hb hts hinX5 tyX5 tyX5_ok nmX5 hown hK.1 hP hD hS 0 rfl rfl 10 (by decide) (hts _ (List.mem_of_getElem? (i := 1) rfl)) (fun _ h9 => h9) rfl (by decide +kernel) (rfl) (rfl) (Nat.le_of_ble_eq_true rfl) dX5_goesHour_91 (fun H locs hP hD hS => ?_)
            replace hP : va_P D vwCl (mW cI r (mkB (kd_ B) (fg_ B) (pl_ B) (sp_ B (sn_ B)) (jy_ B) (qt_ B) (sn_ B) (if z then aw_ (us_ B (sn_ B)) t else tw_ (us_ B (sn_ B)) t) (pa_ B) 0 (dy_ B)) M) H := hP
            replace hD : va_D A (mW cI r (mkB (kd_ B) (fg_ B) (pl_ B) (sp_ B (sn_ B)) (jy_ B) (qt_ B) (sn_ B) (if z then aw_ (us_ B (sn_ B)) t else tw_ (us_ B (sn_ B)) t) (pa_ B) 0 (dy_ B)) M) := hD
            refine lv_aload_n hx hb dX5_goesHour_94 rfl (lv_at hl 2 rfl) ?_
            refine lv_dup hx hb dX5_goesHour_95 rfl ?_
            refine va_get (ci := 5) (C := RX5) (T := TX5) (N := 33) hx hb hts hinX5 hown hK.1 hP 0 rfl rfl 11 (by decide) (hts _ (List.mem_of_getElem? (i := 5) rfl)) (fun _ h9 => h9) rfl dX5_goesHour_96 ?_
            refine lv_iconst (v := 1) hx hb dX5_goesHour_99 (by decide) ?_
            refine lv_iadd hx hb dX5_goesHour_100 ?_
            refine lv_topi (fun y_24 ey_24 => ?_)
            replace ey_24 : y_24 = (dy_ B) + 1 := ey_24
            refine va_put (ci := 5) (ty := .int) (C := RX5) (T := TX5) (N := 33) hx hb hts hinX5 tyX5 tyX5_ok nmX5 hown hK.1 hP hD hS 0 rfl rfl 11 (by decide) (hts _ (List.mem_of_getElem? (i := 5) rfl)) (fun _ h9 => h9) rfl (by decide +kernel) (rfl) (rfl) (Nat.le_of_ble_eq_true rfl) dX5_goesHour_101 (fun H locs hP hD hS => ?_)
            replace hP : va_P D vwCl (mW cI r (mkB (kd_ B) (fg_ B) (pl_ B) (sp_ B (sn_ B)) (jy_ B) (qt_ B) (sn_ B) (if z then aw_ (us_ B (sn_ B)) t else tw_ (us_ B (sn_ B)) t) (pa_ B) 0 y_24) M) H := hP
            replace hD : va_D A (mW cI r (mkB (kd_ B) (fg_ B) (pl_ B) (sp_ B (sn_ B)) (jy_ B) (qt_ B) (sn_ B) (if z then aw_ (us_ B (sn_ B)) t else tw_ (us_ B (sn_ B)) t) (pa_ B) 0 y_24) M) := hD
            refine lv_aload_n hx hb dX5_goesHour_104 rfl (lv_at hl 2 rfl) ?_
            refine kSiV hx hb hml hown hts hK hP gX5_goesHour_X5_holder okX5_holder (qX5_holder l D cI cB r (mkB (kd_ B) (fg_ B) (pl_ B) (sp_ B (sn_ B)) (jy_ B) (qt_ B) (sn_ B) (if z then aw_ (us_ B (sn_ B)) t else tw_ (us_ B (sn_ B)) t) (pa_ B) 0 y_24) M hn7) [0, 1, 2, 3, 4, 5, 6, 7, 8, 9, 10, 11, 12, 13, 14, 15] rfl rfl rfl rfl (by decide) hl.1 rfl rfl (Nat.le_of_ble_eq_true rfl) dX5_goesHour_105 (by decide) (fun r_25 hr_26 => ?_)
            replace hr_26 : r_25 = oI_ (ow_ (mkB (kd_ B) (fg_ B) (pl_ B) (sp_ B (sn_ B)) (jy_ B) (qt_ B) (sn_ B) (if z then aw_ B t else tw_ B t) (pa_ B) 0 y_24)) := hr_26
            subst r_25
            refine lv_istore_n (lv' := [(3, .int (oI_ (ow_ (mkB (kd_ B) (fg_ B) (pl_ B) (sp_ B (sn_ B)) (jy_ B) (qt_ B) (sn_ B) (if z then aw_ B t else tw_ B t) (pa_ B) 0 y_24)))), (2, .int (nI t)), (0, .ref (r 0)), (1, .int (b1 z))]) hx hb dX5_goesHour_108 rfl hl (by decide) rfl (fun ls hl => ?_)
            rcases hO : ow_ (mkB (kd_ B) (fg_ B) (pl_ B) (sp_ B (sn_ B)) (jy_ B) (qt_ B) (sn_ B) (if z then aw_ B t else tw_ B t) (pa_ B) 0 y_24) with _ | u2
            · rw [hO] at hl
              replace hl : lv_has ls 4 [(3, .int (-9)), (2, .int (nI t)), (0, .ref (r 0)), (1, .int (b1 z))] := hl
              refine lv_iload_n hx hb dX5_goesHour_109 rfl (lv_at hl 0 rfl) ?_
              refine lv_if_lt (tgt := 134) hx hb dX5_goesHour_110 (by decide) (fun _ => ?_) (fun q => absurd q (by decide))
              (try rw [ey_24] at hP); (try rw [ey_24] at hD); (try rw [ey_24] at hl); (try rw [ey_24] at c_16); (try rw [ey_24] at hL); (try rw [ey_24] at c_86); (try rw [ey_24] at hO); (try rw [ey_24])
              (try rw [ey_18] at hP); (try rw [ey_18] at hD); (try rw [ey_18] at hl); (try rw [ey_18] at c_16); (try rw [ey_18] at hL); (try rw [ey_18] at c_86); (try rw [ey_18] at hO); (try rw [ey_18])
              refine rMv hx hb hr hlk hS (mkB (kd_ B) (fg_ B) (pl_ B) (sp_ B (sn_ B)) (jy_ B) (qt_ B) (sn_ B) (if z then aw_ (us_ B (sn_ B)) t else tw_ (us_ B (sn_ B)) t) (pa_ B) 0 ((dy_ B) + 1)) hP ?_ dX5_goesHour_134
              have hO2 : at_ (pl_ B) (if z then aw_ B t else tw_ B t) (sn_ B) 0 = none := hO
              exact hb_fin (z := z) (i2 := (if z then aw_ B t else tw_ B t)) (h2 := 0) (d2 := ((dy_ B) + 1)) (j2 := (jy_ B)) hL (Or.inr ⟨t, rfl, (Decidable.em z).elim (fun zz => Or.inl ⟨zz, if_pos zz⟩) (fun zz => Or.inr ⟨zz, if_neg zz⟩)⟩) hO2 (Or.inl ⟨rfl, rfl⟩) (Or.inl ⟨c_86, rfl, rfl⟩)
            · rw [hO] at hl
              replace hl : lv_has ls 4 [(3, .int (nI u2)), (2, .int (nI t)), (0, .ref (r 0)), (1, .int (b1 z))] := hl
              have hu : u2 < sn_ B := (sa_lt hO).1
              refine lv_iload_n hx hb dX5_goesHour_109 rfl (lv_at hl 0 rfl) ?_
              refine lv_if_lt (tgt := 134) hx hb dX5_goesHour_110 (by decide) (fun q => absurd q (nI_pos (by omega))) (fun _ => ?_)
              refine lv_aload_n hx hb dX5_goesHour_113 rfl (lv_at hl 2 rfl) ?_
              refine va_get (ci := 5) (C := RX5) (T := TX5) (N := 33) hx hb hts hinX5 hown hK.1 hP 0 rfl rfl 5 (by decide) (hts _ (List.mem_of_getElem? (i := 6) rfl)) (fun _ h9 => h9) rfl dX5_goesHour_114 ?_
              refine lv_iload_n hx hb dX5_goesHour_117 rfl (lv_at hl 0 rfl) ?_
              refine lv_aload_n hx hb dX5_goesHour_118 rfl (lv_at hl 2 rfl) ?_
              refine va_get (ci := 5) (C := RX5) (T := TX5) (N := 33) hx hb hts hinX5 hown hK.1 hP 0 rfl rfl 5 (by decide) (hts _ (List.mem_of_getElem? (i := 6) rfl)) (fun _ h9 => h9) rfl dX5_goesHour_119 ?_
              refine lv_iload_n hx hb dX5_goesHour_122 rfl (lv_at hl 0 rfl) ?_
              refine jald hx hb hK.1 hP 6 0 u2 rfl rfl rfl (by omega) (Nat.le_of_ble_eq_true rfl) dX5_goesHour_123 ?_
              refine lv_iconst (v := 1) hx hb dX5_goesHour_124 (by decide) ?_
              refine lv_iadd hx hb dX5_goesHour_125 ?_
              refine lv_iconst (v := 0) hx hb dX5_goesHour_126 (by decide) ?_
              refine lv_sipush (v := 999) hx hb dX5_goesHour_127 (by decide) ?_
              refine kSiS hx hb hml hown hts hK hP gX5_goesHour_X5_held okX5_held (qX5_held l D cI cB (((jy_ B) u2) + 1) 0 999 ) [] rfl (by decide) hl.1 rfl rfl (Nat.le_of_ble_eq_true rfl) dX5_goesHour_130 (by decide) (fun r_27 hr_28 => ?_)
              replace hr_28 : r_27 = he_ (((jy_ B) u2) + 1) 0 999 := hr_28
              subst r_27
              refine jast hx hb hK.1 hP hD hS 6 0 u2 rfl rfl rfl (by omega) (Nat.le_of_ble_eq_true rfl) dX5_goesHour_133 (fun f_29 ef_29 H locs hP hD hS => ?_)
              replace ef_29 : f_29 = upd (jy_ B) u2 (he_ (((jy_ B) u2) + 1) 0 999) := ef_29
              replace hP : va_P D vwCl (mW cI r (mkB (kd_ B) (fg_ B) (pl_ B) (sp_ B (sn_ B)) f_29 (qt_ B) (sn_ B) (if z then aw_ (us_ B (sn_ B)) t else tw_ (us_ B (sn_ B)) t) (pa_ B) 0 y_24) M) H := hP
              replace hD : va_D A (mW cI r (mkB (kd_ B) (fg_ B) (pl_ B) (sp_ B (sn_ B)) f_29 (qt_ B) (sn_ B) (if z then aw_ (us_ B (sn_ B)) t else tw_ (us_ B (sn_ B)) t) (pa_ B) 0 y_24) M) := hD
              (try rw [ef_29] at hP); (try rw [ef_29] at hD); (try rw [ef_29] at hl); (try rw [ef_29] at c_16); (try rw [ef_29] at hL); (try rw [ef_29] at c_86); (try rw [ef_29] at hO); (try rw [ef_29])
              (try rw [ey_24] at hP); (try rw [ey_24] at hD); (try rw [ey_24] at hl); (try rw [ey_24] at c_16); (try rw [ey_24] at hL); (try rw [ey_24] at c_86); (try rw [ey_24] at hO); (try rw [ey_24])
              (try rw [ey_18] at hP); (try rw [ey_18] at hD); (try rw [ey_18] at hl); (try rw [ey_18] at c_16); (try rw [ey_18] at hL); (try rw [ey_18] at c_86); (try rw [ey_18] at hO); (try rw [ey_18])
              refine rMv hx hb hr hlk hS (mkB (kd_ B) (fg_ B) (pl_ B) (sp_ B (sn_ B)) (upd (jy_ B) u2 (he_ (((jy_ B) u2) + 1) 0 999)) (qt_ B) (sn_ B) (if z then aw_ (us_ B (sn_ B)) t else tw_ (us_ B (sn_ B)) t) (pa_ B) 0 ((dy_ B) + 1)) hP ?_ dX5_goesHour_134
              have hO2 : at_ (pl_ B) (if z then aw_ B t else tw_ B t) (sn_ B) 0 = some u2 := hO
              exact hb_fin (z := z) (i2 := (if z then aw_ B t else tw_ B t)) (h2 := 0) (d2 := ((dy_ B) + 1)) (j2 := (upd (jy_ B) u2 (he_ (((jy_ B) u2) + 1) 0 999))) hL (Or.inr ⟨t, rfl, (Decidable.em z).elim (fun zz => Or.inl ⟨zz, if_pos zz⟩) (fun zz => Or.inr ⟨zz, if_neg zz⟩)⟩) hO2 (Or.inr ⟨u2, rfl, by rw [he_jo (hI.2.1 u2 hu).2.2.2.2]⟩) (Or.inl ⟨c_86, rfl, rfl⟩)
      · replace c_16 : ¬ nI (sn_ B) ≤ nI i := c_16
        rw [jle (by omega) (by omega)] at c_16
        refine lv_aload_n hx hb dX5_goesHour_19 rfl (lv_at hl 2 rfl) ?_
        refine va_get (ci := 5) (C := RX5) (T := TX5) (N := 33) hx hb hts hinX5 hown hK.1 hP 0 rfl rfl 4 (by decide) (hts _ (List.mem_of_getElem? (i := 3) rfl)) (fun _ h9 => h9) rfl dX5_goesHour_20 ?_
        refine lv_iload_n hx hb dX5_goesHour_23 rfl (lv_at hl 0 rfl) ?_
        refine lv_dup2_11 hx hb dX5_goesHour_24 rfl rfl ?_
        refine jald hx hb hK.1 hP 5 0 i rfl rfl rfl (by omega) (Nat.le_of_ble_eq_true rfl) dX5_goesHour_25 ?_
        refine lv_aload_n hx hb dX5_goesHour_26 rfl (lv_at hl 2 rfl) ?_
        refine lv_iload_n hx hb dX5_goesHour_27 rfl (lv_at hl 0 rfl) ?_
        refine lv_aload_n hx hb dX5_goesHour_28 rfl (lv_at hl 2 rfl) ?_
        refine va_get (ci := 5) (C := RX5) (T := TX5) (N := 33) hx hb hts hinX5 hown hK.1 hP 0 rfl rfl 10 (by decide) (hts _ (List.mem_of_getElem? (i := 1) rfl)) (fun _ h9 => h9) rfl dX5_goesHour_29 ?_
        refine kSiV hx hb hml hown hts hK hP gX5_goesHour_X5_noiseOf okX5_noiseOf (qX5_noiseOf l D cI cB r (us_ B i) M i (ho_ B) (by omega) (hI.2.1 i (by omega)).1) [0, 1, 2, 3, 4, 5, 6, 7, 8, 9, 10, 11, 12, 13, 14, 15] rfl rfl rfl rfl (by decide) hl.1 rfl rfl (Nat.le_of_ble_eq_true rfl) dX5_goesHour_32 (by decide) (fun r_30 hr_31 => ?_)
        replace hr_31 : r_30 = no_ (us_ B i) i (ho_ B) := hr_31
        subst r_30
        refine lv_if_le (tgt := 46) hx hb dX5_goesHour_35 (by decide) (fun c_35 => ?_) (fun c_35 => ?_)
        · rw [no_us B i i _ (Nat.le_refl _)] at c_35
          refine lv_iconst (v := 0) hx hb dX5_goesHour_46 (by decide) ?_
          refine lv_isub hx hb dX5_goesHour_47 ?_
          refine jast hx hb hK.1 hP hD hS 5 0 i rfl rfl rfl (by omega) (Nat.le_of_ble_eq_true rfl) dX5_goesHour_48 (fun f_32 ef_32 H locs hP hD hS => ?_)
          replace ef_32 : f_32 = upd (sp_ B i) i (((sp_ B i) i) - 0) := ef_32
          replace hP : va_P D vwCl (mW cI r (mkB (kd_ B) (fg_ B) (pl_ B) f_32 (jy_ B) (qt_ B) (sn_ B) (il_ B) (pa_ B) (ho_ B) (dy_ B)) M) H := hP
          replace hD : va_D A (mW cI r (mkB (kd_ B) (fg_ B) (pl_ B) f_32 (jy_ B) (qt_ B) (sn_ B) (il_ B) (pa_ B) (ho_ B) (dy_ B)) M) := hD
          refine lv_iinc (v := (nI i) + 1) (lv' := [(3, .int ((nI i) + 1)), (2, .int (oI_ (lt_ B (ho_ B)))), (0, .ref (r 0)), (1, .int (b1 z))]) hx hb dX5_goesHour_49 hl (k := 0) rfl (by first | rfl | decide) (by decide) rfl (fun ls hl => ?_)
          refine lv_goto (tgt := 11) hx hb dX5_goesHour_52 (by decide) ?_
          (try rw [ef_32] at hP); (try rw [ef_32] at hD); (try rw [ef_32] at hl); (try rw [ef_32] at c_16); (try rw [ef_32] at c_35); (try rw [ef_32])
          exact ih_11 (i + 1) ((nI i) + 1) (mkB (kd_ B) (fg_ B) (pl_ B) (upd (sp_ B i) i (((sp_ B i) i) - 0)) (jy_ B) (qt_ B) (sn_ B) (il_ B) (pa_ B) (ho_ B) (dy_ B)) (by first | rfl | exact nI_1 _) (by first | exact us_z B i c_35 | exact us_y B i (Int32.not_le.mp c_35)) (by omega) (by omega) _ _ hP hD hS ls (lv_sub hl [0, 1, 2, 3] rfl)
        · rw [no_us B i i _ (Nat.le_refl _)] at c_35
          refine lv_aload_n hx hb dX5_goesHour_38 rfl (lv_at hl 2 rfl) ?_
          refine lv_iload_n hx hb dX5_goesHour_39 rfl (lv_at hl 0 rfl) ?_
          refine kSiV hx hb hml hown hts hK hP gX5_goesHour_X5_costsOf okX5_costsOf (qX5_costsOf l D cI cB r (us_ B i) M i (by omega)) [0, 1, 2, 3, 4, 5, 6, 7, 8, 9, 10, 11, 12, 13, 14, 15] rfl rfl rfl rfl (by decide) hl.1 rfl rfl (Nat.le_of_ble_eq_true rfl) dX5_goesHour_40 (by decide) (fun r_33 hr_34 => ?_)
          replace hr_34 : r_33 = co_ (kd_ (us_ B i) i) (fg_ (us_ B i) i) := hr_34
          subst r_33
          refine lv_goto (tgt := 47) hx hb dX5_goesHour_43 (by decide) ?_
          refine lv_isub hx hb dX5_goesHour_47 ?_
          refine jast hx hb hK.1 hP hD hS 5 0 i rfl rfl rfl (by omega) (Nat.le_of_ble_eq_true rfl) dX5_goesHour_48 (fun f_35 ef_35 H locs hP hD hS => ?_)
          replace ef_35 : f_35 = upd (sp_ B i) i (((sp_ B i) i) - (co_ (kd_ (us_ B i) i) (fg_ (us_ B i) i))) := ef_35
          replace hP : va_P D vwCl (mW cI r (mkB (kd_ B) (fg_ B) (pl_ B) f_35 (jy_ B) (qt_ B) (sn_ B) (il_ B) (pa_ B) (ho_ B) (dy_ B)) M) H := hP
          replace hD : va_D A (mW cI r (mkB (kd_ B) (fg_ B) (pl_ B) f_35 (jy_ B) (qt_ B) (sn_ B) (il_ B) (pa_ B) (ho_ B) (dy_ B)) M) := hD
          refine lv_iinc (v := (nI i) + 1) (lv' := [(3, .int ((nI i) + 1)), (2, .int (oI_ (lt_ B (ho_ B)))), (0, .ref (r 0)), (1, .int (b1 z))]) hx hb dX5_goesHour_49 hl (k := 0) rfl (by first | rfl | decide) (by decide) rfl (fun ls hl => ?_)
          refine lv_goto (tgt := 11) hx hb dX5_goesHour_52 (by decide) ?_
          (try rw [ef_35] at hP); (try rw [ef_35] at hD); (try rw [ef_35] at hl); (try rw [ef_35] at c_16); (try rw [ef_35] at c_35); (try rw [ef_35])
          exact ih_11 (i + 1) ((nI i) + 1) (mkB (kd_ B) (fg_ B) (pl_ B) (upd (sp_ B i) i (((sp_ B i) i) - (co_ (kd_ (us_ B i) i) (fg_ (us_ B i) i)))) (jy_ B) (qt_ B) (sn_ B) (il_ B) (pa_ B) (ho_ B) (dy_ B)) (by first | rfl | exact nI_1 _) (by first | exact us_z B i c_35 | exact us_y B i (Int32.not_le.mp c_35)) (by omega) (by omega) _ _ hP hD hS ls (lv_sub hl [0, 1, 2, 3] rfl)
  exact lp_11 ((sn_ B) + 1) 0 0 B (by first | rfl | exact nI_0.symm) ((us_0 B).symm) (by omega) (by omega) _ _ hP hD hS ls (lv_sub hl [0, 1, 2, 3] rfl)

