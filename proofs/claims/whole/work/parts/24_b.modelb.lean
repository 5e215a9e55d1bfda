theorem okX5_goes : jok yX5_goes wsX5_goes cX5_goes 3 none 1 := ⟨⟨_, rfl⟩, by decide +kernel, by decide +kernel⟩
set_option maxHeartbeats 1000000 in
set_option maxRecDepth 100000 in
theorem qX5_goes (l : Launch) (D : va_G) (cI cB : ClassId) (r : Nat → Nat) (B : BayT) (M : MT) (n : Nat) (hI : bI_ B) (hn : n < 2147483647) : jMv D cI cB l yX5_goes wsX5_goes 6 [.ref (r 0), .int (nI n)] (mW cI r B M) (S := BayT) (fun u => u = hs_ n B) (fun u => mW cI r u M) := by
  refine jMv.of (cc := cX5_goes) (maxL := 3) (ret := none) okX5_goes (Nat.le_of_ble_eq_true rfl) ?_
  intro p e s m below meth c ls A hx hb hr hts hown hlk hml hP hK hD hA hS hl
  replace hown : s.vm.findClass RX5 = some m.cls := hown
  replace hl : lv_has ls 3 [(0, .ref (r 0)), (1, .int (nI n))] := hl
  refine lv_iconst (v := 0) hx hb dX5_goes_0 (by decide) ?_
  refine lv_istore_n (lv' := [(2, .int 0), (0, .ref (r 0)), (1, .int (nI n))]) hx hb dX5_goes_1 rfl hl (by decide) rfl (fun ls hl => ?_)
  have lp_2 : ∀ (fu_2 : Nat) (i : Nat) (x2_2 : Int32) (T : BayT), (x2_2 = nI i) → (T = hs_ i B) → (i ≤ n) → n - i < fu_2 → ∀ (H : Heap) (locs : List Loc), va_P D vwCl (mW cI r T M) H → va_D A (mW cI r T M) → va_S A s.heap H locs → ∀ ls : Array Slot, lv_has ls 3 [(2, .int x2_2), (0, .ref (r 0)), (1, .int (nI n))] → W p l e (jR 6) s m ([.ref (r 0), .int (nI n)] : List Value).toArray below meth c H locs 0 0 (MQ below (va_Qv (S := BayT) (fun u => u = hs_ n B) (fun u t => va_P D vwCl ((fun u => mW cI r u M) u) t.heap) A) ([.ref (r 0), .int (nI n)] : List Value).toArray s 0 0 A) (F0 m 2 ls []) := by
    intro fu_2
    induction fu_2 with
    | zero => intro i x2_2 T hx2_2 hT hi hfu; exact absurd hfu (Nat.not_lt_zero _)
    | succ fu_2 ih_2 =>
      intro i x2_2 T hx2_2 hT hi hfu_2 H locs hP hD hS ls hl
      subst x2_2
      subst T
      replace hl : lv_has ls 3 [(2, .int (nI i)), (0, .ref (r 0)), (1, .int (nI n))] := hl
      replace hP : va_P D vwCl (mW cI r (hs_ i B) M) H := hP
      replace hD : va_D A (mW cI r (hs_ i B) M) := hD
      refine lv_iload_n hx hb dX5_goes_2 rfl (lv_at hl 0 rfl) ?_
      refine lv_iload_n hx hb dX5_goes_3 rfl (lv_at hl 2 rfl) ?_
      refine lv_icmp_ge (tgt := 18) hx hb dX5_goes_4 (by decide) (fun c_4 => ?_) (fun c_4 => ?_)
      · replace c_4 : nI n ≤ nI i := c_4
        rw [jle (by omega) (by omega)] at c_4
        refine rMv hx hb hr hlk hS (hs_ i B) hP ?_ dX5_goes_18
        have e9 : i = n := by omega
        subst e9; rfl
      · replace c_4 : ¬ nI n ≤ nI i := c_4
        rw [jle (by omega) (by omega)] at c_4
        refine lv_aload_n hx hb dX5_goes_7 rfl (lv_at hl 1 rfl) ?_
        refine lv_iconst (v := 0) hx hb dX5_goes_8 (by decide) ?_
        refine kMvV hx hb hml hown hts hK hP hD hA hS gX5_goes_X5_goesHour okX5_goesHour (qX5_goesHour l D cI cB r (hs_ i B) M False inferInstance (bI_hs hI i)) [0, 1, 2, 3, 4, 5, 6, 7, 8, 9, 10, 11, 12, 13, 14, 15] rfl (by decide) (fun _ => rfl) rfl rfl rfl (by decide) hl.1 rfl rfl (Nat.le_of_ble_eq_true rfl) dX5_goes_9 (by decide) (fun u_2 H locs hw_3 hP hD hS => ?_)
        replace hw_3 : u_2 = hb_ False (hs_ i B) := hw_3
        subst u_2
        replace hP : va_P D vwCl (mW cI r (hb_ False (hs_ i B)) M) H := (va_P.m [true, true, true, true, true, true, true, true, true, true, true, true, true, true, true, true] [] hP)
        replace hD : va_D A (mW cI r (hb_ False (hs_ i B)) M) := (va_D.m [true, true, true, true, true, true, true, true, true, true, true, true, true, true, true, true] [] hD)
        refine lv_iinc (v := (nI i) + 1) (lv' := [(2, .int ((nI i) + 1)), (0, .ref (r 0)), (1, .int (nI n))]) hx hb dX5_goes_12 hl (k := 0) rfl (by first | rfl | decide) (by decide) rfl (fun ls hl => ?_)
        refine lv_goto (tgt := 2) hx hb dX5_goes_15 (by decide) ?_
        exact ih_2 (i + 1) ((nI i) + 1) (hb_ False (hs_ i B)) (by first | rfl | exact nI_1 _) (rfl) (by omega) (by omega) _ _ hP hD hS ls (lv_sub hl [0, 1, 2] rfl)
  exact lp_2 (n + 1) 0 0 B (by first | rfl | exact nI_0.symm) (rfl) (by omega) (by omega) _ _ hP hD hS ls (lv_sub hl [0, 1, 2] rfl)

theorem okX5_isLate : jok yX5_isLate wsX5_isLate cX5_isLate 2 (some .boolean) 1 := ⟨⟨_, rfl⟩, by decide +kernel, by decide +kernel⟩
set_option maxHeartbeats 1000000 in
set_option maxRecDepth 100000 in
theorem qX5_isLate (l : Launch) (D : va_G) (cI cB : ClassId) (r : Nat → Nat) (B : BayT) (M : MT) (n : Int32)  : jSi D cI cB l yX5_isLate wsX5_isLate 0 [.ref (r 0), .int n] (mW cI r B M) (fun r => r = b1 (999 < dy_ B + (ho_ B + n) / 24)) := by
  refine jSi.of (cc := cX5_isLate) (maxL := 2) (ret := (some .boolean)) okX5_isLate (Nat.le_of_ble_eq_true rfl) ?_
  intro p e s m below meth c ls hx hb hr hts hown hlk hml hP hK hl
  replace hown : s.vm.findClass RX5 = some m.cls := hown
  replace hl : lv_has ls 2 [(0, .ref (r 0)), (1, .int n)] := hl
  have hinX5 : ∀ w ∈ wsX50, w ∈ wsX5_isLate := by decide +kernel
  refine lv_aload_n hx hb dX5_isLate_0 rfl (lv_at hl 0 rfl) ?_
  refine va_get (ci := 5) (C := RX5) (T := TX5) (N := 33) hx hb hts hinX5 hown hK.1 hP 0 rfl rfl 11 (by decide) (hts _ (List.mem_of_getElem? (i := 1) rfl)) (fun _ h9 => h9) rfl dX5_isLate_1 ?_
  refine lv_aload_n hx hb dX5_isLate_4 rfl (lv_at hl 0 rfl) ?_
  refine va_get (ci := 5) (C := RX5) (T := TX5) (N := 33) hx hb hts hinX5 hown hK.1 hP 0 rfl rfl 10 (by decide) (hts _ (List.mem_of_getElem? (i := 2) rfl)) (fun _ h9 => h9) rfl dX5_isLate_5 ?_
  refine lv_iload_n hx hb dX5_isLate_8 rfl (lv_at hl 1 rfl) ?_
  refine lv_iadd hx hb dX5_isLate_9 ?_
  refine lv_bipush (v := 24) hx hb dX5_isLate_10 (by decide) ?_
  refine lv_idiv hx hb dX5_isLate_12 (by decide) ?_
  refine lv_iadd hx hb dX5_isLate_13 ?_
  refine lv_sipush (v := 999) hx hb dX5_isLate_14 (by decide) ?_
  refine lv_icmp_le (tgt := 24) hx hb dX5_isLate_17 (by decide) (fun c_17 => ?_) (fun c_17 => ?_)
  · have d_17 := Int32.not_lt.mpr c_17
    refine lv_iconst (v := 0) hx hb dX5_isLate_24 (by decide) ?_
    refine rSz hx hb hr hlk (Or.inl rfl) ?_ dX5_isLate_25
    show 0 = _
    first | exact (b1_t (by first | assumption | exact Int32.not_le.mp (by assumption) | exact Int32.not_lt.mpr (by assumption))).symm | exact (b1_f (by first | assumption | exact Int32.not_le.mp (by assumption) | exact Int32.not_lt.mpr (by assumption))).symm
  · have d_17 := Int32.not_le.mp c_17
    refine lv_iconst (v := 1) hx hb dX5_isLate_20 (by decide) ?_
    refine lv_goto (tgt := 25) hx hb dX5_isLate_21 (by decide) ?_
    refine rSz hx hb hr hlk (Or.inr rfl) ?_ dX5_isLate_25
    show 1 = _
    first | exact (b1_t (by first | assumption | exact Int32.not_le.mp (by assumption) | exact Int32.not_lt.mpr (by assumption))).symm | exact (b1_f (by first | assumption | exact Int32.not_le.mp (by assumption) | exact Int32.not_lt.mpr (by assumption))).symm

theorem okX5_adds : jok yX5_adds wsX5_adds cX5_adds 4 none 3 := ⟨⟨_, rfl⟩, by decide +kernel, by decide +kernel⟩
set_option maxHeartbeats 1000000 in
set_option maxRecDepth 100000 in
theorem qX5_adds (l : Launch) (D : va_G) (cI cB : ClassId) (r : Nat → Nat) (B : BayT) (M : MT) (w : Int32) (f : Int32) (v : Int32) (hI : bI_ B) (h6 : sn_ B < 7) : jMv D cI cB l yX5_adds wsX5_adds 0 [.ref (r 0), .int w, .int f, .int v] (mW cI r B M) (S := BayT) (fun u => u = ad_ B w f v) (fun u => mW cI r u M) := by
  refine jMv.of (cc := cX5_adds) (maxL := 4) (ret := none) okX5_adds (Nat.le_of_ble_eq_true rfl) ?_
  intro p e s m below meth c ls A hx hb hr hts hown hlk hml hP hK hD hA hS hl
  replace hown : s.vm.findClass RX5 = some m.cls := hown
  replace hl : lv_has ls 4 [(0, .ref (r 0)), (1, .int w), (2, .int f), (3, .int v)] := hl
  have hinX5 : ∀ w ∈ wsX50, w ∈ wsX5_adds := by decide +kernel
  refine lv_aload_n hx hb dX5_adds_0 rfl (lv_at hl 0 rfl) ?_
  refine va_get (ci := 5) (C := RX5) (T := TX5) (N := 33) hx hb hts hinX5 hown hK.1 hP 0 rfl rfl 1 (by decide) (hts _ (List.mem_of_getElem? (i := 1) rfl)) (fun _ h9 => h9) rfl dX5_adds_1 ?_
  refine lv_aload_n hx hb dX5_adds_4 rfl (lv_at hl 0 rfl) ?_
  refine va_get (ci := 5) (C := RX5) (T := TX5) (N := 33) hx hb hts hinX5 hown hK.1 hP 0 rfl rfl 6 (by decide) (hts _ (List.mem_of_getElem? (i := 2) rfl)) (fun _ h9 => h9) rfl dX5_adds_5 ?_
  refine lv_iload_n hx hb dX5_adds_8 rfl (lv_at hl 1 rfl) ?_
  refine jast hx hb hK.1 hP hD hS 2 0 (sn_ B) rfl rfl rfl (by omega) (Nat.le_of_ble_eq_true rfl) dX5_adds_9 (fun f_1 ef_1 H locs hP hD hS => ?_)
  replace ef_1 : f_1 = upd (kd_ B) (sn_ B) w := ef_1
  replace hP : va_P D vwCl (mW cI r (mkB f_1 (fg_ B) (pl_ B) (pw_ B) (jy_ B) (qt_ B) (sn_ B) (il_ B) (pa_ B) (ho_ B) (dy_ B)) M) H := hP
  replace hD : va_D A (mW cI r (mkB f_1 (fg_ B) (pl_ B) (pw_ B) (jy_ B) (qt_ B) (sn_ B) (il_ B) (pa_ B) (ho_ B) (dy_ B)) M) := hD
  refine lv_aload_n hx hb dX5_adds_10 rfl (lv_at hl 0 rfl) ?_
  refine va_get (ci := 5) (C := RX5) (T := TX5) (N := 33) hx hb hts hinX5 hown hK.1 hP 0 rfl rfl 2 (by decide) (hts _ (List.mem_of_getElem? (i := 3) rfl)) (fun _ h9 => h9) rfl dX5_adds_11 ?_
  refine lv_aload_n hx hb dX5_adds_14 rfl (lv_at hl 0 rfl) ?_
  refine va_get (ci := 5) (C := RX5) (T := TX5) (N := 33) hx hb hts hinX5 hown hK.1 hP 0 rfl rfl 6 (by decide) (hts _ (List.mem_of_getElem? (i := 2) rfl)) (fun _ h9 => h9) rfl dX5_adds_15 ?_
  refine lv_iload_n hx hb dX5_adds_18 rfl (lv_at hl 2 rfl) ?_
  refine jast hx hb hK.1 hP hD hS 3 0 (sn_ B) rfl rfl rfl (by omega) (Nat.le_of_ble_eq_true rfl) dX5_adds_19 (fun f_2 ef_2 H locs hP hD hS => ?_)
  replace ef_2 : f_2 = upd (fg_ B) (sn_ B) f := ef_2
  replace hP : va_P D vwCl (mW cI r (mkB f_1 f_2 (pl_ B) (pw_ B) (jy_ B) (qt_ B) (sn_ B) (il_ B) (pa_ B) (ho_ B) (dy_ B)) M) H := hP
  replace hD : va_D A (mW cI r (mkB f_1 f_2 (pl_ B) (pw_ B) (jy_ B) (qt_ B) (sn_ B) (il_ B) (pa_ B) (ho_ B) (dy_ B)) M) := hD
  refine lv_aload_n hx hb dX5_adds_20 rfl (lv_at hl 0 rfl) ?_
  refine va_get (ci := 5) (C := RX5) (T := TX5) (N := 33) hx hb hts hinX5 hown hK.1 hP 0 rfl rfl 3 (by decide) (hts _ (List.mem_of_getElem? (i := 4) rfl)) (fun _ h9 => h9) rfl dX5_adds_21 ?_
  refine lv_aload_n hx hb dX5_adds_24 rfl (lv_at hl 0 rfl) ?_
  refine va_get (ci := 5) (C := RX5) (T := TX5) (N := 33) hx hb hts hinX5 hown hK.1 hP 0 rfl rfl 6 (by decide) (hts _ (List.mem_of_getElem? (i := 2) rfl)) (fun _ h9 => h9) rfl dX5_adds_25 ?_
  refine lv_iload_n hx hb dX5_adds_28 rfl (lv_at hl 3 rfl) ?_
  refine jast hx hb hK.1 hP hD hS 4 0 (sn_ B) rfl rfl rfl (by omega) (Nat.le_of_ble_eq_true rfl) dX5_adds_29 (fun f_3 ef_3 H locs hP hD hS => ?_)
  replace ef_3 : f_3 = upd (pl_ B) (sn_ B) v := ef_3
  replace hP : va_P D vwCl (mW cI r (mkB f_1 f_2 f_3 (pw_ B) (jy_ B) (qt_ B) (sn_ B) (il_ B) (pa_ B) (ho_ B) (dy_ B)) M) H := hP
  replace hD : va_D A (mW cI r (mkB f_1 f_2 f_3 (pw_ B) (jy_ B) (qt_ B) (sn_ B) (il_ B) (pa_ B) (ho_ B) (dy_ B)) M) := hD
  refine lv_aload_n hx hb dX5_adds_30 rfl (lv_at hl 0 rfl) ?_
  refine va_get (ci := 5) (C := RX5) (T := TX5) (N := 33) hx hb hts hinX5 hown hK.1 hP 0 rfl rfl 4 (by decide) (hts _ (List.mem_of_getElem? (i := 5) rfl)) (fun _ h9 => h9) rfl dX5_adds_31 ?_
  refine lv_aload_n hx hb dX5_adds_34 rfl (lv_at hl 0 rfl) ?_
  refine va_get (ci := 5) (C := RX5) (T := TX5) (N := 33) hx hb hts hinX5 hown hK.1 hP 0 rfl rfl 6 (by decide) (hts _ (List.mem_of_getElem? (i := 2) rfl)) (fun _ h9 => h9) rfl dX5_adds_35 ?_
  refine lv_bipush (v := 9) hx hb dX5_adds_38 (by decide) ?_
  refine jast hx hb hK.1 hP hD hS 5 0 (sn_ B) rfl rfl rfl (by omega) (Nat.le_of_ble_eq_true rfl) dX5_adds_40 (fun f_4 ef_4 H locs hP hD hS => ?_)
  replace ef_4 : f_4 = upd (pw_ B) (sn_ B) 9 := ef_4
  replace hP : va_P D vwCl (mW cI r (mkB f_1 f_2 f_3 f_4 (jy_ B) (qt_ B) (sn_ B) (il_ B) (pa_ B) (ho_ B) (dy_ B)) M) H := hP
  replace hD : va_D A (mW cI r (mkB f_1 f_2 f_3 f_4 (jy_ B) (qt_ B) (sn_ B) (il_ B) (pa_ B) (ho_ B) (dy_ B)) M) := hD
  refine lv_aload_n hx hb dX5_adds_41 rfl (lv_at hl 0 rfl) ?_
  refine va_get (ci := 5) (C := RX5) (T := TX5) (N := 33) hx hb hts hinX5 hown hK.1 hP 0 rfl rfl 5 (by decide) (hts _ (List.mem_of_getElem? (i := 6) rfl)) (fun _ h9 => h9) rfl dX5_adds_42 ?_
  refine lv_aload_n hx hb dX5_adds_45 rfl (lv_at hl 0 rfl) ?_
  refine va_get (ci := 5) (C := RX5) (T := TX5) (N := 33) hx hb hts hinX5 hown hK.1 hP 0 rfl rfl 6 (by decide) (hts _ (List.mem_of_getElem? (i := 2) rfl)) (fun _ h9 => h9) rfl dX5_adds_46 ?_
  refine lv_iconst (v := 0) hx hb dX5_adds_49 (by decide) ?_
  refine jast hx hb hK.1 hP hD hS 6 0 (sn_ B) rfl rfl rfl (by omega) (Nat.le_of_ble_eq_true rfl) dX5_adds_50 (fun f_5 ef_5 H locs hP hD hS => ?_)
  replace ef_5 : f_5 = upd (jy_ B) (sn_ B) 0 := ef_5
  replace hP : va_P D vwCl (mW cI r (mkB f_1 f_2 f_3 f_4 f_5 (qt_ B) (sn_ B) (il_ B) (pa_ B) (ho_ B) (dy_ B)) M) H := hP
  replace hD : va_D A (mW cI r (mkB f_1 f_2 f_3 f_4 f_5 (qt_ B) (sn_ B) (il_ B) (pa_ B) (ho_ B) (dy_ B)) M) := hD
  refine lv_aload_n hx hb dX5_adds_51 rfl (lv_at hl 0 rfl) ?_
  refine lv_dup hx hb dX5_adds_52 rfl ?_
  refine va_get (ci := 5) (C := RX5) (T := TX5) (N := 33) hx hb hts hinX5 hown hK.1 hP 0 rfl rfl 7 (by decide) (hts _ (List.mem_of_getElem? (i := 7) rfl)) (fun _ h9 => h9) rfl dX5_adds_53 ?_
  refine lv_iconst (v := 1) hx hb dX5_adds_56 (by decide) ?_
  refine lv_aload_n hx hb dX5_adds_57 rfl (lv_at hl 0 rfl) ?_
  refine va_get (ci := 5) (C := RX5) (T := TX5) (N := 33) hx hb hts hinX5 hown hK.1 hP 0 rfl rfl 6 (by decide) (hts _ (List.mem_of_getElem? (i := 2) rfl)) (fun _ h9 => h9) rfl dX5_adds_58 ?_
  refine lv_ishl hx hb dX5_adds_61 ?_
  refine lv_iconst (v := (-1)) hx hb dX5_adds_62 (by decide) ?_
  refine lv_ixor hx hb dX5_adds_63 ?_
  refine lv_iand hx hb dX5_adds_64 ?_
  refine sti (x := (qt_ B) &&& ((1 <<< ((nI (sn_ B)) &&& 31)) ^^^ (-1))) (y := qt_ B) (qt_n hI h6) ?_
  refine lv_topi (fun y_6 ey_6 => ?_)
  replace ey_6 : y_6 = qt_ B := ey_6
  refine va_put (ci := 5) (ty := .int) (C := RX5) (T := TX5) (N := 33) hx hb hts hinX5 tyX5 tyX5_ok nmX5 hown hK.1 hP hD hS 0 rfl rfl 7 (by decide) (hts _ (List.mem_of_getElem? (i := 7) rfl)) (fun _ h9 => h9) rfl (by decide +kernel) (rfl) (rfl) (Nat.le_of_ble_eq_true rfl) dX5_adds_65 (fun H locs hP hD hS => ?_)
  replace hP : va_P D vwCl (mW cI r (mkB f_1 f_2 f_3 f_4 f_5 y_6 (sn_ B) (il_ B) (pa_ B) (ho_ B) (dy_ B)) M) H := hP
  replace hD : va_D A (mW cI r (mkB f_1 f_2 f_3 f_4 f_5 y_6 (sn_ B) (il_ B) (pa_ B) (ho_ B) (dy_ B)) M) := hD
  refine lv_aload_n hx hb dX5_adds_68 rfl (lv_at hl 0 rfl) ?_
  refine lv_dup hx hb dX5_adds_69 rfl ?_
  refine va_get (ci := 5) (C := RX5) (T := TX5) (N := 33) hx hb hts hinX5 hown hK.1 hP 0 rfl rfl 6 (by decide) (hts _ (List.mem_of_getElem? (i := 2) rfl)) (fun _ h9 => h9) rfl dX5_adds_70 ?_
  refine lv_iconst (v := 1) hx hb dX5_adds_73 (by decide) ?_
  refine lv_iadd hx hb dX5_adds_74 ?_
  refine sti (x := (nI (sn_ B)) + 1) (y := nI (sn_ B + 1)) (nI_1 _) ?_
  refine va_put (ci := 5) (ty := .int) (C := RX5) (T := TX5) (N := 33) hx hb hts hinX5 tyX5 tyX5_ok nmX5 hown hK.1 hP hD hS 0 rfl rfl 6 (by decide) (hts _ (List.mem_of_getElem? (i := 2) rfl)) (fun _ h9 => h9) rfl (by decide +kernel) (rfl) (rfl) (Nat.le_of_ble_eq_true rfl) dX5_adds_75 (fun H locs hP hD hS => ?_)
  replace hP : va_P D vwCl (mW cI r (mkB f_1 f_2 f_3 f_4 f_5 y_6 (sn_ B + 1) (il_ B) (pa_ B) (ho_ B) (dy_ B)) M) H := hP
  replace hD : va_D A (mW cI r (mkB f_1 f_2 f_3 f_4 f_5 y_6 (sn_ B + 1) (il_ B) (pa_ B) (ho_ B) (dy_ B)) M) := hD
  (try rw [ey_6] at hP); (try rw [ey_6] at hD); (try rw [ey_6] at hl); (try rw [ey_6])
  (try rw [ef_5] at hP); (try rw [ef_5] at hD); (try rw [ef_5] at hl); (try rw [ef_5])
  (try rw [ef_4] at hP); (try rw [ef_4] at hD); (try rw [ef_4] at hl); (try rw [ef_4])
  (try rw [ef_3] at hP); (try rw [ef_3] at hD); (try rw [ef_3] at hl); (try rw [ef_3])
  (try rw [ef_2] at hP); (try rw [ef_2] at hD); (try rw [ef_2] at hl); (try rw [ef_2])
  (try rw [ef_1] at hP); (try rw [ef_1] at hD); (try rw [ef_1] at hl); (try rw [ef_1])
  refine rMv hx hb hr hlk hS (mkB (upd (kd_ B) (sn_ B) w) (upd (fg_ B) (sn_ B) f) (upd (pl_ B) (sn_ B) v) (upd (pw_ B) (sn_ B) 9) (upd (jy_ B) (sn_ B) 0) (qt_ B) (sn_ B + 1) (il_ B) (pa_ B) (ho_ B) (dy_ B)) hP ?_ dX5_adds_78
  unfold ad_; rw [if_pos h6]

