theorem okX4_below : jok yX4_below wsX4_below cX4_below 2 (some .int) 2 := ⟨⟨_, rfl⟩, by decide +kernel, by decide +kernel⟩
set_option maxHeartbeats 1000000 in
set_option maxRecDepth 100000 in
theorem qX4_below (l : Launch) (D : va_G) (cI cB : ClassId) (a : Int32) (b : Int32)  : jSi D cI cB l yX4_below wsX4_below 0 [.int a, .int b] ([] : va_W) (fun r => r = if a < b then -4 else 0) := by
  refine jSi.of (cc := cX4_below) (maxL := 2) (ret := (some .int)) okX4_below (Nat.le_of_ble_eq_true rfl) ?_
  intro p e s m below meth c ls hx hb hr hts hown hlk hml hP hK hl
  replace hown : s.vm.findClass RX4 = some m.cls := hown
  replace hl : lv_has ls 2 [(0, .int a), (1, .int b)] := hl
  refine lv_iload_n hx hb dX4_below_0 rfl (lv_at hl 0 rfl) ?_
  refine lv_iload_n hx hb dX4_below_1 rfl (lv_at hl 1 rfl) ?_
  refine lv_icmp_ge (tgt := 10) hx hb dX4_below_2 (by decide) (fun c_2 => ?_) (fun c_2 => ?_)
  · have d_2 := Int32.not_lt.mpr c_2
    refine lv_iconst (v := 0) hx hb dX4_below_10 (by decide) ?_
    refine rSi hx hb hr hlk ?_ dX4_below_11
    show 0 = _
    first | rw [if_pos (by first | assumption | exact Int32.not_le.mp (by assumption) | exact Int32.not_lt.mp (by assumption) | exact Int32.not_le.mpr (by assumption) | exact Int32.not_lt.mpr (by assumption))] | rw [if_neg (by first | assumption | exact Int32.not_le.mp (by assumption) | exact Int32.not_lt.mp (by assumption) | exact Int32.not_le.mpr (by assumption) | exact Int32.not_lt.mpr (by assumption))]
  · have d_2 := Int32.not_le.mp c_2
    refine lv_bipush (v := (-4)) hx hb dX4_below_5 (by decide) ?_
    refine lv_goto (tgt := 11) hx hb dX4_below_7 (by decide) ?_
    refine rSi hx hb hr hlk ?_ dX4_below_11
    show (-4) = _
    first | rw [if_pos (by first | assumption | exact Int32.not_le.mp (by assumption) | exact Int32.not_lt.mp (by assumption) | exact Int32.not_le.mpr (by assumption) | exact Int32.not_lt.mpr (by assumption))] | rw [if_neg (by first | assumption | exact Int32.not_le.mp (by assumption) | exact Int32.not_lt.mp (by assumption) | exact Int32.not_le.mpr (by assumption) | exact Int32.not_lt.mpr (by assumption))]

theorem okX4_above : jok yX4_above wsX4_above cX4_above 2 (some .int) 2 := ⟨⟨_, rfl⟩, by decide +kernel, by decide +kernel⟩
set_option maxHeartbeats 1000000 in
set_option maxRecDepth 100000 in
theorem qX4_above (l : Launch) (D : va_G) (cI cB : ClassId) (a : Int32) (b : Int32)  : jSi D cI cB l yX4_above wsX4_above 0 [.int a, .int b] ([] : va_W) (fun r => r = if b < a then -6 else 0) := by
  refine jSi.of (cc := cX4_above) (maxL := 2) (ret := (some .int)) okX4_above (Nat.le_of_ble_eq_true rfl) ?_
  intro p e s m below meth c ls hx hb hr hts hown hlk hml hP hK hl
  replace hown : s.vm.findClass RX4 = some m.cls := hown
  replace hl : lv_has ls 2 [(0, .int a), (1, .int b)] := hl
  refine lv_iload_n hx hb dX4_above_0 rfl (lv_at hl 0 rfl) ?_
  refine lv_iload_n hx hb dX4_above_1 rfl (lv_at hl 1 rfl) ?_
  refine lv_icmp_le (tgt := 10) hx hb dX4_above_2 (by decide) (fun c_2 => ?_) (fun c_2 => ?_)
  · have d_2 := Int32.not_lt.mpr c_2
    refine lv_iconst (v := 0) hx hb dX4_above_10 (by decide) ?_
    refine rSi hx hb hr hlk ?_ dX4_above_11
    show 0 = _
    first | rw [if_pos (by first | assumption | exact Int32.not_le.mp (by assumption) | exact Int32.not_lt.mp (by assumption) | exact Int32.not_le.mpr (by assumption) | exact Int32.not_lt.mpr (by assumption))] | rw [if_neg (by first | assumption | exact Int32.not_le.mp (by assumption) | exact Int32.not_lt.mp (by assumption) | exact Int32.not_le.mpr (by assumption) | exact Int32.not_lt.mpr (by assumption))]
  · have d_2 := Int32.not_le.mp c_2
    refine lv_bipush (v := (-6)) hx hb dX4_above_5 (by decide) ?_
    refine lv_goto (tgt := 11) hx hb dX4_above_7 (by decide) ?_
    refine rSi hx hb hr hlk ?_ dX4_above_11
    show (-6) = _
    first | rw [if_pos (by first | assumption | exact Int32.not_le.mp (by assumption) | exact Int32.not_lt.mp (by assumption) | exact Int32.not_le.mpr (by assumption) | exact Int32.not_lt.mpr (by assumption))] | rw [if_neg (by first | assumption | exact Int32.not_le.mp (by assumption) | exact Int32.not_lt.mp (by assumption) | exact Int32.not_le.mpr (by assumption) | exact Int32.not_lt.mpr (by assumption))]

theorem okX4_outside : jok yX4_outside wsX4_outside cX4_outside 3 (some .int) 3 := ⟨⟨_, rfl⟩, by decide +kernel, by decide +kernel⟩
set_option maxHeartbeats 1000000 in
set_option maxRecDepth 100000 in
theorem qX4_outside (l : Launch) (D : va_G) (cI cB : ClassId) (v : Int32) (a : Int32) (b : Int32)  : jSi D cI cB l yX4_outside wsX4_outside 1 [.int v, .int a, .int b] ([] : va_W) (fun r => r = ob_ v a b) := by
  refine jSi.of (cc := cX4_outside) (maxL := 3) (ret := (some .int)) okX4_outside (Nat.le_of_ble_eq_true rfl) ?_
  intro p e s m below meth c ls hx hb hr hts hown hlk hml hP hK hl
  replace hown : s.vm.findClass RX4 = some m.cls := hown
  replace hl : lv_has ls 3 [(0, .int v), (1, .int a), (2, .int b)] := hl
  refine lv_iload_n hx hb dX4_outside_0 rfl (lv_at hl 0 rfl) ?_
  refine lv_iload_n hx hb dX4_outside_1 rfl (lv_at hl 1 rfl) ?_
  refine lv_icmp_ge (tgt := 10) hx hb dX4_outside_2 (by decide) (fun c_2 => ?_) (fun c_2 => ?_)
  · have d_2 := Int32.not_lt.mpr c_2
    refine lv_iload_n hx hb dX4_outside_10 rfl (lv_at hl 0 rfl) ?_
    refine lv_iload_n hx hb dX4_outside_11 rfl (lv_at hl 2 rfl) ?_
    refine kSiS hx hb hml hown hts hK hP gX4_outside_X4_above okX4_above (qX4_above l D cI cB v b ) [] rfl (by decide) hl.1 rfl rfl (Nat.le_of_ble_eq_true rfl) dX4_outside_12 (by decide) (fun r_1 hr_2 => ?_)
    replace hr_2 : r_1 = if b < v then -6 else 0 := hr_2
    subst r_1
    refine rSi hx hb hr hlk ?_ dX4_outside_15
    show (if b < v then -6 else 0) = _
    simp [ob_, *]
  · have d_2 := Int32.not_le.mp c_2
    refine lv_bipush (v := (-4)) hx hb dX4_outside_5 (by decide) ?_
    refine lv_goto (tgt := 15) hx hb dX4_outside_7 (by decide) ?_
    refine rSi hx hb hr hlk ?_ dX4_outside_15
    show (-4) = _
    simp [ob_, *]

theorem okX4_unknown : jok yX4_unknown wsX4_unknown cX4_unknown 2 (some .int) 2 := ⟨⟨_, rfl⟩, by decide +kernel, by decide +kernel⟩
set_option maxHeartbeats 1000000 in
set_option maxRecDepth 100000 in
theorem qX4_unknown (l : Launch) (D : va_G) (cI cB : ClassId) (v : Int32) (b : Int32)  : jSi D cI cB l yX4_unknown wsX4_unknown 0 [.int v, .int b] ([] : va_W) (fun r => r = uk_ v b) := by
  refine jSi.of (cc := cX4_unknown) (maxL := 2) (ret := (some .int)) okX4_unknown (Nat.le_of_ble_eq_true rfl) ?_
  intro p e s m below meth c ls hx hb hr hts hown hlk hml hP hK hl
  replace hown : s.vm.findClass RX4 = some m.cls := hown
  replace hl : lv_has ls 2 [(0, .int v), (1, .int b)] := hl
  refine lv_iload_n hx hb dX4_unknown_0 rfl (lv_at hl 0 rfl) ?_
  refine lv_if_lt (tgt := 9) hx hb dX4_unknown_1 (by decide) (fun c_1 => ?_) (fun c_1 => ?_)
  · have d_1 := Int32.not_le.mpr c_1
    refine lv_bipush (v := (-2)) hx hb dX4_unknown_9 (by decide) ?_
    refine lv_goto (tgt := 15) hx hb dX4_unknown_11 (by decide) ?_
    refine rSi hx hb hr hlk ?_ dX4_unknown_15
    show (-2) = _
    simp [uk_, *]
  · have d_1 := Int32.not_lt.mp c_1
    refine lv_iload_n hx hb dX4_unknown_4 rfl (lv_at hl 0 rfl) ?_
    refine lv_iload_n hx hb dX4_unknown_5 rfl (lv_at hl 1 rfl) ?_
    refine lv_icmp_le (tgt := 14) hx hb dX4_unknown_6 (by decide) (fun c_6 => ?_) (fun c_6 => ?_)
    · have d_6 := Int32.not_lt.mpr c_6
      refine lv_iconst (v := 0) hx hb dX4_unknown_14 (by decide) ?_
      refine rSi hx hb hr hlk ?_ dX4_unknown_15
      show 0 = _
      simp [uk_, *]
    · have d_6 := Int32.not_le.mp c_6
      refine lv_bipush (v := (-2)) hx hb dX4_unknown_9 (by decide) ?_
      refine lv_goto (tgt := 15) hx hb dX4_unknown_11 (by decide) ?_
      refine rSi hx hb hr hlk ?_ dX4_unknown_15
      show (-2) = _
      simp [uk_, *]

theorem okX4_nobody : jok yX4_nobody wsX4_nobody cX4_nobody 2 (some .int) 2 := ⟨⟨_, rfl⟩, by decide +kernel, by decide +kernel⟩
set_option maxHeartbeats 1000000 in
set_option maxRecDepth 100000 in
theorem qX4_nobody (l : Launch) (D : va_G) (cI cB : ClassId) (v : Int32) (b : Int32)  : jSi D cI cB l yX4_nobody wsX4_nobody 0 [.int v, .int b] ([] : va_W) (fun r => r = nb_ v b) := by
  refine jSi.of (cc := cX4_nobody) (maxL := 2) (ret := (some .int)) okX4_nobody (Nat.le_of_ble_eq_true rfl) ?_
  intro p e s m below meth c ls hx hb hr hts hown hlk hml hP hK hl
  replace hown : s.vm.findClass RX4 = some m.cls := hown
  replace hl : lv_has ls 2 [(0, .int v), (1, .int b)] := hl
  refine lv_iload_n hx hb dX4_nobody_0 rfl (lv_at hl 0 rfl) ?_
  refine lv_if_lt (tgt := 9) hx hb dX4_nobody_1 (by decide) (fun c_1 => ?_) (fun c_1 => ?_)
  · have d_1 := Int32.not_le.mpr c_1
    refine lv_iconst (v := (-1)) hx hb dX4_nobody_9 (by decide) ?_
    refine lv_goto (tgt := 14) hx hb dX4_nobody_10 (by decide) ?_
    refine rSi hx hb hr hlk ?_ dX4_nobody_14
    show (-1) = _
    simp [nb_, *]
  · have d_1 := Int32.not_lt.mp c_1
    refine lv_iload_n hx hb dX4_nobody_4 rfl (lv_at hl 0 rfl) ?_
    refine lv_iload_n hx hb dX4_nobody_5 rfl (lv_at hl 1 rfl) ?_
    refine lv_icmp_lt (tgt := 13) hx hb dX4_nobody_6 (by decide) (fun c_6 => ?_) (fun c_6 => ?_)
    · have d_6 := Int32.not_le.mpr c_6
      refine lv_iconst (v := 0) hx hb dX4_nobody_13 (by decide) ?_
      refine rSi hx hb hr hlk ?_ dX4_nobody_14
      show 0 = _
      simp [nb_, *]
    · have d_6 := Int32.not_lt.mp c_6
      refine lv_iconst (v := (-1)) hx hb dX4_nobody_9 (by decide) ?_
      refine lv_goto (tgt := 14) hx hb dX4_nobody_10 (by decide) ?_
      refine rSi hx hb hr hlk ?_ dX4_nobody_14
      show (-1) = _
      simp [nb_, *]

theorem okX4_firstOf : jok yX4_firstOf wsX4_firstOf cX4_firstOf 2 (some .int) 2 := ⟨⟨_, rfl⟩, by decide +kernel, by decide +kernel⟩
set_option maxHeartbeats 1000000 in
set_option maxRecDepth 100000 in
theorem qX4_firstOf (l : Launch) (D : va_G) (cI cB : ClassId) (a : Int32) (b : Int32)  : jSi D cI cB l yX4_firstOf wsX4_firstOf 0 [.int a, .int b] ([] : va_W) (fun r => r = f2_ a b) := by
  refine jSi.of (cc := cX4_firstOf) (maxL := 2) (ret := (some .int)) okX4_firstOf (Nat.le_of_ble_eq_true rfl) ?_
  intro p e s m below meth c ls hx hb hr hts hown hlk hml hP hK hl
  replace hown : s.vm.findClass RX4 = some m.cls := hown
  replace hl : lv_has ls 2 [(0, .int a), (1, .int b)] := hl
  refine lv_iload_n hx hb dX4_firstOf_0 rfl (lv_at hl 0 rfl) ?_
  refine lv_if_eq (tgt := 8) hx hb dX4_firstOf_1 (by decide) (fun c_1 => ?_) (fun c_1 => ?_)
  · skip
    refine lv_iload_n hx hb dX4_firstOf_8 rfl (lv_at hl 1 rfl) ?_
    refine rSi hx hb hr hlk ?_ dX4_firstOf_9
    show b = _
    simp [f2_, *]
  · skip
    refine lv_iload_n hx hb dX4_firstOf_4 rfl (lv_at hl 0 rfl) ?_
    refine lv_goto (tgt := 9) hx hb dX4_firstOf_5 (by decide) ?_
    refine rSi hx hb hr hlk ?_ dX4_firstOf_9
    show a = _
    simp [f2_, *]

theorem okX0_shoreAt : jok yX0_shoreAt wsX0_shoreAt cX0_shoreAt 3 (some .int) 1 := ⟨⟨_, rfl⟩, by decide +kernel, by decide +kernel⟩
set_option maxHeartbeats 1000000 in
set_option maxRecDepth 100000 in
theorem qX0_shoreAt (l : Launch) (D : va_G) (cI cB : ClassId) (g : Nat → Nat) (i0 : Nat) (B : BayT) (v : Int32) (hn7 : sn_ B ≤ 7) : jSi D cI cB l yX0_shoreAt wsX0_shoreAt 0 [.ref (g i0), .int v] (bW cI g i0 B) (fun r => r = oI_ (sa_ B v)) := by
  refine jSi.of (cc := cX0_shoreAt) (maxL := 3) (ret := (some .int)) okX0_shoreAt (Nat.le_of_ble_eq_true rfl) ?_
  intro p e s m below meth c ls hx hb hr hts hown hlk hml hP hK hl
  replace hown : s.vm.findClass RX0 = some m.cls := hown
  replace hl : lv_has ls 3 [(0, .ref (g i0)), (1, .int v)] := hl
  have hinX0 : ∀ w ∈ wsX00, w ∈ wsX0_shoreAt := by decide +kernel
  refine lv_iconst (v := 0) hx hb dX0_shoreAt_0 (by decide) ?_
  refine lv_istore_n (lv' := [(2, .int 0), (0, .ref (g i0)), (1, .int v)]) hx hb dX0_shoreAt_1 rfl hl (by decide) rfl (fun ls hl => ?_)
  have lp_2 : ∀ (fu_2 : Nat) (i : Nat) (x2_2 : Int32) , (x2_2 = nI i) → (i ≤ sn_ B) → (at_ (pl_ B) v (sn_ B - i) i = sa_ B v) → sn_ B - i < fu_2 → ∀ ls : Array Slot, lv_has ls 3 [(2, .int x2_2), (0, .ref (g i0)), (1, .int v)] → W p l e (jR 0) s m ([.ref (g i0), .int v] : List Value).toArray below meth c s.heap [] 0 0 (MQ below (vp_Si (fun r => r = oI_ (sa_ B v))) ([.ref (g i0), .int v] : List Value).toArray s 0 0 (fun _ => False)) (F0 m 2 ls []) := by
    intro fu_2
    induction fu_2 with
    | zero => intro i x2_2 hx2_2 hi hre hfu; exact absurd hfu (Nat.not_lt_zero _)
    | succ fu_2 ih_2 =>
      intro i x2_2 hx2_2 hi hre hfu_2 ls hl
      subst x2_2
      replace hl : lv_has ls 3 [(2, .int (nI i)), (0, .ref (g i0)), (1, .int v)] := hl
      refine lv_iload_n hx hb dX0_shoreAt_2 rfl (lv_at hl 0 rfl) ?_
      refine lv_aload_n hx hb dX0_shoreAt_3 rfl (lv_at hl 1 rfl) ?_
      refine va_get (ci := 0) (C := RX0) (T := TX0) (N := 11) hx hb hts hinX0 hown hK.1 hP 0 rfl rfl 6 (by decide) (hts _ (List.mem_of_getElem? (i := 1) rfl)) (fun _ h9 => h9) rfl dX0_shoreAt_4 ?_
      refine lv_icmp_ge (tgt := 28) hx hb dX0_shoreAt_7 (by decide) (fun c_7 => ?_) (fun c_7 => ?_)
      · replace c_7 : nI (sn_ B) ≤ nI i := c_7
        rw [jle (by omega) (by omega)] at c_7
        refine lv_bipush (v := (-9)) hx hb dX0_shoreAt_28 (by decide) ?_
        refine rSi hx hb hr hlk ?_ dX0_shoreAt_30
        show (-9) = _
        rw [at_0 (by omega)] at hre; rw [← hre]; rfl
      · replace c_7 : ¬ nI (sn_ B) ≤ nI i := c_7
        rw [jle (by omega) (by omega)] at c_7
        refine lv_aload_n hx hb dX0_shoreAt_10 rfl (lv_at hl 1 rfl) ?_
        refine va_get (ci := 0) (C := RX0) (T := TX0) (N := 11) hx hb hts hinX0 hown hK.1 hP 0 rfl rfl 2 (by decide) (hts _ (List.mem_of_getElem? (i := 2) rfl)) (fun _ h9 => h9) rfl dX0_shoreAt_11 ?_
        refine lv_iload_n hx hb dX0_shoreAt_14 rfl (lv_at hl 0 rfl) ?_
        refine jald hx hb hK.1 hP 3 0 i rfl rfl rfl (by omega) (Nat.le_of_ble_eq_true rfl) dX0_shoreAt_15 ?_
        refine lv_iload_n hx hb dX0_shoreAt_16 rfl (lv_at hl 2 rfl) ?_
        refine lv_icmp_ne (tgt := 22) hx hb dX0_shoreAt_17 (by decide) (fun c_17 => ?_) (fun c_17 => ?_)
        · skip
          refine lv_iinc (v := (nI i) + 1) (lv' := [(2, .int ((nI i) + 1)), (0, .ref (g i0)), (1, .int v)]) hx hb dX0_shoreAt_22 hl (k := 0) rfl (by first | rfl | decide) (by decide) rfl (fun ls hl => ?_)
          refine lv_goto (tgt := 2) hx hb dX0_shoreAt_25 (by decide) ?_
          exact ih_2 (i + 1) ((nI i) + 1)  (by first | rfl | exact nI_1 _) (by omega) (by rw [at_s (by omega), if_neg c_17] at hre; exact hre) (by omega) ls (lv_sub hl [0, 1, 2] rfl)
        · skip
          refine lv_iload_n hx hb dX0_shoreAt_20 rfl (lv_at hl 0 rfl) ?_
          refine rSi hx hb hr hlk ?_ dX0_shoreAt_21
          show (nI i) = _
          rw [at_s (by omega), if_pos c_17] at hre; rw [← hre]; rfl
  exact lp_2 ((sn_ B) + 1) 0 0  (by first | rfl | exact nI_0.symm) (by omega) (by rfl) (by omega) ls (lv_sub hl [0, 1, 2] rfl)

theorem okX0_owner : jok yX0_owner wsX0_owner cX0_owner 1 (some .int) 0 := ⟨⟨_, rfl⟩, by decide +kernel, by decide +kernel⟩
set_option maxHeartbeats 1000000 in
set_option maxRecDepth 100000 in
theorem qX0_owner (l : Launch) (D : va_G) (cI cB : ClassId) (g : Nat → Nat) (i0 : Nat) (B : BayT) (hn7 : sn_ B ≤ 7) : jSi D cI cB l yX0_owner wsX0_owner 1 [.ref (g i0)] (bW cI g i0 B) (fun r => r = oI_ (ow_ B)) := by
  refine jSi.of (cc := cX0_owner) (maxL := 1) (ret := (some .int)) okX0_owner (Nat.le_of_ble_eq_true rfl) ?_
  intro p e s m below meth c ls hx hb hr hts hown hlk hml hP hK hl
  replace hown : s.vm.findClass RX0 = some m.cls := hown
  replace hl : lv_has ls 1 [(0, .ref (g i0))] := hl
  have hinX0 : ∀ w ∈ wsX00, w ∈ wsX0_owner := by decide +kernel
  refine lv_aload_n hx hb dX0_owner_0 rfl (lv_at hl 0 rfl) ?_
  refine lv_aload_n hx hb dX0_owner_1 rfl (lv_at hl 0 rfl) ?_
  refine va_get (ci := 0) (C := RX0) (T := TX0) (N := 11) hx hb hts hinX0 hown hK.1 hP 0 rfl rfl 7 (by decide) (hts _ (List.mem_of_getElem? (i := 1) rfl)) (fun _ h9 => h9) rfl dX0_owner_2 ?_
  refine kSiV hx hb hml hown hts hK hP gX0_owner_X0_shoreAt okX0_shoreAt (qX0_shoreAt l D cI cB g i0 B (il_ B) (by show sn_ B ≤ 7; omega)) [0, 1, 2, 3, 4, 5] rfl rfl rfl rfl (by decide) hl.1 rfl rfl (Nat.le_of_ble_eq_true rfl) dX0_owner_5 (by decide) (fun r_1 hr_2 => ?_)
  replace hr_2 : r_1 = oI_ (sa_ B (il_ B)) := hr_2
  subst r_1
  refine rSi hx hb hr hlk ?_ dX0_owner_8
  show (oI_ (sa_ B (il_ B))) = _
  rfl

theorem okX0_hasIsle : jok yX0_hasIsle wsX0_hasIsle cX0_hasIsle 2 (some .boolean) 1 := ⟨⟨_, rfl⟩, by decide +kernel, by decide +kernel⟩
set_option maxHeartbeats 1000000 in
set_option maxRecDepth 100000 in
theorem qX0_hasIsle (l : Launch) (D : va_G) (cI cB : ClassId) (g : Nat → Nat) (i0 : Nat) (B : BayT) (k : Nat) (hn7 : sn_ B ≤ 7) (hk : k < 7) : jSi D cI cB l yX0_hasIsle wsX0_hasIsle 0 [.ref (g i0), .int (nI k)] (bW cI g i0 B) (fun r => r = b1 (pl_ B k = il_ B)) := by
  refine jSi.of (cc := cX0_hasIsle) (maxL := 2) (ret := (some .boolean)) okX0_hasIsle (Nat.le_of_ble_eq_true rfl) ?_
  intro p e s m below meth c ls hx hb hr hts hown hlk hml hP hK hl
  replace hown : s.vm.findClass RX0 = some m.cls := hown
  replace hl : lv_has ls 2 [(0, .ref (g i0)), (1, .int (nI k))] := hl
  have hinX0 : ∀ w ∈ wsX00, w ∈ wsX0_hasIsle := by decide +kernel
  refine lv_aload_n hx hb dX0_hasIsle_0 rfl (lv_at hl 0 rfl) ?_
  refine va_get (ci := 0) (C := RX0) (T := TX0) (N := 11) hx hb hts hinX0 hown hK.1 hP 0 rfl rfl 2 (by decide) (hts _ (List.mem_of_getElem? (i := 1) rfl)) (fun _ h9 => h9) rfl dX0_hasIsle_1 ?_
  refine lv_iload_n hx hb dX0_hasIsle_4 rfl (lv_at hl 1 rfl) ?_
  refine jald hx hb hK.1 hP 3 0 k rfl rfl rfl (by omega) (Nat.le_of_ble_eq_true rfl) dX0_hasIsle_5 ?_
  refine lv_aload_n hx hb dX0_hasIsle_6 rfl (lv_at hl 0 rfl) ?_
  refine va_get (ci := 0) (C := RX0) (T := TX0) (N := 11) hx hb hts hinX0 hown hK.1 hP 0 rfl rfl 7 (by decide) (hts _ (List.mem_of_getElem? (i := 2) rfl)) (fun _ h9 => h9) rfl dX0_hasIsle_7 ?_
  refine lv_icmp_ne (tgt := 17) hx hb dX0_hasIsle_10 (by decide) (fun c_10 => ?_) (fun c_10 => ?_)
  · skip
    refine lv_iconst (v := 0) hx hb dX0_hasIsle_17 (by decide) ?_
    refine rSz hx hb hr hlk (Or.inl rfl) ?_ dX0_hasIsle_18
    show 0 = _
    first | exact (b1_t (by assumption)).symm | exact (b1_f (by assumption)).symm
  · skip
    refine lv_iconst (v := 1) hx hb dX0_hasIsle_13 (by decide) ?_
    refine lv_goto (tgt := 18) hx hb dX0_hasIsle_14 (by decide) ?_
    refine rSz hx hb hr hlk (Or.inr rfl) ?_ dX0_hasIsle_18
    show 1 = _
    first | exact (b1_t (by assumption)).symm | exact (b1_f (by assumption)).symm

theorem okX0_isQuiet : jok yX0_isQuiet wsX0_isQuiet cX0_isQuiet 2 (some .boolean) 1 := ⟨⟨_, rfl⟩, by decide +kernel, by decide +kernel⟩
set_option maxHeartbeats 1000000 in
set_option maxRecDepth 100000 in
theorem qX0_isQuiet (l : Launch) (D : va_G) (cI cB : ClassId) (g : Nat → Nat) (i0 : Nat) (B : BayT) (k : Nat) (hn7 : sn_ B ≤ 7) (hk : k < 7) : jSi D cI cB l yX0_isQuiet wsX0_isQuiet 0 [.ref (g i0), .int (nI k)] (bW cI g i0 B) (fun r => r = b1 (qb_ (qt_ B) k = 1)) := by
  refine jSi.of (cc := cX0_isQuiet) (maxL := 2) (ret := (some .boolean)) okX0_isQuiet (Nat.le_of_ble_eq_true rfl) ?_
  intro p e s m below meth c ls hx hb hr hts hown hlk hml hP hK hl
  replace hown : s.vm.findClass RX0 = some m.cls := hown
  replace hl : lv_has ls 2 [(0, .ref (g i0)), (1, .int (nI k))] := hl
  have hinX0 : ∀ w ∈ wsX00, w ∈ wsX0_isQuiet := by decide +kernel
  refine lv_aload_n hx hb dX0_isQuiet_0 rfl (lv_at hl 0 rfl) ?_
  refine va_get (ci := 0) (C := RX0) (T := TX0) (N := 11) hx hb hts hinX0 hown hK.1 hP 0 rfl rfl 5 (by decide) (hts _ (List.mem_of_getElem? (i := 1) rfl)) (fun _ h9 => h9) rfl dX0_isQuiet_1 ?_
  refine lv_iload_n hx hb dX0_isQuiet_4 rfl (lv_at hl 1 rfl) ?_
  refine lv_ishr hx hb dX0_isQuiet_5 ?_
  refine lv_iconst (v := 1) hx hb dX0_isQuiet_6 (by decide) ?_
  refine lv_iand hx hb dX0_isQuiet_7 ?_
  refine lv_iconst (v := 1) hx hb dX0_isQuiet_8 (by decide) ?_
  refine lv_icmp_ne (tgt := 16) hx hb dX0_isQuiet_9 (by decide) (fun c_9 => ?_) (fun c_9 => ?_)
  · skip
    refine lv_iconst (v := 0) hx hb dX0_isQuiet_16 (by decide) ?_
    refine rSz hx hb hr hlk (Or.inl rfl) ?_ dX0_isQuiet_17
    show 0 = _
    first | exact (b1_t (by assumption)).symm | exact (b1_f (by assumption)).symm
  · skip
    refine lv_iconst (v := 1) hx hb dX0_isQuiet_12 (by decide) ?_
    refine lv_goto (tgt := 17) hx hb dX0_isQuiet_13 (by decide) ?_
    refine rSz hx hb hr hlk (Or.inr rfl) ?_ dX0_isQuiet_17
    show 1 = _
    first | exact (b1_t (by assumption)).symm | exact (b1_f (by assumption)).symm

theorem okX0_distanceTo : jok yX0_distanceTo wsX0_distanceTo cX0_distanceTo 2 (some .int) 1 := ⟨⟨_, rfl⟩, by decide +kernel, by decide +kernel⟩
set_option maxHeartbeats 1000000 in
set_option maxRecDepth 100000 in
theorem qX0_distanceTo (l : Launch) (D : va_G) (cI cB : ClassId) (g : Nat → Nat) (i0 : Nat) (B : BayT) (k : Nat) (hn7 : sn_ B ≤ 7) (hk : k < 7) : jSi D cI cB l yX0_distanceTo wsX0_distanceTo 1 [.ref (g i0), .int (nI k)] (bW cI g i0 B) (fun r => r = di_ B k) := by
  refine jSi.of (cc := cX0_distanceTo) (maxL := 2) (ret := (some .int)) okX0_distanceTo (Nat.le_of_ble_eq_true rfl) ?_
  intro p e s m below meth c ls hx hb hr hts hown hlk hml hP hK hl
  replace hown : s.vm.findClass RX0 = some m.cls := hown
  replace hl : lv_has ls 2 [(0, .ref (g i0)), (1, .int (nI k))] := hl
  have hinX0 : ∀ w ∈ wsX00, w ∈ wsX0_distanceTo := by decide +kernel
  refine lv_aload_n hx hb dX0_distanceTo_0 rfl (lv_at hl 0 rfl) ?_
  refine va_get (ci := 0) (C := RX0) (T := TX0) (N := 11) hx hb hts hinX0 hown hK.1 hP 0 rfl rfl 2 (by decide) (hts _ (List.mem_of_getElem? (i := 1) rfl)) (fun _ h9 => h9) rfl dX0_distanceTo_1 ?_
  refine lv_iload_n hx hb dX0_distanceTo_4 rfl (lv_at hl 1 rfl) ?_
  refine jald hx hb hK.1 hP 3 0 k rfl rfl rfl (by omega) (Nat.le_of_ble_eq_true rfl) dX0_distanceTo_5 ?_
  refine lv_aload_n hx hb dX0_distanceTo_6 rfl (lv_at hl 0 rfl) ?_
  refine va_get (ci := 0) (C := RX0) (T := TX0) (N := 11) hx hb hts hinX0 hown hK.1 hP 0 rfl rfl 7 (by decide) (hts _ (List.mem_of_getElem? (i := 2) rfl)) (fun _ h9 => h9) rfl dX0_distanceTo_7 ?_
  refine lv_isub hx hb dX0_distanceTo_10 ?_
  refine va_mabs hx hb (hml.trans hl.1.symm) hown (hts _ (List.mem_of_getElem? (i := 3) rfl)) (hts _ (List.mem_of_getElem? (i := 4) rfl)) (hts _ (List.mem_of_getElem? (i := 5) rfl)) (hts _ (List.mem_of_getElem? (i := 6) rfl)) (by decide) (Nat.le_of_ble_eq_true rfl) (by decide) (by decide) dX0_distanceTo_11 ?_
  refine rSi hx hb hr hlk ?_ dX0_distanceTo_14
  show (if 0 ≤ (((pl_ B) k) - (il_ B)) then (((pl_ B) k) - (il_ B)) else 0 - (((pl_ B) k) - (il_ B))) = _
  rfl

theorem okX0_nearestShore : jok yX0_nearestShore wsX0_nearestShore cX0_nearestShore 3 (some .int) 0 := ⟨⟨_, rfl⟩, by decide +kernel, by decide +kernel⟩
set_option maxHeartbeats 1000000 in
set_option maxRecDepth 100000 in
theorem qX0_nearestShore (l : Launch) (D : va_G) (cI cB : ClassId) (g : Nat → Nat) (i0 : Nat) (B : BayT) (hn7 : sn_ B ≤ 7) : jSi D cI cB l yX0_nearestShore wsX0_nearestShore 2 [.ref (g i0)] (bW cI g i0 B) (fun r => r = oI_ (ne_ B (sn_ B))) := by
  refine jSi.of (cc := cX0_nearestShore) (maxL := 3) (ret := (some .int)) okX0_nearestShore (Nat.le_of_ble_eq_true rfl) ?_
  intro p e s m below meth c ls hx hb hr hts hown hlk hml hP hK hl
  replace hown : s.vm.findClass RX0 = some m.cls := hown
  replace hl : lv_has ls 3 [(0, .ref (g i0))] := hl
  have hinX0 : ∀ w ∈ wsX00, w ∈ wsX0_nearestShore := by decide +kernel
  refine lv_bipush (v := (-9)) hx hb dX0_nearestShore_0 (by decide) ?_
  refine lv_istore_n (lv' := [(1, .int (-9)), (0, .ref (g i0))]) hx hb dX0_nearestShore_2 rfl hl (by decide) rfl (fun ls hl => ?_)
  refine lv_iconst (v := 0) hx hb dX0_nearestShore_3 (by decide) ?_
  refine lv_istore_n (lv' := [(2, .int 0), (1, .int (-9)), (0, .ref (g i0))]) hx hb dX0_nearestShore_4 rfl hl (by decide) rfl (fun ls hl => ?_)
  have lp_5 : ∀ (fu_5 : Nat) (i : Nat) (x1_5 : Int32) (x2_5 : Int32) , (x1_5 = oI_ (ne_ B i)) → (x2_5 = nI i) → (i ≤ sn_ B) → sn_ B - i < fu_5 → ∀ ls : Array Slot, lv_has ls 3 [(2, .int x2_5), (1, .int x1_5), (0, .ref (g i0))] → W p l e (jR 2) s m ([.ref (g i0)] : List Value).toArray below meth c s.heap [] 0 0 (MQ below (vp_Si (fun r => r = oI_ (ne_ B (sn_ B)))) ([.ref (g i0)] : List Value).toArray s 0 0 (fun _ => False)) (F0 m 5 ls []) := by
    intro fu_5
    induction fu_5 with
    | zero => intro i x1_5 x2_5 hx1_5 hx2_5 hi hfu; exact absurd hfu (Nat.not_lt_zero _)
    | succ fu_5 ih_5 =>
      intro i x1_5 x2_5 hx1_5 hx2_5 hi hfu_5 ls hl
      subst x1_5
      subst x2_5
      replace hl : lv_has ls 3 [(2, .int (nI i)), (1, .int (oI_ (ne_ B i))), (0, .ref (g i0))] := hl
      rcases hL : ne_ B i with _ | t
      · rw [hL] at hl
        replace hl : lv_has ls 3 [(2, .int (nI i)), (1, .int (-9)), (0, .ref (g i0))] := hl
        refine lv_iload_n hx hb dX0_nearestShore_5 rfl (lv_at hl 0 rfl) ?_
        refine lv_aload_n hx hb dX0_nearestShore_6 rfl (lv_at hl 2 rfl) ?_
        refine va_get (ci := 0) (C := RX0) (T := TX0) (N := 11) hx hb hts hinX0 hown hK.1 hP 0 rfl rfl 6 (by decide) (hts _ (List.mem_of_getElem? (i := 1) rfl)) (fun _ h9 => h9) rfl dX0_nearestShore_7 ?_
        refine lv_icmp_ge (tgt := 40) hx hb dX0_nearestShore_10 (by decide) (fun c_10 => ?_) (fun c_10 => ?_)
        · replace c_10 : nI (sn_ B) ≤ nI i := c_10
          rw [jle (by omega) (by omega)] at c_10
          refine lv_iload_n hx hb dX0_nearestShore_40 rfl (lv_at hl 1 rfl) ?_
          refine rSi hx hb hr hlk ?_ dX0_nearestShore_41
          show (-9) = _
          have e9 : i = sn_ B := by omega
          rw [e9] at hL; rw [hL]; rfl
        · replace c_10 : ¬ nI (sn_ B) ≤ nI i := c_10
          rw [jle (by omega) (by omega)] at c_10
          refine lv_iload_n hx hb dX0_nearestShore_13 rfl (lv_at hl 1 rfl) ?_
          refine lv_bipush (v := (-9)) hx hb dX0_nearestShore_14 (by decide) ?_
          refine lv_icmp_eq (tgt := 32) hx hb dX0_nearestShore_16 (by decide) (fun _ => ?_) (fun q => absurd q (by decide))
          refine lv_iload_n hx hb dX0_nearestShore_32 rfl (lv_at hl 0 rfl) ?_
          refine lv_istore_n (lv' := [(1, .int (nI i)), (2, .int (nI i)), (0, .ref (g i0))]) hx hb dX0_nearestShore_33 rfl hl (by decide) rfl (fun ls hl => ?_)
          refine lv_iinc (v := (nI i) + 1) (lv' := [(2, .int ((nI i) + 1)), (1, .int (nI i)), (0, .ref (g i0))]) hx hb dX0_nearestShore_34 hl (k := 1) rfl (by first | rfl | decide) (by decide) rfl (fun ls hl => ?_)
          refine lv_goto (tgt := 5) hx hb dX0_nearestShore_37 (by decide) ?_
          exact ih_5 (i + 1) (nI i) ((nI i) + 1)  (by simp [ne_, hL, oI_, *]) (by first | rfl | exact nI_1 _) (by omega) (by omega) ls (lv_sub hl [0, 1, 2] rfl)
      · rw [hL] at hl
        replace hl : lv_has ls 3 [(2, .int (nI i)), (1, .int (nI t)), (0, .ref (g i0))] := hl
        have ht := ne_lt _ _ hL
        refine lv_iload_n hx hb dX0_nearestShore_5 rfl (lv_at hl 0 rfl) ?_
        refine lv_aload_n hx hb dX0_nearestShore_6 rfl (lv_at hl 2 rfl) ?_
        refine va_get (ci := 0) (C := RX0) (T := TX0) (N := 11) hx hb hts hinX0 hown hK.1 hP 0 rfl rfl 6 (by decide) (hts _ (List.mem_of_getElem? (i := 1) rfl)) (fun _ h9 => h9) rfl dX0_nearestShore_7 ?_
        refine lv_icmp_ge (tgt := 40) hx hb dX0_nearestShore_10 (by decide) (fun c_10 => ?_) (fun c_10 => ?_)
        · replace c_10 : nI (sn_ B) ≤ nI i := c_10
          rw [jle (by omega) (by omega)] at c_10
          refine lv_iload_n hx hb dX0_nearestShore_40 rfl (lv_at hl 1 rfl) ?_
          refine rSi hx hb hr hlk ?_ dX0_nearestShore_41
          show (nI t) = _
          have e9 : i = sn_ B := by omega
          rw [e9] at hL; rw [hL]; rfl
        · replace c_10 : ¬ nI (sn_ B) ≤ nI i := c_10
          rw [jle (by omega) (by omega)] at c_10
          refine lv_iload_n hx hb dX0_nearestShore_13 rfl (lv_at hl 1 rfl) ?_
          refine lv_bipush (v := (-9)) hx hb dX0_nearestShore_14 (by decide) ?_
          refine lv_icmp_eq (tgt := 32) hx hb dX0_nearestShore_16 (by decide) (fun q => absurd q (nI_m9 (by omega))) (fun _ => ?_)
          refine lv_aload_n hx hb dX0_nearestShore_19 rfl (lv_at hl 2 rfl) ?_
          refine lv_iload_n hx hb dX0_nearestShore_20 rfl (lv_at hl 0 rfl) ?_
          refine kSiV hx hb hml hown hts hK hP gX0_nearestShore_X0_distanceTo okX0_distanceTo (qX0_distanceTo l D cI cB g i0 B i (by show sn_ B ≤ 7; omega) (by omega)) [0, 1, 2, 3, 4, 5] rfl rfl rfl rfl (by decide) hl.1 rfl rfl (Nat.le_of_ble_eq_true rfl) dX0_nearestShore_21 (by decide) (fun r_1 hr_2 => ?_)
          replace hr_2 : r_1 = di_ B i := hr_2
          subst r_1
          refine lv_aload_n hx hb dX0_nearestShore_24 rfl (lv_at hl 2 rfl) ?_
          refine lv_iload_n hx hb dX0_nearestShore_25 rfl (lv_at hl 1 rfl) ?_
          refine kSiV hx hb hml hown hts hK hP gX0_nearestShore_X0_distanceTo okX0_distanceTo (qX0_distanceTo l D cI cB g i0 B t (by show sn_ B ≤ 7; omega) (by omega)) [0, 1, 2, 3, 4, 5] rfl rfl rfl rfl (by decide) hl.1 rfl rfl (Nat.le_of_ble_eq_true rfl) dX0_nearestShore_26 (by decide) (fun r_3 hr_4 => ?_)
          replace hr_4 : r_3 = di_ B t := hr_4
          subst r_3
          refine lv_icmp_ge (tgt := 34) hx hb dX0_nearestShore_29 (by decide) (fun c_29 => ?_) (fun c_29 => ?_)
          · have d_29 := Int32.not_lt.mpr c_29
            refine lv_iinc (v := (nI i) + 1) (lv' := [(2, .int ((nI i) + 1)), (1, .int (nI t)), (0, .ref (g i0))]) hx hb dX0_nearestShore_34 hl (k := 0) rfl (by first | rfl | decide) (by decide) rfl (fun ls hl => ?_)
            refine lv_goto (tgt := 5) hx hb dX0_nearestShore_37 (by decide) ?_
            exact ih_5 (i + 1) (nI t) ((nI i) + 1)  (by simp [ne_, hL, oI_, *]) (by first | rfl | exact nI_1 _) (by omega) (by omega) ls (lv_sub hl [0, 1, 2] rfl)
          · have d_29 := Int32.not_le.mp c_29
            refine lv_iload_n hx hb dX0_nearestShore_32 rfl (lv_at hl 0 rfl) ?_
            refine lv_istore_n (lv' := [(1, .int (nI i)), (2, .int (nI i)), (0, .ref (g i0))]) hx hb dX0_nearestShore_33 rfl hl (by decide) rfl (fun ls hl => ?_)
            refine lv_iinc (v := (nI i) + 1) (lv' := [(2, .int ((nI i) + 1)), (1, .int (nI i)), (0, .ref (g i0))]) hx hb dX0_nearestShore_34 hl (k := 1) rfl (by first | rfl | decide) (by decide) rfl (fun ls hl => ?_)
            refine lv_goto (tgt := 5) hx hb dX0_nearestShore_37 (by decide) ?_
            exact ih_5 (i + 1) (nI i) ((nI i) + 1)  (by simp [ne_, hL, oI_, *]) (by first | rfl | exact nI_1 _) (by omega) (by omega) ls (lv_sub hl [0, 1, 2] rfl)
  exact lp_5 ((sn_ B) + 1) 0 (-9) 0  (by first | rfl | exact nI_0.symm) (by first | rfl | exact nI_0.symm) (by omega) (by omega) ls (lv_sub hl [0, 1, 2] rfl)

theorem okX0_placesTogether : jok yX0_placesTogether wsX0_placesTogether cX0_placesTogether 3 (some .int) 0 := ⟨⟨_, rfl⟩, by decide +kernel, by decide +kernel⟩
set_option maxHeartbeats 1000000 in
set_option maxRecDepth 100000 in
theorem qX0_placesTogether (l : Launch) (D : va_G) (cI cB : ClassId) (g : Nat → Nat) (i0 : Nat) (B : BayT) (hn7 : sn_ B ≤ 7) : jSi D cI cB l yX0_placesTogether wsX0_placesTogether 0 [.ref (g i0)] (bW cI g i0 B) (fun r => r = su_ (pl_ B) (sn_ B)) := by
  refine jSi.of (cc := cX0_placesTogether) (maxL := 3) (ret := (some .int)) okX0_placesTogether (Nat.le_of_ble_eq_true rfl) ?_
  intro p e s m below meth c ls hx hb hr hts hown hlk hml hP hK hl
  replace hown : s.vm.findClass RX0 = some m.cls := hown
  replace hl : lv_has ls 3 [(0, .ref (g i0))] := hl
  have hinX0 : ∀ w ∈ wsX00, w ∈ wsX0_placesTogether := by decide +kernel
  refine lv_iconst (v := 0) hx hb dX0_placesTogether_0 (by decide) ?_
  refine lv_istore_n (lv' := [(1, .int 0), (0, .ref (g i0))]) hx hb dX0_placesTogether_1 rfl hl (by decide) rfl (fun ls hl => ?_)
  refine lv_iconst (v := 0) hx hb dX0_placesTogether_2 (by decide) ?_
  refine lv_istore_n (lv' := [(2, .int 0), (1, .int 0), (0, .ref (g i0))]) hx hb dX0_placesTogether_3 rfl hl (by decide) rfl (fun ls hl => ?_)
  have lp_4 : ∀ (fu_4 : Nat) (i : Nat) (x1_4 : Int32) (x2_4 : Int32) , (x1_4 = su_ (pl_ B) i) → (x2_4 = nI i) → (i ≤ sn_ B) → sn_ B - i < fu_4 → ∀ ls : Array Slot, lv_has ls 3 [(2, .int x2_4), (1, .int x1_4), (0, .ref (g i0))] → W p l e (jR 0) s m ([.ref (g i0)] : List Value).toArray below meth c s.heap [] 0 0 (MQ below (vp_Si (fun r => r = su_ (pl_ B) (sn_ B))) ([.ref (g i0)] : List Value).toArray s 0 0 (fun _ => False)) (F0 m 4 ls []) := by
    intro fu_4
    induction fu_4 with
    | zero => intro i x1_4 x2_4 hx1_4 hx2_4 hi hfu; exact absurd hfu (Nat.not_lt_zero _)
    | succ fu_4 ih_4 =>
      intro i x1_4 x2_4 hx1_4 hx2_4 hi hfu_4 ls hl
      subst x1_4
      subst x2_4
      replace hl : lv_has ls 3 [(2, .int (nI i)), (1, .int (su_ (pl_ B) i)), (0, .ref (g i0))] := hl
      refine lv_iload_n hx hb dX0_placesTogether_4 rfl (lv_at hl 0 rfl) ?_
      refine lv_aload_n hx hb dX0_placesTogether_5 rfl (lv_at hl 2 rfl) ?_
      refine va_get (ci := 0) (C := RX0) (T := TX0) (N := 11) hx hb hts hinX0 hown hK.1 hP 0 rfl rfl 6 (by decide) (hts _ (List.mem_of_getElem? (i := 1) rfl)) (fun _ h9 => h9) rfl dX0_placesTogether_6 ?_
      refine lv_icmp_ge (tgt := 27) hx hb dX0_placesTogether_9 (by decide) (fun c_9 => ?_) (fun c_9 => ?_)
      · replace c_9 : nI (sn_ B) ≤ nI i := c_9
        rw [jle (by omega) (by omega)] at c_9
        refine lv_iload_n hx hb dX0_placesTogether_27 rfl (lv_at hl 1 rfl) ?_
        refine rSi hx hb hr hlk ?_ dX0_placesTogether_28
        show (su_ (pl_ B) i) = _
        have e9 : i = sn_ B := by omega
        rw [e9]
      · replace c_9 : ¬ nI (sn_ B) ≤ nI i := c_9
        rw [jle (by omega) (by omega)] at c_9
        refine lv_iload_n hx hb dX0_placesTogether_12 rfl (lv_at hl 1 rfl) ?_
        refine lv_aload_n hx hb dX0_placesTogether_13 rfl (lv_at hl 2 rfl) ?_
        refine va_get (ci := 0) (C := RX0) (T := TX0) (N := 11) hx hb hts hinX0 hown hK.1 hP 0 rfl rfl 2 (by decide) (hts _ (List.mem_of_getElem? (i := 2) rfl)) (fun _ h9 => h9) rfl dX0_placesTogether_14 ?_
        refine lv_iload_n hx hb dX0_placesTogether_17 rfl (lv_at hl 0 rfl) ?_
        refine jald hx hb hK.1 hP 3 0 i rfl rfl rfl (by omega) (Nat.le_of_ble_eq_true rfl) dX0_placesTogether_18 ?_
        refine lv_iadd hx hb dX0_placesTogether_19 ?_
        refine lv_istore_n (lv' := [(1, .int ((su_ (pl_ B) i) + ((pl_ B) i))), (2, .int (nI i)), (0, .ref (g i0))]) hx hb dX0_placesTogether_20 rfl hl (by decide) rfl (fun ls hl => ?_)
        refine lv_iinc (v := (nI i) + 1) (lv' := [(2, .int ((nI i) + 1)), (1, .int ((su_ (pl_ B) i) + ((pl_ B) i))), (0, .ref (g i0))]) hx hb dX0_placesTogether_21 hl (k := 1) rfl (by first | rfl | decide) (by decide) rfl (fun ls hl => ?_)
        refine lv_goto (tgt := 4) hx hb dX0_placesTogether_24 (by decide) ?_
        exact ih_4 (i + 1) ((su_ (pl_ B) i) + ((pl_ B) i)) ((nI i) + 1)  (by first | rfl | exact nI_1 _) (by first | rfl | exact nI_1 _) (by omega) (by omega) ls (lv_sub hl [0, 1, 2] rfl)
  exact lp_4 ((sn_ B) + 1) 0 0 0  (by first | rfl | exact nI_0.symm) (by first | rfl | exact nI_0.symm) (by omega) (by omega) ls (lv_sub hl [0, 1, 2] rfl)

theorem okX0_joyTogether : jok yX0_joyTogether wsX0_joyTogether cX0_joyTogether 3 (some .int) 0 := ⟨⟨_, rfl⟩, by decide +kernel, by decide +kernel⟩
set_option maxHeartbeats 1000000 in
set_option maxRecDepth 100000 in
theorem qX0_joyTogether (l : Launch) (D : va_G) (cI cB : ClassId) (g : Nat → Nat) (i0 : Nat) (B : BayT) (hn7 : sn_ B ≤ 7) : jSi D cI cB l yX0_joyTogether wsX0_joyTogether 0 [.ref (g i0)] (bW cI g i0 B) (fun r => r = su_ (jy_ B) (sn_ B)) := by
  refine jSi.of (cc := cX0_joyTogether) (maxL := 3) (ret := (some .int)) okX0_joyTogether (Nat.le_of_ble_eq_true rfl) ?_
  intro p e s m below meth c ls hx hb hr hts hown hlk hml hP hK hl
  replace hown : s.vm.findClass RX0 = some m.cls := hown
  replace hl : lv_has ls 3 [(0, .ref (g i0))] := hl
  have hinX0 : ∀ w ∈ wsX00, w ∈ wsX0_joyTogether := by decide +kernel
  refine lv_iconst (v := 0) hx hb dX0_joyTogether_0 (by decide) ?_
  refine lv_istore_n (lv' := [(1, .int 0), (0, .ref (g i0))]) hx hb dX0_joyTogether_1 rfl hl (by decide) rfl (fun ls hl => ?_)
  refine lv_iconst (v := 0) hx hb dX0_joyTogether_2 (by decide) ?_
  refine lv_istore_n (lv' := [(2, .int 0), (1, .int 0), (0, .ref (g i0))]) hx hb dX0_joyTogether_3 rfl hl (by decide) rfl (fun ls hl => ?_)
  have lp_4 : ∀ (fu_4 : Nat) (i : Nat) (x1_4 : Int32) (x2_4 : Int32) , (x1_4 = su_ (jy_ B) i) → (x2_4 = nI i) → (i ≤ sn_ B) → sn_ B - i < fu_4 → ∀ ls : Array Slot, lv_has ls 3 [(2, .int x2_4), (1, .int x1_4), (0, .ref (g i0))] → W p l e (jR 0) s m ([.ref (g i0)] : List Value).toArray below meth c s.heap [] 0 0 (MQ below (vp_Si (fun r => r = su_ (jy_ B) (sn_ B))) ([.ref (g i0)] : List Value).toArray s 0 0 (fun _ => False)) (F0 m 4 ls []) := by
    intro fu_4
    induction fu_4 with
    | zero => intro i x1_4 x2_4 hx1_4 hx2_4 hi hfu; exact absurd hfu (Nat.not_lt_zero _)
    | succ fu_4 ih_4 =>
      intro i x1_4 x2_4 hx1_4 hx2_4 hi hfu_4 ls hl
      subst x1_4
      subst x2_4
      replace hl : lv_has ls 3 [(2, .int (nI i)), (1, .int (su_ (jy_ B) i)), (0, .ref (g i0))] := hl
      refine lv_iload_n hx hb dX0_joyTogether_4 rfl (lv_at hl 0 rfl) ?_
      refine lv_aload_n hx hb dX0_joyTogether_5 rfl (lv_at hl 2 rfl) ?_
      refine va_get (ci := 0) (C := RX0) (T := TX0) (N := 11) hx hb hts hinX0 hown hK.1 hP 0 rfl rfl 6 (by decide) (hts _ (List.mem_of_getElem? (i := 1) rfl)) (fun _ h9 => h9) rfl dX0_joyTogether_6 ?_
      refine lv_icmp_ge (tgt := 27) hx hb dX0_joyTogether_9 (by decide) (fun c_9 => ?_) (fun c_9 => ?_)
      · replace c_9 : nI (sn_ B) ≤ nI i := c_9
        rw [jle (by omega) (by omega)] at c_9
        refine lv_iload_n hx hb dX0_joyTogether_27 rfl (lv_at hl 1 rfl) ?_
        refine rSi hx hb hr hlk ?_ dX0_joyTogether_28
        show (su_ (jy_ B) i) = _
        have e9 : i = sn_ B := by omega
        rw [e9]
      · replace c_9 : ¬ nI (sn_ B) ≤ nI i := c_9
        rw [jle (by omega) (by omega)] at c_9
        refine lv_iload_n hx hb dX0_joyTogether_12 rfl (lv_at hl 1 rfl) ?_
        refine lv_aload_n hx hb dX0_joyTogether_13 rfl (lv_at hl 2 rfl) ?_
        refine va_get (ci := 0) (C := RX0) (T := TX0) (N := 11) hx hb hts hinX0 hown hK.1 hP 0 rfl rfl 4 (by decide) (hts _ (List.mem_of_getElem? (i := 2) rfl)) (fun _ h9 => h9) rfl dX0_joyTogether_14 ?_
        refine lv_iload_n hx hb dX0_joyTogether_17 rfl (lv_at hl 0 rfl) ?_
        refine jald hx hb hK.1 hP 5 0 i rfl rfl rfl (by omega) (Nat.le_of_ble_eq_true rfl) dX0_joyTogether_18 ?_
        refine lv_iadd hx hb dX0_joyTogether_19 ?_
        refine lv_istore_n (lv' := [(1, .int ((su_ (jy_ B) i) + ((jy_ B) i))), (2, .int (nI i)), (0, .ref (g i0))]) hx hb dX0_joyTogether_20 rfl hl (by decide) rfl (fun ls hl => ?_)
        refine lv_iinc (v := (nI i) + 1) (lv' := [(2, .int ((nI i) + 1)), (1, .int ((su_ (jy_ B) i) + ((jy_ B) i))), (0, .ref (g i0))]) hx hb dX0_joyTogether_21 hl (k := 1) rfl (by first | rfl | decide) (by decide) rfl (fun ls hl => ?_)
        refine lv_goto (tgt := 4) hx hb dX0_joyTogether_24 (by decide) ?_
        exact ih_4 (i + 1) ((su_ (jy_ B) i) + ((jy_ B) i)) ((nI i) + 1)  (by first | rfl | exact nI_1 _) (by first | rfl | exact nI_1 _) (by omega) (by omega) ls (lv_sub hl [0, 1, 2] rfl)
  exact lp_4 ((sn_ B) + 1) 0 0 0  (by first | rfl | exact nI_0.symm) (by first | rfl | exact nI_0.symm) (by omega) (by omega) ls (lv_sub hl [0, 1, 2] rfl)

theorem okX0_powderTogether : jok yX0_powderTogether wsX0_powderTogether cX0_powderTogether 3 (some .int) 0 := ⟨⟨_, rfl⟩, by decide +kernel, by decide +kernel⟩
set_option maxHeartbeats 1000000 in
set_option maxRecDepth 100000 in
theorem qX0_powderTogether (l : Launch) (D : va_G) (cI cB : ClassId) (g : Nat → Nat) (i0 : Nat) (B : BayT) (hn7 : sn_ B ≤ 7) : jSi D cI cB l yX0_powderTogether wsX0_powderTogether 0 [.ref (g i0)] (bW cI g i0 B) (fun r => r = su_ (pw_ B) (sn_ B)) := by
  refine jSi.of (cc := cX0_powderTogether) (maxL := 3) (ret := (some .int)) okX0_powderTogether (Nat.le_of_ble_eq_true rfl) ?_
  intro p e s m below meth c ls hx hb hr hts hown hlk hml hP hK hl
  replace hown : s.vm.findClass RX0 = some m.cls := hown
  replace hl : lv_has ls 3 [(0, .ref (g i0))] := hl
  have hinX0 : ∀ w ∈ wsX00, w ∈ wsX0_powderTogether := by decide +kernel
  refine lv_iconst (v := 0) hx hb dX0_powderTogether_0 (by decide) ?_
  refine lv_istore_n (lv' := [(1, .int 0), (0, .ref (g i0))]) hx hb dX0_powderTogether_1 rfl hl (by decide) rfl (fun ls hl => ?_)
  refine lv_iconst (v := 0) hx hb dX0_powderTogether_2 (by decide) ?_
  refine lv_istore_n (lv' := [(2, .int 0), (1, .int 0), (0, .ref (g i0))]) hx hb dX0_powderTogether_3 rfl hl (by decide) rfl (fun ls hl => ?_)
  have lp_4 : ∀ (fu_4 : Nat) (i : Nat) (x1_4 : Int32) (x2_4 : Int32) , (x1_4 = su_ (pw_ B) i) → (x2_4 = nI i) → (i ≤ sn_ B) → sn_ B - i < fu_4 → ∀ ls : Array Slot, lv_has ls 3 [(2, .int x2_4), (1, .int x1_4), (0, .ref (g i0))] → W p l e (jR 0) s m ([.ref (g i0)] : List Value).toArray below meth c s.heap [] 0 0 (MQ below (vp_Si (fun r => r = su_ (pw_ B) (sn_ B))) ([.ref (g i0)] : List Value).toArray s 0 0 (fun _ => False)) (F0 m 4 ls []) := by
    intro fu_4
    induction fu_4 with
    | zero => intro i x1_4 x2_4 hx1_4 hx2_4 hi hfu; exact absurd hfu (Nat.not_lt_zero _)
    | succ fu_4 ih_4 =>
      intro i x1_4 x2_4 hx1_4 hx2_4 hi hfu_4 ls hl
      subst x1_4
      subst x2_4
      replace hl : lv_has ls 3 [(2, .int (nI i)), (1, .int (su_ (pw_ B) i)), (0, .ref (g i0))] := hl
      refine lv_iload_n hx hb dX0_powderTogether_4 rfl (lv_at hl 0 rfl) ?_
      refine lv_aload_n hx hb dX0_powderTogether_5 rfl (lv_at hl 2 rfl) ?_
      refine va_get (ci := 0) (C := RX0) (T := TX0) (N := 11) hx hb hts hinX0 hown hK.1 hP 0 rfl rfl 6 (by decide) (hts _ (List.mem_of_getElem? (i := 1) rfl)) (fun _ h9 => h9) rfl dX0_powderTogether_6 ?_
      refine lv_icmp_ge (tgt := 27) hx hb dX0_powderTogether_9 (by decide) (fun c_9 => ?_) (fun c_9 => ?_)
      · replace c_9 : nI (sn_ B) ≤ nI i := c_9
        rw [jle (by omega) (by omega)] at c_9
        refine lv_iload_n hx hb dX0_powderTogether_27 rfl (lv_at hl 1 rfl) ?_
        refine rSi hx hb hr hlk ?_ dX0_powderTogether_28
        show (su_ (pw_ B) i) = _
        have e9 : i = sn_ B := by omega
        rw [e9]
      · replace c_9 : ¬ nI (sn_ B) ≤ nI i := c_9
        rw [jle (by omega) (by omega)] at c_9
        refine lv_iload_n hx hb dX0_powderTogether_12 rfl (lv_at hl 1 rfl) ?_
        refine lv_aload_n hx hb dX0_powderTogether_13 rfl (lv_at hl 2 rfl) ?_
        refine va_get (ci := 0) (C := RX0) (T := TX0) (N := 11) hx hb hts hinX0 hown hK.1 hP 0 rfl rfl 3 (by decide) (hts _ (List.mem_of_getElem? (i := 2) rfl)) (fun _ h9 => h9) rfl dX0_powderTogether_14 ?_
        refine lv_iload_n hx hb dX0_powderTogether_17 rfl (lv_at hl 0 rfl) ?_
        refine jald hx hb hK.1 hP 4 0 i rfl rfl rfl (by omega) (Nat.le_of_ble_eq_true rfl) dX0_powderTogether_18 ?_
        refine lv_iadd hx hb dX0_powderTogether_19 ?_
        refine lv_istore_n (lv' := [(1, .int ((su_ (pw_ B) i) + ((pw_ B) i))), (2, .int (nI i)), (0, .ref (g i0))]) hx hb dX0_powderTogether_20 rfl hl (by decide) rfl (fun ls hl => ?_)
        refine lv_iinc (v := (nI i) + 1) (lv' := [(2, .int ((nI i) + 1)), (1, .int ((su_ (pw_ B) i) + ((pw_ B) i))), (0, .ref (g i0))]) hx hb dX0_powderTogether_21 hl (k := 1) rfl (by first | rfl | decide) (by decide) rfl (fun ls hl => ?_)
        refine lv_goto (tgt := 4) hx hb dX0_powderTogether_24 (by decide) ?_
        exact ih_4 (i + 1) ((su_ (pw_ B) i) + ((pw_ B) i)) ((nI i) + 1)  (by first | rfl | exact nI_1 _) (by first | rfl | exact nI_1 _) (by omega) (by omega) ls (lv_sub hl [0, 1, 2] rfl)
  exact lp_4 ((sn_ B) + 1) 0 0 0  (by first | rfl | exact nI_0.symm) (by first | rfl | exact nI_0.symm) (by omega) (by omega) ls (lv_sub hl [0, 1, 2] rfl)

theorem okX0_joylessBits : jok yX0_joylessBits wsX0_joylessBits cX0_joylessBits 3 (some .int) 0 := ⟨⟨_, rfl⟩, by decide +kernel, by decide +kernel⟩
set_option maxHeartbeats 1000000 in
set_option maxRecDepth 100000 in
theorem qX0_joylessBits (l : Launch) (D : va_G) (cI cB : ClassId) (g : Nat → Nat) (i0 : Nat) (B : BayT) (hn7 : sn_ B ≤ 7) : jSi D cI cB l yX0_joylessBits wsX0_joylessBits 0 [.ref (g i0)] (bW cI g i0 B) (fun r => r = bi_ (jy_ B) 0 (sn_ B)) := by
  refine jSi.of (cc := cX0_joylessBits) (maxL := 3) (ret := (some .int)) okX0_joylessBits (Nat.le_of_ble_eq_true rfl) ?_
  intro p e s m below meth c ls hx hb hr hts hown hlk hml hP hK hl
  replace hown : s.vm.findClass RX0 = some m.cls := hown
  replace hl : lv_has ls 3 [(0, .ref (g i0))] := hl
  have hinX0 : ∀ w ∈ wsX00, w ∈ wsX0_joylessBits := by decide +kernel
  refine lv_iconst (v := 0) hx hb dX0_joylessBits_0 (by decide) ?_
  refine lv_istore_n (lv' := [(1, .int 0), (0, .ref (g i0))]) hx hb dX0_joylessBits_1 rfl hl (by decide) rfl (fun ls hl => ?_)
  refine lv_iconst (v := 0) hx hb dX0_joylessBits_2 (by decide) ?_
  refine lv_istore_n (lv' := [(2, .int 0), (1, .int 0), (0, .ref (g i0))]) hx hb dX0_joylessBits_3 rfl hl (by decide) rfl (fun ls hl => ?_)
  have lp_4 : ∀ (fu_4 : Nat) (i : Nat) (x1_4 : Int32) (x2_4 : Int32) , (x1_4 = bi_ (jy_ B) 0 i) → (x2_4 = nI i) → (i ≤ sn_ B) → sn_ B - i < fu_4 → ∀ ls : Array Slot, lv_has ls 3 [(2, .int x2_4), (1, .int x1_4), (0, .ref (g i0))] → W p l e (jR 0) s m ([.ref (g i0)] : List Value).toArray below meth c s.heap [] 0 0 (MQ below (vp_Si (fun r => r = bi_ (jy_ B) 0 (sn_ B))) ([.ref (g i0)] : List Value).toArray s 0 0 (fun _ => False)) (F0 m 4 ls []) := by
    intro fu_4
    induction fu_4 with
    | zero => intro i x1_4 x2_4 hx1_4 hx2_4 hi hfu; exact absurd hfu (Nat.not_lt_zero _)
    | succ fu_4 ih_4 =>
      intro i x1_4 x2_4 hx1_4 hx2_4 hi hfu_4 ls hl
      subst x1_4
      subst x2_4
      replace hl : lv_has ls 3 [(2, .int (nI i)), (1, .int (bi_ (jy_ B) 0 i)), (0, .ref (g i0))] := hl
      refine lv_iload_n hx hb dX0_joylessBits_4 rfl (lv_at hl 0 rfl) ?_
      refine lv_aload_n hx hb dX0_joylessBits_5 rfl (lv_at hl 2 rfl) ?_
      refine va_get (ci := 0) (C := RX0) (T := TX0) (N := 11) hx hb hts hinX0 hown hK.1 hP 0 rfl rfl 6 (by decide) (hts _ (List.mem_of_getElem? (i := 1) rfl)) (fun _ h9 => h9) rfl dX0_joylessBits_6 ?_
      refine lv_icmp_ge (tgt := 33) hx hb dX0_joylessBits_9 (by decide) (fun c_9 => ?_) (fun c_9 => ?_)
      · replace c_9 : nI (sn_ B) ≤ nI i := c_9
        rw [jle (by omega) (by omega)] at c_9
        refine lv_iload_n hx hb dX0_joylessBits_33 rfl (lv_at hl 1 rfl) ?_
        refine rSi hx hb hr hlk ?_ dX0_joylessBits_34
        show (bi_ (jy_ B) 0 i) = _
        have e9 : i = sn_ B := by omega
        rw [e9]
      · replace c_9 : ¬ nI (sn_ B) ≤ nI i := c_9
        rw [jle (by omega) (by omega)] at c_9
        refine lv_aload_n hx hb dX0_joylessBits_12 rfl (lv_at hl 2 rfl) ?_
        refine va_get (ci := 0) (C := RX0) (T := TX0) (N := 11) hx hb hts hinX0 hown hK.1 hP 0 rfl rfl 4 (by decide) (hts _ (List.mem_of_getElem? (i := 2) rfl)) (fun _ h9 => h9) rfl dX0_joylessBits_13 ?_
        refine lv_iload_n hx hb dX0_joylessBits_16 rfl (lv_at hl 0 rfl) ?_
        refine jald hx hb hK.1 hP 5 0 i rfl rfl rfl (by omega) (Nat.le_of_ble_eq_true rfl) dX0_joylessBits_17 ?_
        refine lv_if_ne (tgt := 27) hx hb dX0_joylessBits_18 (by decide) (fun c_18 => ?_) (fun c_18 => ?_)
        · skip
          refine lv_iinc (v := (nI i) + 1) (lv' := [(2, .int ((nI i) + 1)), (1, .int (bi_ (jy_ B) 0 i)), (0, .ref (g i0))]) hx hb dX0_joylessBits_27 hl (k := 0) rfl (by first | rfl | decide) (by decide) rfl (fun ls hl => ?_)
          refine lv_goto (tgt := 4) hx hb dX0_joylessBits_30 (by decide) ?_
          exact ih_4 (i + 1) (bi_ (jy_ B) 0 i) ((nI i) + 1)  (by simp only [bi_]; first | rw [if_pos (by assumption)] | rw [if_neg (by assumption)]) (by first | rfl | exact nI_1 _) (by omega) (by omega) ls (lv_sub hl [0, 1, 2] rfl)
        · skip
          refine lv_iload_n hx hb dX0_joylessBits_21 rfl (lv_at hl 1 rfl) ?_
          refine lv_iconst (v := 1) hx hb dX0_joylessBits_22 (by decide) ?_
          refine lv_iload_n hx hb dX0_joylessBits_23 rfl (lv_at hl 0 rfl) ?_
          refine lv_ishl hx hb dX0_joylessBits_24 ?_
          refine lv_ior hx hb dX0_joylessBits_25 ?_
          refine lv_istore_n (lv' := [(1, .int ((bi_ (jy_ B) 0 i) ||| (1 <<< ((nI i) &&& 31)))), (2, .int (nI i)), (0, .ref (g i0))]) hx hb dX0_joylessBits_26 rfl hl (by decide) rfl (fun ls hl => ?_)
          refine lv_iinc (v := (nI i) + 1) (lv' := [(2, .int ((nI i) + 1)), (1, .int ((bi_ (jy_ B) 0 i) ||| (1 <<< ((nI i) &&& 31)))), (0, .ref (g i0))]) hx hb dX0_joylessBits_27 hl (k := 1) rfl (by first | rfl | decide) (by decide) rfl (fun ls hl => ?_)
          refine lv_goto (tgt := 4) hx hb dX0_joylessBits_30 (by decide) ?_
          exact ih_4 (i + 1) ((bi_ (jy_ B) 0 i) ||| (1 <<< ((nI i) &&& 31))) ((nI i) + 1)  (by simp only [bi_]; first | rw [if_pos (by assumption)] | rw [if_neg (by assumption)]) (by first | rfl | exact nI_1 _) (by omega) (by omega) ls (lv_sub hl [0, 1, 2] rfl)
  exact lp_4 ((sn_ B) + 1) 0 0 0  (by first | rfl | exact nI_0.symm) (by first | rfl | exact nI_0.symm) (by omega) (by omega) ls (lv_sub hl [0, 1, 2] rfl)

theorem okX0_gapFrom : jok yX0_gapFrom wsX0_gapFrom cX0_gapFrom 3 (some .int) 1 := ⟨⟨_, rfl⟩, by decide +kernel, by decide +kernel⟩
set_option maxHeartbeats 1000000 in
set_option maxRecDepth 100000 in
theorem qX0_gapFrom (l : Launch) (D : va_G) (cI cB : ClassId) (g : Nat → Nat) (i0 : Nat) (B : BayT) (st : Nat) (hn7 : sn_ B ≤ 7) (hst : st ≤ 30) : jSi D cI cB l yX0_gapFrom wsX0_gapFrom 1 [.ref (g i0), .int (nI st)] (bW cI g i0 B) (fun r => r = gf_ B st) := by
  refine jSi.of (cc := cX0_gapFrom) (maxL := 3) (ret := (some .int)) okX0_gapFrom (Nat.le_of_ble_eq_true rfl) ?_
  intro p e s m below meth c ls hx hb hr hts hown hlk hml hP hK hl
  replace hown : s.vm.findClass RX0 = some m.cls := hown
  replace hl : lv_has ls 3 [(0, .ref (g i0)), (1, .int (nI st))] := hl
  refine lv_aload_n hx hb dX0_gapFrom_0 rfl (lv_at hl 0 rfl) ?_
  refine lv_iload_n hx hb dX0_gapFrom_1 rfl (lv_at hl 1 rfl) ?_
  refine kSiV hx hb hml hown hts hK hP gX0_gapFrom_X0_shoreAt okX0_shoreAt (qX0_shoreAt l D cI cB g i0 B (nI st) (by show sn_ B ≤ 7; omega)) [0, 1, 2, 3, 4, 5] rfl rfl rfl rfl (by decide) hl.1 rfl rfl (Nat.le_of_ble_eq_true rfl) dX0_gapFrom_2 (by decide) (fun r_1 hr_2 => ?_)
  replace hr_2 : r_1 = oI_ (sa_ B (nI st)) := hr_2
  subst r_1
  refine lv_bipush (v := (-9)) hx hb dX0_gapFrom_5 (by decide) ?_
  refine lv_icmp_ne (tgt := 12) hx hb dX0_gapFrom_7 (by decide) (fun c_7 => ?_) (fun c_7 => ?_)
  · rw [sa_9 hn7] at c_7
    refine lv_iload_n hx hb dX0_gapFrom_12 rfl (lv_at hl 1 rfl) ?_
    refine lv_iconst (v := 1) hx hb dX0_gapFrom_13 (by decide) ?_
    refine lv_iadd hx hb dX0_gapFrom_14 ?_
    refine lv_istore_n (lv' := [(2, .int ((nI st) + 1)), (0, .ref (g i0)), (1, .int (nI st))]) hx hb dX0_gapFrom_15 rfl hl (by decide) rfl (fun ls hl => ?_)
    have lp_16 : ∀ (fu_16 : Nat) (i : Nat) (x2_16 : Int32) , (x2_16 = nI i) → (i ≤ 31) → (nx_ B (31 - i) i = nx_ B (31 - (st + 1)) (st + 1)) → 31 - i < fu_16 → ∀ ls : Array Slot, lv_has ls 3 [(2, .int x2_16), (0, .ref (g i0)), (1, .int (nI st))] → W p l e (jR 1) s m ([.ref (g i0), .int (nI st)] : List Value).toArray below meth c s.heap [] 0 0 (MQ below (vp_Si (fun r => r = gf_ B st)) ([.ref (g i0), .int (nI st)] : List Value).toArray s 0 0 (fun _ => False)) (F0 m 16 ls []) := by
      intro fu_16
      induction fu_16 with
      | zero => intro i x2_16 hx2_16 hi hre hfu; exact absurd hfu (Nat.not_lt_zero _)
      | succ fu_16 ih_16 =>
        intro i x2_16 hx2_16 hi hre hfu_16 ls hl
        subst x2_16
        replace hl : lv_has ls 3 [(2, .int (nI i)), (0, .ref (g i0)), (1, .int (nI st))] := hl
        refine lv_iload_n hx hb dX0_gapFrom_16 rfl (lv_at hl 0 rfl) ?_
        refine lv_bipush (v := 30) hx hb dX0_gapFrom_17 (by decide) ?_
        refine lv_icmp_gt (tgt := 42) hx hb dX0_gapFrom_19 (by decide) (fun c_19 => ?_) (fun c_19 => ?_)
        · replace c_19 : nI 30 < nI i := c_19
          rw [jlt (by omega) (by omega)] at c_19
          refine lv_iconst (v := 0) hx hb dX0_gapFrom_42 (by decide) ?_
          refine rSi hx hb hr hlk ?_ dX0_gapFrom_43
          show 0 = _
          rw [nx_0 (by omega)] at hre; unfold gf_; rw [if_neg c_7, ← hre]; rfl
        · replace c_19 : ¬ nI 30 < nI i := c_19
          rw [jlt (by omega) (by omega)] at c_19
          refine lv_aload_n hx hb dX0_gapFrom_22 rfl (lv_at hl 1 rfl) ?_
          refine lv_iload_n hx hb dX0_gapFrom_23 rfl (lv_at hl 0 rfl) ?_
          refine kSiV hx hb hml hown hts hK hP gX0_gapFrom_X0_shoreAt okX0_shoreAt (qX0_shoreAt l D cI cB g i0 B (nI i) (by show sn_ B ≤ 7; omega)) [0, 1, 2, 3, 4, 5] rfl rfl rfl rfl (by decide) hl.1 rfl rfl (Nat.le_of_ble_eq_true rfl) dX0_gapFrom_24 (by decide) (fun r_3 hr_4 => ?_)
          replace hr_4 : r_3 = oI_ (sa_ B (nI i)) := hr_4
          subst r_3
          refine lv_bipush (v := (-9)) hx hb dX0_gapFrom_27 (by decide) ?_
          refine lv_icmp_eq (tgt := 36) hx hb dX0_gapFrom_29 (by decide) (fun c_29 => ?_) (fun c_29 => ?_)
          · rw [sa_9 hn7] at c_29
            refine lv_iinc (v := (nI i) + 1) (lv' := [(2, .int ((nI i) + 1)), (0, .ref (g i0)), (1, .int (nI st))]) hx hb dX0_gapFrom_36 hl (k := 0) rfl (by first | rfl | decide) (by decide) rfl (fun ls hl => ?_)
            refine lv_goto (tgt := 16) hx hb dX0_gapFrom_39 (by decide) ?_
            exact ih_16 (i + 1) ((nI i) + 1)  (by first | rfl | exact nI_1 _) (by omega) (by rw [nx_s (by omega), if_pos c_29] at hre; exact hre) (by omega) ls (lv_sub hl [0, 1, 2] rfl)
          · rw [sa_9 hn7] at c_29
            refine lv_iload_n hx hb dX0_gapFrom_32 rfl (lv_at hl 0 rfl) ?_
            refine lv_iload_n hx hb dX0_gapFrom_33 rfl (lv_at hl 2 rfl) ?_
            refine lv_isub hx hb dX0_gapFrom_34 ?_
            refine rSi hx hb hr hlk ?_ dX0_gapFrom_35
            show ((nI i) - (nI st)) = _
            rw [nx_s (by omega), if_neg c_29] at hre; unfold gf_; rw [if_neg c_7, ← hre]; rfl
    exact lp_16 ((31 - (st + 1)) + 1) (st + 1) ((nI st) + 1)  (nI_1 _) (by omega) (by rfl) (by omega) ls (lv_sub hl [0, 1, 2] rfl)
  · rw [sa_9 hn7] at c_7
    refine lv_iconst (v := 0) hx hb dX0_gapFrom_10 (by decide) ?_
    refine rSi hx hb hr hlk ?_ dX0_gapFrom_11
    show 0 = _
    unfold gf_; rw [if_pos c_7]

theorem okX0_widestGap : jok yX0_widestGap wsX0_widestGap cX0_widestGap 4 (some .int) 0 := ⟨⟨_, rfl⟩, by decide +kernel, by decide +kernel⟩
set_option maxHeartbeats 1000000 in
set_option maxRecDepth 100000 in
theorem qX0_widestGap (l : Launch) (D : va_G) (cI cB : ClassId) (g : Nat → Nat) (i0 : Nat) (B : BayT) (hn7 : sn_ B ≤ 7) : jSi D cI cB l yX0_widestGap wsX0_widestGap 2 [.ref (g i0)] (bW cI g i0 B) (fun r => r = oI_ (wg_ B 31).1) := by
  refine jSi.of (cc := cX0_widestGap) (maxL := 4) (ret := (some .int)) okX0_widestGap (Nat.le_of_ble_eq_true rfl) ?_
  intro p e s m below meth c ls hx hb hr hts hown hlk hml hP hK hl
  replace hown : s.vm.findClass RX0 = some m.cls := hown
  replace hl : lv_has ls 4 [(0, .ref (g i0))] := hl
  refine lv_bipush (v := (-9)) hx hb dX0_widestGap_0 (by decide) ?_
  refine lv_istore_n (lv' := [(1, .int (-9)), (0, .ref (g i0))]) hx hb dX0_widestGap_2 rfl hl (by decide) rfl (fun ls hl => ?_)
  refine lv_iconst (v := 0) hx hb dX0_widestGap_3 (by decide) ?_
  refine lv_istore_n (lv' := [(2, .int 0), (1, .int (-9)), (0, .ref (g i0))]) hx hb dX0_widestGap_4 rfl hl (by decide) rfl (fun ls hl => ?_)
  refine lv_iconst (v := 0) hx hb dX0_widestGap_5 (by decide) ?_
  refine lv_istore_n (lv' := [(3, .int 0), (2, .int 0), (1, .int (-9)), (0, .ref (g i0))]) hx hb dX0_widestGap_6 rfl hl (by decide) rfl (fun ls hl => ?_)
  have lp_7 : ∀ (fu_7 : Nat) (i : Nat) (x1_7 : Int32) (x2_7 : Int32) (x3_7 : Int32) , (x1_7 = oI_ (wg_ B i).1) → (x2_7 = (wg_ B i).2) → (x3_7 = nI i) → (i ≤ 31) → 31 - i < fu_7 → ∀ ls : Array Slot, lv_has ls 4 [(3, .int x3_7), (2, .int x2_7), (1, .int x1_7), (0, .ref (g i0))] → W p l e (jR 2) s m ([.ref (g i0)] : List Value).toArray below meth c s.heap [] 0 0 (MQ below (vp_Si (fun r => r = oI_ (wg_ B 31).1)) ([.ref (g i0)] : List Value).toArray s 0 0 (fun _ => False)) (F0 m 7 ls []) := by
    intro fu_7
    induction fu_7 with
    | zero => intro i x1_7 x2_7 x3_7 hx1_7 hx2_7 hx3_7 hi hfu; exact absurd hfu (Nat.not_lt_zero _)
    | succ fu_7 ih_7 =>
      intro i x1_7 x2_7 x3_7 hx1_7 hx2_7 hx3_7 hi hfu_7 ls hl
      subst x1_7
      subst x2_7
      subst x3_7
      replace hl : lv_has ls 4 [(3, .int (nI i)), (2, .int ((wg_ B i).2)), (1, .int (oI_ (wg_ B i).1)), (0, .ref (g i0))] := hl
      refine lv_iload_n hx hb dX0_widestGap_7 rfl (lv_at hl 0 rfl) ?_
      refine lv_bipush (v := 30) hx hb dX0_widestGap_8 (by decide) ?_
      refine lv_icmp_gt (tgt := 36) hx hb dX0_widestGap_10 (by decide) (fun c_10 => ?_) (fun c_10 => ?_)
      · replace c_10 : nI 30 < nI i := c_10
        rw [jlt (by omega) (by omega)] at c_10
        refine lv_iload_n hx hb dX0_widestGap_36 rfl (lv_at hl 2 rfl) ?_
        refine rSi hx hb hr hlk ?_ dX0_widestGap_37
        show (oI_ (wg_ B i).1) = _
        have e9 : i = 31 := by omega
        rw [e9]
      · replace c_10 : ¬ nI 30 < nI i := c_10
        rw [jlt (by omega) (by omega)] at c_10
        refine lv_aload_n hx hb dX0_widestGap_13 rfl (lv_at hl 3 rfl) ?_
        refine lv_iload_n hx hb dX0_widestGap_14 rfl (lv_at hl 0 rfl) ?_
        refine kSiV hx hb hml hown hts hK hP gX0_widestGap_X0_gapFrom okX0_gapFrom (qX0_gapFrom l D cI cB g i0 B i (by show sn_ B ≤ 7; omega) (by omega)) [0, 1, 2, 3, 4, 5] rfl rfl rfl rfl (by decide) hl.1 rfl rfl (Nat.le_of_ble_eq_true rfl) dX0_widestGap_15 (by decide) (fun r_1 hr_2 => ?_)
        replace hr_2 : r_1 = gf_ B i := hr_2
        subst r_1
        refine lv_iload_n hx hb dX0_widestGap_18 rfl (lv_at hl 1 rfl) ?_
        refine lv_icmp_le (tgt := 30) hx hb dX0_widestGap_19 (by decide) (fun c_19 => ?_) (fun c_19 => ?_)
        · have d_19 := Int32.not_lt.mpr c_19
          refine lv_iinc (v := (nI i) + 1) (lv' := [(3, .int ((nI i) + 1)), (2, .int ((wg_ B i).2)), (1, .int (oI_ (wg_ B i).1)), (0, .ref (g i0))]) hx hb dX0_widestGap_30 hl (k := 0) rfl (by first | rfl | decide) (by decide) rfl (fun ls hl => ?_)
          refine lv_goto (tgt := 7) hx hb dX0_widestGap_33 (by decide) ?_
          exact ih_7 (i + 1) (oI_ (wg_ B i).1) ((wg_ B i).2) ((nI i) + 1)  (by simp only [wg_]; first | rw [if_pos (Int32.not_le.mp c_19)]; done | rw [if_pos (Int32.not_le.mp c_19)]; rfl | rw [if_neg (Int32.not_lt.mpr c_19)]) (by simp only [wg_]; first | rw [if_pos (Int32.not_le.mp c_19)] | rw [if_neg (Int32.not_lt.mpr c_19)]) (by first | rfl | exact nI_1 _) (by omega) (by omega) ls (lv_sub hl [0, 1, 2, 3] rfl)
        · have d_19 := Int32.not_le.mp c_19
          refine lv_iload_n hx hb dX0_widestGap_22 rfl (lv_at hl 0 rfl) ?_
          refine lv_istore_n (lv' := [(1, .int (nI i)), (3, .int (nI i)), (2, .int ((wg_ B i).2)), (0, .ref (g i0))]) hx hb dX0_widestGap_23 rfl hl (by decide) rfl (fun ls hl => ?_)
          refine lv_aload_n hx hb dX0_widestGap_24 rfl (lv_at hl 3 rfl) ?_
          refine lv_iload_n hx hb dX0_widestGap_25 rfl (lv_at hl 1 rfl) ?_
          refine kSiV hx hb hml hown hts hK hP gX0_widestGap_X0_gapFrom okX0_gapFrom (qX0_gapFrom l D cI cB g i0 B i (by show sn_ B ≤ 7; omega) (by omega)) [0, 1, 2, 3, 4, 5] rfl rfl rfl rfl (by decide) hl.1 rfl rfl (Nat.le_of_ble_eq_true rfl) dX0_widestGap_26 (by decide) (fun r_3 hr_4 => ?_)
          replace hr_4 : r_3 = gf_ B i := hr_4
          subst r_3
          refine lv_istore_n (lv' := [(2, .int (gf_ B i)), (1, .int (nI i)), (3, .int (nI i)), (0, .ref (g i0))]) hx hb dX0_widestGap_29 rfl hl (by decide) rfl (fun ls hl => ?_)
          refine lv_iinc (v := (nI i) + 1) (lv' := [(3, .int ((nI i) + 1)), (2, .int (gf_ B i)), (1, .int (nI i)), (0, .ref (g i0))]) hx hb dX0_widestGap_30 hl (k := 2) rfl (by first | rfl | decide) (by decide) rfl (fun ls hl => ?_)
          refine lv_goto (tgt := 7) hx hb dX0_widestGap_33 (by decide) ?_
          exact ih_7 (i + 1) (nI i) (gf_ B i) ((nI i) + 1)  (by simp only [wg_]; first | rw [if_pos (Int32.not_le.mp c_19)]; done | rw [if_pos (Int32.not_le.mp c_19)]; rfl | rw [if_neg (Int32.not_lt.mpr c_19)]) (by simp only [wg_]; first | rw [if_pos (Int32.not_le.mp c_19)] | rw [if_neg (Int32.not_lt.mpr c_19)]) (by first | rfl | exact nI_1 _) (by omega) (by omega) ls (lv_sub hl [0, 1, 2, 3] rfl)
  exact lp_7 (31 + 1) 0 (-9) 0 0  (by first | rfl | exact nI_0.symm) (by first | rfl | exact nI_0.symm) (by first | rfl | exact nI_0.symm) (by omega) (by omega) ls (lv_sub hl [0, 1, 2, 3] rfl)

theorem okX0_loudOf : jok yX0_loudOf wsX0_loudOf cX0_loudOf 6 (some .int) 2 := ⟨⟨_, rfl⟩, by decide +kernel, by decide +kernel⟩
set_option maxHeartbeats 1000000 in
set_option maxRecDepth 100000 in
theorem qX0_loudOf (l : Launch) (D : va_G) (cI cB : ClassId) (g : Nat → Nat) (i0 : Nat) (B : BayT) (k : Nat) (h : Int32) (hn7 : sn_ B ≤ 7) (hk : k < 7) : jSi D cI cB l yX0_loudOf wsX0_loudOf 0 [.ref (g i0), .int (nI k), .int h] (bW cI g i0 B) (fun r => r = ld_ (kd_ B k) (fg_ B k) h) := by
  refine jSi.of (cc := cX0_loudOf) (maxL := 6) (ret := (some .int)) okX0_loudOf (Nat.le_of_ble_eq_true rfl) ?_
  intro p e s m below meth c ls hx hb hr hts hown hlk hml hP hK hl
  replace hown : s.vm.findClass RX0 = some m.cls := hown
  replace hl : lv_has ls 6 [(0, .ref (g i0)), (1, .int (nI k)), (2, .int h)] := hl
  have hinX0 : ∀ w ∈ wsX00, w ∈ wsX0_loudOf := by decide +kernel
  refine lv_aload_n hx hb dX0_loudOf_0 rfl (lv_at hl 0 rfl) ?_
  refine va_get (ci := 0) (C := RX0) (T := TX0) (N := 11) hx hb hts hinX0 hown hK.1 hP 0 rfl rfl 1 (by decide) (hts _ (List.mem_of_getElem? (i := 1) rfl)) (fun _ h9 => h9) rfl dX0_loudOf_1 ?_
  refine lv_iload_n hx hb dX0_loudOf_4 rfl (lv_at hl 1 rfl) ?_
  refine jald hx hb hK.1 hP 2 0 k rfl rfl rfl (by omega) (Nat.le_of_ble_eq_true rfl) dX0_loudOf_5 ?_
  refine lv_istore_n (lv' := [(3, .int ((fg_ B) k)), (0, .ref (g i0)), (1, .int (nI k)), (2, .int h)]) hx hb dX0_loudOf_6 rfl hl (by decide) rfl (fun ls hl => ?_)
  have jn_53 : ∀  (x4_53 : Int32) (x5_53 : Int32) , (x4_53 = dr_ (fg_ B k) h) → (x5_53 = b1 ((9 ≤ h ∧ h ≤ 11) ∨ (18 ≤ h ∧ h ≤ 20))) → ∀ ls : Array Slot, lv_has ls 6 [(5, .int x5_53), (4, .int x4_53), (3, .int ((fg_ B) k)), (0, .ref (g i0)), (1, .int (nI k)), (2, .int h)] → W p l e (jR 0) s m ([.ref (g i0), .int (nI k), .int h] : List Value).toArray below meth c s.heap [] 0 0 (MQ below (vp_Si (fun r => r = ld_ (kd_ B k) (fg_ B k) h)) ([.ref (g i0), .int (nI k), .int h] : List Value).toArray s 0 0 (fun _ => False)) (F0 m 53 ls []) := by
      intro x4_53 x5_53 hx4_53 hx5_53 ls hl
      subst x4_53
      subst x5_53
      replace hl : lv_has ls 6 [(5, .int (b1 ((9 ≤ h ∧ h ≤ 11) ∨ (18 ≤ h ∧ h ≤ 20)))), (4, .int (dr_ (fg_ B k) h)), (3, .int ((fg_ B) k)), (0, .ref (g i0)), (1, .int (nI k)), (2, .int h)] := hl
      refine lv_aload_n hx hb dX0_loudOf_53 rfl (lv_at hl 3 rfl) ?_
      refine va_get (ci := 0) (C := RX0) (T := TX0) (N := 11) hx hb hts hinX0 hown hK.1 hP 0 rfl rfl 0 (by decide) (hts _ (List.mem_of_getElem? (i := 2) rfl)) (fun _ h9 => h9) rfl dX0_loudOf_54 ?_
      refine lv_iload_n hx hb dX0_loudOf_57 rfl (lv_at hl 4 rfl) ?_
      refine jald hx hb hK.1 hP 1 0 k rfl rfl rfl (by omega) (Nat.le_of_ble_eq_true rfl) dX0_loudOf_58 ?_
      by_cases c_59_0 : (kd_ B) k = 0
      · refine lv_tableIn (off := 33) (tgt := 92) hx hb dX0_loudOf_59 (by rw [c_59_0]; decide) (by rw [c_59_0]; decide) (by rw [c_59_0]; rfl) (by decide) ?_
        refine lv_iload_n hx hb dX0_loudOf_92 rfl (lv_at hl 2 rfl) ?_
        refine rSi hx hb hr hlk ?_ dX0_loudOf_93
        show ((fg_ B) k) = _
        simp [ld_, *]
      by_cases c_59_1 : (kd_ B) k = 1
      · refine lv_tableIn (off := 35) (tgt := 94) hx hb dX0_loudOf_59 (by rw [c_59_1]; decide) (by rw [c_59_1]; decide) (by rw [c_59_1]; rfl) (by decide) ?_
        refine lv_iload hx hb dX0_loudOf_94 (lv_at hl 1 rfl) ?_
        refine rSi hx hb hr hlk ?_ dX0_loudOf_96
        show (dr_ (fg_ B k) h) = _
        simp [ld_, *]
      by_cases c_59_2 : (kd_ B) k = 2
      · refine lv_tableIn (off := 38) (tgt := 97) hx hb dX0_loudOf_59 (by rw [c_59_2]; decide) (by rw [c_59_2]; decide) (by rw [c_59_2]; rfl) (by decide) ?_
        refine lv_iconst (v := 4) hx hb dX0_loudOf_97 (by decide) ?_
        refine rSi hx hb hr hlk ?_ dX0_loudOf_98
        show 4 = _
        simp [ld_, *]
      by_cases c_59_3 : (kd_ B) k = 3
      · refine lv_tableIn (off := 40) (tgt := 99) hx hb dX0_loudOf_59 (by rw [c_59_3]; decide) (by rw [c_59_3]; decide) (by rw [c_59_3]; rfl) (by decide) ?_
        refine lv_iload hx hb dX0_loudOf_99 (lv_at hl 0 rfl) ?_
        refine lv_if_eq (tgt := 111) hx hb dX0_loudOf_101 (by decide) (fun c_101 => ?_) (fun c_101 => ?_)
        · replace c_101 := b1_z c_101
          refine lv_iload hx hb dX0_loudOf_111 (lv_at hl 1 rfl) ?_
          refine rSi hx hb hr hlk ?_ dX0_loudOf_113
          show (dr_ (fg_ B k) h) = _
          simp [ld_, *]
        · replace c_101 := b1_n c_101
          refine lv_iconst (v := 2) hx hb dX0_loudOf_104 (by decide) ?_
          refine lv_iload hx hb dX0_loudOf_105 (lv_at hl 1 rfl) ?_
          refine lv_imul hx hb dX0_loudOf_107 ?_
          refine lv_goto (tgt := 113) hx hb dX0_loudOf_108 (by decide) ?_
          refine rSi hx hb hr hlk ?_ dX0_loudOf_113
          show (2 * (dr_ (fg_ B k) h)) = _
          simp [ld_, *]
      by_cases c_59_4 : (kd_ B) k = 4
      · refine lv_tableIn (off := 55) (tgt := 114) hx hb dX0_loudOf_59 (by rw [c_59_4]; decide) (by rw [c_59_4]; decide) (by rw [c_59_4]; rfl) (by decide) ?_
        refine lv_iload_n hx hb dX0_loudOf_114 rfl (lv_at hl 5 rfl) ?_
        refine lv_iload_n hx hb dX0_loudOf_115 rfl (lv_at hl 2 rfl) ?_
        refine lv_icmp_eq (tgt := 127) hx hb dX0_loudOf_116 (by decide) (fun c_116 => ?_) (fun c_116 => ?_)
        · skip
          refine lv_bipush (v := 30) hx hb dX0_loudOf_127 (by decide) ?_
          refine lv_goto (tgt := 133) hx hb dX0_loudOf_129 (by decide) ?_
          refine rSi hx hb hr hlk ?_ dX0_loudOf_133
          show 30 = _
          simp [ld_, *]
        · skip
          refine lv_iload_n hx hb dX0_loudOf_119 rfl (lv_at hl 5 rfl) ?_
          refine lv_iload_n hx hb dX0_loudOf_120 rfl (lv_at hl 2 rfl) ?_
          refine lv_bipush (v := 12) hx hb dX0_loudOf_121 (by decide) ?_
          refine lv_iadd hx hb dX0_loudOf_123 ?_
          refine lv_icmp_ne (tgt := 132) hx hb dX0_loudOf_124 (by decide) (fun c_124 => ?_) (fun c_124 => ?_)
          · skip
            refine lv_iconst (v := 0) hx hb dX0_loudOf_132 (by decide) ?_
            refine rSi hx hb hr hlk ?_ dX0_loudOf_133
            show 0 = _
            simp [ld_, *]
          · skip
            refine lv_bipush (v := 30) hx hb dX0_loudOf_127 (by decide) ?_
            refine lv_goto (tgt := 133) hx hb dX0_loudOf_129 (by decide) ?_
            refine rSi hx hb hr hlk ?_ dX0_loudOf_133
            show 30 = _
            simp [ld_, *]
      refine lv_tableOut (tgt := 134) hx hb dX0_loudOf_59 (by have t0 := lv_neT c_59_0 (a := 0) (by decide); have t1 := lv_neT c_59_1 (a := 1) (by decide); have t2 := lv_neT c_59_2 (a := 2) (by decide); have t3 := lv_neT c_59_3 (a := 3) (by decide); have t4 := lv_neT c_59_4 (a := 4) (by decide); omega) (by decide) ?_
      refine lv_iconst (v := 1) hx hb dX0_loudOf_134 (by decide) ?_
      refine rSi hx hb hr hlk ?_ dX0_loudOf_135
      show 1 = _
      simp [ld_, *]
  refine lv_iload_n hx hb dX0_loudOf_7 rfl (lv_at hl 3 rfl) ?_
  refine lv_iconst (v := 2) hx hb dX0_loudOf_8 (by decide) ?_
  refine lv_irem hx hb dX0_loudOf_9 (by decide) ?_
  refine lv_if_ne (tgt := 19) hx hb dX0_loudOf_10 (by decide) (fun c_10 => ?_) (fun c_10 => ?_)
  · skip
    refine lv_iconst (v := 0) hx hb dX0_loudOf_19 (by decide) ?_
    refine lv_istore (lv' := [(4, .int 0), (3, .int ((fg_ B) k)), (0, .ref (g i0)), (1, .int (nI k)), (2, .int h)]) hx hb dX0_loudOf_20 hl (by decide) rfl (fun ls hl => ?_)
    refine lv_iload_n hx hb dX0_loudOf_22 rfl (lv_at hl 4 rfl) ?_
    refine lv_bipush (v := 9) hx hb dX0_loudOf_23 (by decide) ?_
    refine lv_icmp_lt (tgt := 34) hx hb dX0_loudOf_25 (by decide) (fun c_25 => ?_) (fun c_25 => ?_)
    · have d_25 := Int32.not_le.mpr c_25
      refine lv_iload_n hx hb dX0_loudOf_34 rfl (lv_at hl 4 rfl) ?_
      refine lv_bipush (v := 18) hx hb dX0_loudOf_35 (by decide) ?_
      refine lv_icmp_lt (tgt := 50) hx hb dX0_loudOf_37 (by decide) (fun c_37 => ?_) (fun c_37 => ?_)
      · have d_37 := Int32.not_le.mpr c_37
        refine lv_iconst (v := 0) hx hb dX0_loudOf_50 (by decide) ?_
        refine lv_istore (lv' := [(5, .int 0), (4, .int 0), (3, .int ((fg_ B) k)), (0, .ref (g i0)), (1, .int (nI k)), (2, .int h)]) hx hb dX0_loudOf_51 hl (by decide) rfl (fun ls hl => ?_)
        exact jn_53  0 0  (by unfold dr_; first | rw [if_pos (by assumption)] | rw [if_neg (by assumption)]) (by simp [b1, *])   ls (lv_sub hl [0, 1, 2, 3, 4, 5] rfl)
      · have d_37 := Int32.not_lt.mp c_37
        refine lv_iload_n hx hb dX0_loudOf_40 rfl (lv_at hl 4 rfl) ?_
        refine lv_bipush (v := 20) hx hb dX0_loudOf_41 (by decide) ?_
        refine lv_icmp_gt (tgt := 50) hx hb dX0_loudOf_43 (by decide) (fun c_43 => ?_) (fun c_43 => ?_)
        · have d_43 := Int32.not_le.mpr c_43
          refine lv_iconst (v := 0) hx hb dX0_loudOf_50 (by decide) ?_
          refine lv_istore (lv' := [(5, .int 0), (4, .int 0), (3, .int ((fg_ B) k)), (0, .ref (g i0)), (1, .int (nI k)), (2, .int h)]) hx hb dX0_loudOf_51 hl (by decide) rfl (fun ls hl => ?_)
          exact jn_53  0 0  (by unfold dr_; first | rw [if_pos (by assumption)] | rw [if_neg (by assumption)]) (by simp [b1, *])   ls (lv_sub hl [0, 1, 2, 3, 4, 5] rfl)
        · have d_43 := Int32.not_lt.mp c_43
          refine lv_iconst (v := 1) hx hb dX0_loudOf_46 (by decide) ?_
          refine lv_goto (tgt := 51) hx hb dX0_loudOf_47 (by decide) ?_
          refine lv_istore (lv' := [(5, .int 1), (4, .int 0), (3, .int ((fg_ B) k)), (0, .ref (g i0)), (1, .int (nI k)), (2, .int h)]) hx hb dX0_loudOf_51 hl (by decide) rfl (fun ls hl => ?_)
          exact jn_53  0 1  (by unfold dr_; first | rw [if_pos (by assumption)] | rw [if_neg (by assumption)]) (by simp [b1, *])   ls (lv_sub hl [0, 1, 2, 3, 4, 5] rfl)
    · have d_25 := Int32.not_lt.mp c_25
      refine lv_iload_n hx hb dX0_loudOf_28 rfl (lv_at hl 4 rfl) ?_
      refine lv_bipush (v := 11) hx hb dX0_loudOf_29 (by decide) ?_
      refine lv_icmp_le (tgt := 46) hx hb dX0_loudOf_31 (by decide) (fun c_31 => ?_) (fun c_31 => ?_)
      · have d_31 := Int32.not_lt.mpr c_31
        refine lv_iconst (v := 1) hx hb dX0_loudOf_46 (by decide) ?_
        refine lv_goto (tgt := 51) hx hb dX0_loudOf_47 (by decide) ?_
        refine lv_istore (lv' := [(5, .int 1), (4, .int 0), (3, .int ((fg_ B) k)), (0, .ref (g i0)), (1, .int (nI k)), (2, .int h)]) hx hb dX0_loudOf_51 hl (by decide) rfl (fun ls hl => ?_)
        exact jn_53  0 1  (by unfold dr_; first | rw [if_pos (by assumption)] | rw [if_neg (by assumption)]) (by simp [b1, *])   ls (lv_sub hl [0, 1, 2, 3, 4, 5] rfl)
      · have d_31 := Int32.not_le.mp c_31
        refine lv_iload_n hx hb dX0_loudOf_34 rfl (lv_at hl 4 rfl) ?_
        refine lv_bipush (v := 18) hx hb dX0_loudOf_35 (by decide) ?_
        refine lv_icmp_lt (tgt := 50) hx hb dX0_loudOf_37 (by decide) (fun c_37 => ?_) (fun c_37 => ?_)
        · have d_37 := Int32.not_le.mpr c_37
          refine lv_iconst (v := 0) hx hb dX0_loudOf_50 (by decide) ?_
          refine lv_istore (lv' := [(5, .int 0), (4, .int 0), (3, .int ((fg_ B) k)), (0, .ref (g i0)), (1, .int (nI k)), (2, .int h)]) hx hb dX0_loudOf_51 hl (by decide) rfl (fun ls hl => ?_)
          exact jn_53  0 0  (by unfold dr_; first | rw [if_pos (by assumption)] | rw [if_neg (by assumption)]) (by simp [b1, *])   ls (lv_sub hl [0, 1, 2, 3, 4, 5] rfl)
        · have d_37 := Int32.not_lt.mp c_37
          refine lv_iload_n hx hb dX0_loudOf_40 rfl (lv_at hl 4 rfl) ?_
          refine lv_bipush (v := 20) hx hb dX0_loudOf_41 (by decide) ?_
          refine lv_icmp_gt (tgt := 50) hx hb dX0_loudOf_43 (by decide) (fun c_43 => ?_) (fun c_43 => ?_)
          · have d_43 := Int32.not_le.mpr c_43
            refine lv_iconst (v := 0) hx hb dX0_loudOf_50 (by decide) ?_
            refine lv_istore (lv' := [(5, .int 0), (4, .int 0), (3, .int ((fg_ B) k)), (0, .ref (g i0)), (1, .int (nI k)), (2, .int h)]) hx hb dX0_loudOf_51 hl (by decide) rfl (fun ls hl => ?_)
            exact jn_53  0 0  (by unfold dr_; first | rw [if_pos (by assumption)] | rw [if_neg (by assumption)]) (by simp [b1, *])   ls (lv_sub hl [0, 1, 2, 3, 4, 5] rfl)
          · have d_43 := Int32.not_lt.mp c_43
            refine lv_iconst (v := 1) hx hb dX0_loudOf_46 (by decide) ?_
            refine lv_goto (tgt := 51) hx hb dX0_loudOf_47 (by decide) ?_
            refine lv_istore (lv' := [(5, .int 1), (4, .int 0), (3, .int ((fg_ B) k)), (0, .ref (g i0)), (1, .int (nI k)), (2, .int h)]) hx hb dX0_loudOf_51 hl (by decide) rfl (fun ls hl => ?_)
            exact jn_53  0 1  (by unfold dr_; first | rw [if_pos (by assumption)] | rw [if_neg (by assumption)]) (by simp [b1, *])   ls (lv_sub hl [0, 1, 2, 3, 4, 5] rfl)
  · skip
    refine lv_iload_n hx hb dX0_loudOf_13 rfl (lv_at hl 0 rfl) ?_
    refine lv_iconst (v := 3) hx hb dX0_loudOf_14 (by decide) ?_
    refine lv_iadd hx hb dX0_loudOf_15 ?_
    refine lv_goto (tgt := 20) hx hb dX0_loudOf_16 (by decide) ?_
    refine lv_istore (lv' := [(4, .int (((fg_ B) k) + 3)), (3, .int ((fg_ B) k)), (0, .ref (g i0)), (1, .int (nI k)), (2, .int h)]) hx hb dX0_loudOf_20 hl (by decide) rfl (fun ls hl => ?_)
    refine lv_iload_n hx hb dX0_loudOf_22 rfl (lv_at hl 4 rfl) ?_
    refine lv_bipush (v := 9) hx hb dX0_loudOf_23 (by decide) ?_
    refine lv_icmp_lt (tgt := 34) hx hb dX0_loudOf_25 (by decide) (fun c_25 => ?_) (fun c_25 => ?_)
    · have d_25 := Int32.not_le.mpr c_25
      refine lv_iload_n hx hb dX0_loudOf_34 rfl (lv_at hl 4 rfl) ?_
      refine lv_bipush (v := 18) hx hb dX0_loudOf_35 (by decide) ?_
      refine lv_icmp_lt (tgt := 50) hx hb dX0_loudOf_37 (by decide) (fun c_37 => ?_) (fun c_37 => ?_)
      · have d_37 := Int32.not_le.mpr c_37
        refine lv_iconst (v := 0) hx hb dX0_loudOf_50 (by decide) ?_
        refine lv_istore (lv' := [(5, .int 0), (4, .int (((fg_ B) k) + 3)), (3, .int ((fg_ B) k)), (0, .ref (g i0)), (1, .int (nI k)), (2, .int h)]) hx hb dX0_loudOf_51 hl (by decide) rfl (fun ls hl => ?_)
        exact jn_53  (((fg_ B) k) + 3) 0  (by unfold dr_; first | rw [if_pos (by assumption)] | rw [if_neg (by assumption)]) (by simp [b1, *])   ls (lv_sub hl [0, 1, 2, 3, 4, 5] rfl)
      · have d_37 := Int32.not_lt.mp c_37
        refine lv_iload_n hx hb dX0_loudOf_40 rfl (lv_at hl 4 rfl) ?_
        refine lv_bipush (v := 20) hx hb dX0_loudOf_41 (by decide) ?_
        refine lv_icmp_gt (tgt := 50) hx hb dX0_loudOf_43 (by decide) (fun c_43 => ?_) (fun c_43 => ?_)
        · have d_43 := Int32.not_le.mpr c_43
          refine lv_iconst (v := 0) hx hb dX0_loudOf_50 (by decide) ?_
          refine lv_istore (lv' := [(5, .int 0), (4, .int (((fg_ B) k) + 3)), (3, .int ((fg_ B) k)), (0, .ref (g i0)), (1, .int (nI k)), (2, .int h)]) hx hb dX0_loudOf_51 hl (by decide) rfl (fun ls hl => ?_)
          exact jn_53  (((fg_ B) k) + 3) 0  (by unfold dr_; first | rw [if_pos (by assumption)] | rw [if_neg (by assumption)]) (by simp [b1, *])   ls (lv_sub hl [0, 1, 2, 3, 4, 5] rfl)
        · have d_43 := Int32.not_lt.mp c_43
          refine lv_iconst (v := 1) hx hb dX0_loudOf_46 (by decide) ?_
          refine lv_goto (tgt := 51) hx hb dX0_loudOf_47 (by decide) ?_
          refine lv_istore (lv' := [(5, .int 1), (4, .int (((fg_ B) k) + 3)), (3, .int ((fg_ B) k)), (0, .ref (g i0)), (1, .int (nI k)), (2, .int h)]) hx hb dX0_loudOf_51 hl (by decide) rfl (fun ls hl => ?_)
          exact jn_53  (((fg_ B) k) + 3) 1  (by unfold dr_; first | rw [if_pos (by assumption)] | rw [if_neg (by assumption)]) (by simp [b1, *])   ls (lv_sub hl [0, 1, 2, 3, 4, 5] rfl)
    · have d_25 := Int32.not_lt.mp c_25
      refine lv_iload_n hx hb dX0_loudOf_28 rfl (lv_at hl 4 rfl) ?_
      refine lv_bipush (v := 11) hx hb dX0_loudOf_29 (by decide) ?_
      refine lv_icmp_le (tgt := 46) hx hb dX0_loudOf_31 (by decide) (fun c_31 => ?_) (fun c_31 => ?_)
      · have d_31 := Int32.not_lt.mpr c_31
        refine lv_iconst (v := 1) hx hb dX0_loudOf_46 (by decide) ?_
        refine lv_goto (tgt := 51) hx hb dX0_loudOf_47 (by decide) ?_
        refine lv_istore (lv' := [(5, .int 1), (4, .int (((fg_ B) k) + 3)), (3, .int ((fg_ B) k)), (0, .ref (g i0)), (1, .int (nI k)), (2, .int h)]) hx hb dX0_loudOf_51 hl (by decide) rfl (fun ls hl => ?_)
        exact jn_53  (((fg_ B) k) + 3) 1  (by unfold dr_; first | rw [if_pos (by assumption)] | rw [if_neg (by assumption)]) (by simp [b1, *])   ls (lv_sub hl [0, 1, 2, 3, 4, 5] rfl)
      · have d_31 := Int32.not_le.mp c_31
        refine lv_iload_n hx hb dX0_loudOf_34 rfl (lv_at hl 4 rfl) ?_
        refine lv_bipush (v := 18) hx hb dX0_loudOf_35 (by decide) ?_
        refine lv_icmp_lt (tgt := 50) hx hb dX0_loudOf_37 (by decide) (fun c_37 => ?_) (fun c_37 => ?_)
        · have d_37 := Int32.not_le.mpr c_37
          refine lv_iconst (v := 0) hx hb dX0_loudOf_50 (by decide) ?_
          refine lv_istore (lv' := [(5, .int 0), (4, .int (((fg_ B) k) + 3)), (3, .int ((fg_ B) k)), (0, .ref (g i0)), (1, .int (nI k)), (2, .int h)]) hx hb dX0_loudOf_51 hl (by decide) rfl (fun ls hl => ?_)
          exact jn_53  (((fg_ B) k) + 3) 0  (by unfold dr_; first | rw [if_pos (by assumption)] | rw [if_neg (by assumption)]) (by simp [b1, *])   ls (lv_sub hl [0, 1, 2, 3, 4, 5] rfl)
        · have d_37 := Int32.not_lt.mp c_37
          refine lv_iload_n hx hb dX0_loudOf_40 rfl (lv_at hl 4 rfl) ?_
          refine lv_bipush (v := 20) hx hb dX0_loudOf_41 (by decide) ?_
          refine lv_icmp_gt (tgt := 50) hx hb dX0_loudOf_43 (by decide) (fun c_43 => ?_) (fun c_43 => ?_)
          · have d_43 := Int32.not_le.mpr c_43
            refine lv_iconst (v := 0) hx hb dX0_loudOf_50 (by decide) ?_
            refine lv_istore (lv' := [(5, .int 0), (4, .int (((fg_ B) k) + 3)), (3, .int ((fg_ B) k)), (0, .ref (g i0)), (1, .int (nI k)), (2, .int h)]) hx hb dX0_loudOf_51 hl (by decide) rfl (fun ls hl => ?_)
            exact jn_53  (((fg_ B) k) + 3) 0  (by unfold dr_; first | rw [if_pos (by assumption)] | rw [if_neg (by assumption)]) (by simp [b1, *])   ls (lv_sub hl [0, 1, 2, 3, 4, 5] rfl)
          · have d_43 := Int32.not_lt.mp c_43
            refine lv_iconst (v := 1) hx hb dX0_loudOf_46 (by decide) ?_
            refine lv_goto (tgt := 51) hx hb dX0_loudOf_47 (by decide) ?_
            refine lv_istore (lv' := [(5, .int 1), (4, .int (((fg_ B) k) + 3)), (3, .int ((fg_ B) k)), (0, .ref (g i0)), (1, .int (nI k)), (2, .int h)]) hx hb dX0_loudOf_51 hl (by decide) rfl (fun ls hl => ?_)
            exact jn_53  (((fg_ B) k) + 3) 1  (by unfold dr_; first | rw [if_pos (by assumption)] | rw [if_neg (by assumption)]) (by simp [b1, *])   ls (lv_sub hl [0, 1, 2, 3, 4, 5] rfl)

theorem okX0_costOf : jok yX0_costOf wsX0_costOf cX0_costOf 2 (some .int) 1 := ⟨⟨_, rfl⟩, by decide +kernel, by decide +kernel⟩
set_option maxHeartbeats 1000000 in
set_option maxRecDepth 100000 in
theorem qX0_costOf (l : Launch) (D : va_G) (cI cB : ClassId) (g : Nat → Nat) (i0 : Nat) (B : BayT) (k : Nat) (hn7 : sn_ B ≤ 7) (hk : k < 7) : jSi D cI cB l yX0_costOf wsX0_costOf 0 [.ref (g i0), .int (nI k)] (bW cI g i0 B) (fun r => r = co_ (kd_ B k) (fg_ B k)) := by
  refine jSi.of (cc := cX0_costOf) (maxL := 2) (ret := (some .int)) okX0_costOf (Nat.le_of_ble_eq_true rfl) ?_
  intro p e s m below meth c ls hx hb hr hts hown hlk hml hP hK hl
  replace hown : s.vm.findClass RX0 = some m.cls := hown
  replace hl : lv_has ls 2 [(0, .ref (g i0)), (1, .int (nI k))] := hl
  have hinX0 : ∀ w ∈ wsX00, w ∈ wsX0_costOf := by decide +kernel
  refine lv_aload_n hx hb dX0_costOf_0 rfl (lv_at hl 0 rfl) ?_
  refine va_get (ci := 0) (C := RX0) (T := TX0) (N := 11) hx hb hts hinX0 hown hK.1 hP 0 rfl rfl 0 (by decide) (hts _ (List.mem_of_getElem? (i := 1) rfl)) (fun _ h9 => h9) rfl dX0_costOf_1 ?_
  refine lv_iload_n hx hb dX0_costOf_4 rfl (lv_at hl 1 rfl) ?_
  refine jald hx hb hK.1 hP 1 0 k rfl rfl rfl (by omega) (Nat.le_of_ble_eq_true rfl) dX0_costOf_5 ?_
  by_cases c_6_1 : (kd_ B) k = 1
  · refine lv_tableIn (off := 30) (tgt := 36) hx hb dX0_costOf_6 (by rw [c_6_1]; decide) (by rw [c_6_1]; decide) (by rw [c_6_1]; rfl) (by decide) ?_
    refine lv_aload_n hx hb dX0_costOf_36 rfl (lv_at hl 0 rfl) ?_
    refine va_get (ci := 0) (C := RX0) (T := TX0) (N := 11) hx hb hts hinX0 hown hK.1 hP 0 rfl rfl 1 (by decide) (hts _ (List.mem_of_getElem? (i := 2) rfl)) (fun _ h9 => h9) rfl dX0_costOf_37 ?_
    refine lv_iload_n hx hb dX0_costOf_40 rfl (lv_at hl 1 rfl) ?_
    refine jald hx hb hK.1 hP 2 0 k rfl rfl rfl (by omega) (Nat.le_of_ble_eq_true rfl) dX0_costOf_41 ?_
    refine lv_bipush (v := 7) hx hb dX0_costOf_42 (by decide) ?_
    refine lv_icmp_lt (tgt := 51) hx hb dX0_costOf_44 (by decide) (fun c_44 => ?_) (fun c_44 => ?_)
    · have d_44 := Int32.not_le.mpr c_44
      refine lv_iconst (v := 0) hx hb dX0_costOf_51 (by decide) ?_
      refine rSi hx hb hr hlk ?_ dX0_costOf_52
      show 0 = _
      simp_all [co_]
    · have d_44 := Int32.not_lt.mp c_44
      refine lv_iconst (v := 1) hx hb dX0_costOf_47 (by decide) ?_
      refine lv_goto (tgt := 52) hx hb dX0_costOf_48 (by decide) ?_
      refine rSi hx hb hr hlk ?_ dX0_costOf_52
      show 1 = _
      simp_all [co_]
  by_cases c_6_2 : (kd_ B) k = 2
  · refine lv_tableIn (off := 49) (tgt := 55) hx hb dX0_costOf_6 (by rw [c_6_2]; decide) (by rw [c_6_2]; decide) (by rw [c_6_2]; rfl) (by decide) ?_
    refine lv_iconst (v := 0) hx hb dX0_costOf_55 (by decide) ?_
    refine rSi hx hb hr hlk ?_ dX0_costOf_56
    show 0 = _
    simp_all [co_]
  by_cases c_6_3 : (kd_ B) k = 3
  · refine lv_tableIn (off := 30) (tgt := 36) hx hb dX0_costOf_6 (by rw [c_6_3]; decide) (by rw [c_6_3]; decide) (by rw [c_6_3]; rfl) (by decide) ?_
    refine lv_aload_n hx hb dX0_costOf_36 rfl (lv_at hl 0 rfl) ?_
    refine va_get (ci := 0) (C := RX0) (T := TX0) (N := 11) hx hb hts hinX0 hown hK.1 hP 0 rfl rfl 1 (by decide) (hts _ (List.mem_of_getElem? (i := 2) rfl)) (fun _ h9 => h9) rfl dX0_costOf_37 ?_
    refine lv_iload_n hx hb dX0_costOf_40 rfl (lv_at hl 1 rfl) ?_
    refine jald hx hb hK.1 hP 2 0 k rfl rfl rfl (by omega) (Nat.le_of_ble_eq_true rfl) dX0_costOf_41 ?_
    refine lv_bipush (v := 7) hx hb dX0_costOf_42 (by decide) ?_
    refine lv_icmp_lt (tgt := 51) hx hb dX0_costOf_44 (by decide) (fun c_44 => ?_) (fun c_44 => ?_)
    · have d_44 := Int32.not_le.mpr c_44
      refine lv_iconst (v := 0) hx hb dX0_costOf_51 (by decide) ?_
      refine rSi hx hb hr hlk ?_ dX0_costOf_52
      show 0 = _
      simp_all [co_]
    · have d_44 := Int32.not_lt.mp c_44
      refine lv_iconst (v := 1) hx hb dX0_costOf_47 (by decide) ?_
      refine lv_goto (tgt := 52) hx hb dX0_costOf_48 (by decide) ?_
      refine rSi hx hb hr hlk ?_ dX0_costOf_52
      show 1 = _
      simp_all [co_]
  by_cases c_6_4 : (kd_ B) k = 4
  · refine lv_tableIn (off := 47) (tgt := 53) hx hb dX0_costOf_6 (by rw [c_6_4]; decide) (by rw [c_6_4]; decide) (by rw [c_6_4]; rfl) (by decide) ?_
    refine lv_iconst (v := 5) hx hb dX0_costOf_53 (by decide) ?_
    refine rSi hx hb hr hlk ?_ dX0_costOf_54
    show 5 = _
    simp_all [co_]
  refine lv_tableOut (tgt := 55) hx hb dX0_costOf_6 (by have t0 := lv_neT c_6_1 (a := 1) (by decide); have t1 := lv_neT c_6_2 (a := 2) (by decide); have t2 := lv_neT c_6_3 (a := 3) (by decide); have t3 := lv_neT c_6_4 (a := 4) (by decide); omega) (by decide) ?_
  refine lv_iconst (v := 0) hx hb dX0_costOf_55 (by decide) ?_
  refine rSi hx hb hr hlk ?_ dX0_costOf_56
  show 0 = _
  simp_all [co_]

theorem okX0_noiseOf : jok yX0_noiseOf wsX0_noiseOf cX0_noiseOf 4 (some .int) 2 := ⟨⟨_, rfl⟩, by decide +kernel, by decide +kernel⟩
set_option maxHeartbeats 1000000 in
set_option maxRecDepth 100000 in
theorem qX0_noiseOf (l : Launch) (D : va_G) (cI cB : ClassId) (g : Nat → Nat) (i0 : Nat) (B : BayT) (k : Nat) (h : Int32) (hn7 : sn_ B ≤ 7) (hk : k < 7) : jSi D cI cB l yX0_noiseOf wsX0_noiseOf 1 [.ref (g i0), .int (nI k), .int h] (bW cI g i0 B) (fun r => r = no_ B k h) := by
  refine jSi.of (cc := cX0_noiseOf) (maxL := 4) (ret := (some .int)) okX0_noiseOf (Nat.le_of_ble_eq_true rfl) ?_
  intro p e s m below meth c ls hx hb hr hts hown hlk hml hP hK hl
  replace hown : s.vm.findClass RX0 = some m.cls := hown
  replace hl : lv_has ls 4 [(0, .ref (g i0)), (1, .int (nI k)), (2, .int h)] := hl
  have hinX0 : ∀ w ∈ wsX00, w ∈ wsX0_noiseOf := by decide +kernel
  refine lv_aload_n hx hb dX0_noiseOf_0 rfl (lv_at hl 0 rfl) ?_
  refine lv_iload_n hx hb dX0_noiseOf_1 rfl (lv_at hl 1 rfl) ?_
  refine kSiV hx hb hml hown hts hK hP gX0_noiseOf_X0_isQuiet okX0_isQuiet (qX0_isQuiet l D cI cB g i0 B k (by show sn_ B ≤ 7; omega) (by omega)) [0, 1, 2, 3, 4, 5] rfl rfl rfl rfl (by decide) hl.1 rfl rfl (Nat.le_of_ble_eq_true rfl) dX0_noiseOf_2 (by decide) (fun r_1 hr_2 => ?_)
  replace hr_2 : r_1 = b1 (qb_ (qt_ B) k = 1) := hr_2
  subst r_1
  refine lv_if_ne (tgt := 30) hx hb dX0_noiseOf_5 (by decide) (fun c_5 => ?_) (fun c_5 => ?_)
  · replace c_5 := b1_n c_5
    refine lv_iconst (v := 1) hx hb dX0_noiseOf_30 (by decide) ?_
    refine lv_goto (tgt := 35) hx hb dX0_noiseOf_31 (by decide) ?_
    refine lv_istore_n (lv' := [(3, .int 1), (0, .ref (g i0)), (1, .int (nI k)), (2, .int h)]) hx hb dX0_noiseOf_35 rfl hl (by decide) rfl (fun ls hl => ?_)
    refine lv_iload_n hx hb dX0_noiseOf_36 rfl (lv_at hl 0 rfl) ?_
    refine lv_if_eq (tgt := 44) hx hb dX0_noiseOf_37 (by decide) (fun q => absurd q (by decide)) (fun _ => ?_)
    refine lv_iconst (v := 0) hx hb dX0_noiseOf_40 (by decide) ?_
    refine lv_goto (tgt := 50) hx hb dX0_noiseOf_41 (by decide) ?_
    refine rSi hx hb hr hlk ?_ dX0_noiseOf_50
    show 0 = _
    simp [no_, *]
  · replace c_5 := b1_z c_5
    refine lv_aload_n hx hb dX0_noiseOf_8 rfl (lv_at hl 0 rfl) ?_
    refine lv_iload_n hx hb dX0_noiseOf_9 rfl (lv_at hl 1 rfl) ?_
    refine kSiV hx hb hml hown hts hK hP gX0_noiseOf_X0_hasIsle okX0_hasIsle (qX0_hasIsle l D cI cB g i0 B k (by show sn_ B ≤ 7; omega) (by omega)) [0, 1, 2, 3, 4, 5] rfl rfl rfl rfl (by decide) hl.1 rfl rfl (Nat.le_of_ble_eq_true rfl) dX0_noiseOf_10 (by decide) (fun r_3 hr_4 => ?_)
    replace hr_4 : r_3 = b1 (pl_ B k = il_ B) := hr_4
    subst r_3
    refine lv_if_ne (tgt := 30) hx hb dX0_noiseOf_13 (by decide) (fun c_13 => ?_) (fun c_13 => ?_)
    · replace c_13 := b1_n c_13
      refine lv_iconst (v := 1) hx hb dX0_noiseOf_30 (by decide) ?_
      refine lv_goto (tgt := 35) hx hb dX0_noiseOf_31 (by decide) ?_
      refine lv_istore_n (lv' := [(3, .int 1), (0, .ref (g i0)), (1, .int (nI k)), (2, .int h)]) hx hb dX0_noiseOf_35 rfl hl (by decide) rfl (fun ls hl => ?_)
      refine lv_iload_n hx hb dX0_noiseOf_36 rfl (lv_at hl 0 rfl) ?_
      refine lv_if_eq (tgt := 44) hx hb dX0_noiseOf_37 (by decide) (fun q => absurd q (by decide)) (fun _ => ?_)
      refine lv_iconst (v := 0) hx hb dX0_noiseOf_40 (by decide) ?_
      refine lv_goto (tgt := 50) hx hb dX0_noiseOf_41 (by decide) ?_
      refine rSi hx hb hr hlk ?_ dX0_noiseOf_50
      show 0 = _
      simp [no_, *]
    · replace c_13 := b1_z c_13
      refine lv_aload_n hx hb dX0_noiseOf_16 rfl (lv_at hl 0 rfl) ?_
      refine va_get (ci := 0) (C := RX0) (T := TX0) (N := 11) hx hb hts hinX0 hown hK.1 hP 0 rfl rfl 3 (by decide) (hts _ (List.mem_of_getElem? (i := 1) rfl)) (fun _ h9 => h9) rfl dX0_noiseOf_17 ?_
      refine lv_iload_n hx hb dX0_noiseOf_20 rfl (lv_at hl 1 rfl) ?_
      refine jald hx hb hK.1 hP 4 0 k rfl rfl rfl (by omega) (Nat.le_of_ble_eq_true rfl) dX0_noiseOf_21 ?_
      refine lv_aload_n hx hb dX0_noiseOf_22 rfl (lv_at hl 0 rfl) ?_
      refine lv_iload_n hx hb dX0_noiseOf_23 rfl (lv_at hl 1 rfl) ?_
      refine kSiV hx hb hml hown hts hK hP gX0_noiseOf_X0_costOf okX0_costOf (qX0_costOf l D cI cB g i0 B k (by show sn_ B ≤ 7; omega) (by omega)) [0, 1, 2, 3, 4, 5] rfl rfl rfl rfl (by decide) hl.1 rfl rfl (Nat.le_of_ble_eq_true rfl) dX0_noiseOf_24 (by decide) (fun r_5 hr_6 => ?_)
      replace hr_6 : r_5 = co_ (kd_ B k) (fg_ B k) := hr_6
      subst r_5
      refine lv_icmp_ge (tgt := 34) hx hb dX0_noiseOf_27 (by decide) (fun c_27 => ?_) (fun c_27 => ?_)
      · have d_27 := Int32.not_lt.mpr c_27
        refine lv_iconst (v := 0) hx hb dX0_noiseOf_34 (by decide) ?_
        refine lv_istore_n (lv' := [(3, .int 0), (0, .ref (g i0)), (1, .int (nI k)), (2, .int h)]) hx hb dX0_noiseOf_35 rfl hl (by decide) rfl (fun ls hl => ?_)
        refine lv_iload_n hx hb dX0_noiseOf_36 rfl (lv_at hl 0 rfl) ?_
        refine lv_if_eq (tgt := 44) hx hb dX0_noiseOf_37 (by decide) (fun _ => ?_) (fun q => absurd q (by decide))
        refine lv_aload_n hx hb dX0_noiseOf_44 rfl (lv_at hl 1 rfl) ?_
        refine lv_iload_n hx hb dX0_noiseOf_45 rfl (lv_at hl 2 rfl) ?_
        refine lv_iload_n hx hb dX0_noiseOf_46 rfl (lv_at hl 3 rfl) ?_
        refine kSiV hx hb hml hown hts hK hP gX0_noiseOf_X0_loudOf okX0_loudOf (qX0_loudOf l D cI cB g i0 B k h (by show sn_ B ≤ 7; omega) (by omega)) [0, 1, 2, 3, 4, 5] rfl rfl rfl rfl (by decide) hl.1 rfl rfl (Nat.le_of_ble_eq_true rfl) dX0_noiseOf_47 (by decide) (fun r_7 hr_8 => ?_)
        replace hr_8 : r_7 = ld_ (kd_ B k) (fg_ B k) h := hr_8
        subst r_7
        refine rSi hx hb hr hlk ?_ dX0_noiseOf_50
        show (ld_ (kd_ B k) (fg_ B k) h) = _
        simp [no_, *]
      · have d_27 := Int32.not_le.mp c_27
        refine lv_iconst (v := 1) hx hb dX0_noiseOf_30 (by decide) ?_
        refine lv_goto (tgt := 35) hx hb dX0_noiseOf_31 (by decide) ?_
        refine lv_istore_n (lv' := [(3, .int 1), (0, .ref (g i0)), (1, .int (nI k)), (2, .int h)]) hx hb dX0_noiseOf_35 rfl hl (by decide) rfl (fun ls hl => ?_)
        refine lv_iload_n hx hb dX0_noiseOf_36 rfl (lv_at hl 0 rfl) ?_
        refine lv_if_eq (tgt := 44) hx hb dX0_noiseOf_37 (by decide) (fun q => absurd q (by decide)) (fun _ => ?_)
        refine lv_iconst (v := 0) hx hb dX0_noiseOf_40 (by decide) ?_
        refine lv_goto (tgt := 50) hx hb dX0_noiseOf_41 (by decide) ?_
        refine rSi hx hb hr hlk ?_ dX0_noiseOf_50
        show 0 = _
        simp [no_, *]

theorem okX0_noiseTogether : jok yX0_noiseTogether wsX0_noiseTogether cX0_noiseTogether 4 (some .int) 1 := ⟨⟨_, rfl⟩, by decide +kernel, by decide +kernel⟩
set_option maxHeartbeats 1000000 in
set_option maxRecDepth 100000 in
theorem qX0_noiseTogether (l : Launch) (D : va_G) (cI cB : ClassId) (g : Nat → Nat) (i0 : Nat) (B : BayT) (h : Int32) (hn7 : sn_ B ≤ 7) : jSi D cI cB l yX0_noiseTogether wsX0_noiseTogether 2 [.ref (g i0), .int h] (bW cI g i0 B) (fun r => r = an_ B h) := by
  refine jSi.of (cc := cX0_noiseTogether) (maxL := 4) (ret := (some .int)) okX0_noiseTogether (Nat.le_of_ble_eq_true rfl) ?_
  intro p e s m below meth c ls hx hb hr hts hown hlk hml hP hK hl
  replace hown : s.vm.findClass RX0 = some m.cls := hown
  replace hl : lv_has ls 4 [(0, .ref (g i0)), (1, .int h)] := hl
  have hinX0 : ∀ w ∈ wsX00, w ∈ wsX0_noiseTogether := by decide +kernel
  refine lv_iconst (v := 0) hx hb dX0_noiseTogether_0 (by decide) ?_
  refine lv_istore_n (lv' := [(2, .int 0), (0, .ref (g i0)), (1, .int h)]) hx hb dX0_noiseTogether_1 rfl hl (by decide) rfl (fun ls hl => ?_)
  refine lv_iconst (v := 0) hx hb dX0_noiseTogether_2 (by decide) ?_
  refine lv_istore_n (lv' := [(3, .int 0), (2, .int 0), (0, .ref (g i0)), (1, .int h)]) hx hb dX0_noiseTogether_3 rfl hl (by decide) rfl (fun ls hl => ?_)
  have lp_4 : ∀ (fu_4 : Nat) (i : Nat) (x2_4 : Int32) (x3_4 : Int32) , (x2_4 = su_ (fun j => no_ B j h) i) → (x3_4 = nI i) → (i ≤ sn_ B) → sn_ B - i < fu_4 → ∀ ls : Array Slot, lv_has ls 4 [(3, .int x3_4), (2, .int x2_4), (0, .ref (g i0)), (1, .int h)] → W p l e (jR 2) s m ([.ref (g i0), .int h] : List Value).toArray below meth c s.heap [] 0 0 (MQ below (vp_Si (fun r => r = an_ B h)) ([.ref (g i0), .int h] : List Value).toArray s 0 0 (fun _ => False)) (F0 m 4 ls []) := by
    intro fu_4
    induction fu_4 with
    | zero => intro i x2_4 x3_4 hx2_4 hx3_4 hi hfu; exact absurd hfu (Nat.not_lt_zero _)
    | succ fu_4 ih_4 =>
      intro i x2_4 x3_4 hx2_4 hx3_4 hi hfu_4 ls hl
      subst x2_4
      subst x3_4
      replace hl : lv_has ls 4 [(3, .int (nI i)), (2, .int (su_ (fun j => no_ B j h) i)), (0, .ref (g i0)), (1, .int h)] := hl
      refine lv_iload_n hx hb dX0_noiseTogether_4 rfl (lv_at hl 0 rfl) ?_
      refine lv_aload_n hx hb dX0_noiseTogether_5 rfl (lv_at hl 2 rfl) ?_
      refine va_get (ci := 0) (C := RX0) (T := TX0) (N := 11) hx hb hts hinX0 hown hK.1 hP 0 rfl rfl 6 (by decide) (hts _ (List.mem_of_getElem? (i := 1) rfl)) (fun _ h9 => h9) rfl dX0_noiseTogether_6 ?_
      refine lv_icmp_ge (tgt := 27) hx hb dX0_noiseTogether_9 (by decide) (fun c_9 => ?_) (fun c_9 => ?_)
      · replace c_9 : nI (sn_ B) ≤ nI i := c_9
        rw [jle (by omega) (by omega)] at c_9
        refine lv_iload_n hx hb dX0_noiseTogether_27 rfl (lv_at hl 1 rfl) ?_
        refine rSi hx hb hr hlk ?_ dX0_noiseTogether_28
        show (su_ (fun j => no_ B j h) i) = _
        have e9 : i = sn_ B := by omega
        rw [e9]; rfl
      · replace c_9 : ¬ nI (sn_ B) ≤ nI i := c_9
        rw [jle (by omega) (by omega)] at c_9
        refine lv_iload_n hx hb dX0_noiseTogether_12 rfl (lv_at hl 1 rfl) ?_
        refine lv_aload_n hx hb dX0_noiseTogether_13 rfl (lv_at hl 2 rfl) ?_
        refine lv_iload_n hx hb dX0_noiseTogether_14 rfl (lv_at hl 0 rfl) ?_
        refine lv_iload_n hx hb dX0_noiseTogether_15 rfl (lv_at hl 3 rfl) ?_
        refine kSiV hx hb hml hown hts hK hP gX0_noiseTogether_X0_noiseOf okX0_noiseOf (qX0_noiseOf l D cI cB g i0 B i h (by show sn_ B ≤ 7; omega) (by omega)) [0, 1, 2, 3, 4, 5] rfl rfl rfl rfl (by decide) hl.1 rfl rfl (Nat.le_of_ble_eq_true rfl) dX0_noiseTogether_16 (by decide) (fun r_1 hr_2 => ?_)
        replace hr_2 : r_1 = no_ B i h := hr_2
        subst r_1
        refine lv_iadd hx hb dX0_noiseTogether_19 ?_
        refine lv_istore_n (lv' := [(2, .int ((su_ (fun j => no_ B j h) i) + (no_ B i h))), (3, .int (nI i)), (0, .ref (g i0)), (1, .int h)]) hx hb dX0_noiseTogether_20 rfl hl (by decide) rfl (fun ls hl => ?_)
        refine lv_iinc (v := (nI i) + 1) (lv' := [(3, .int ((nI i) + 1)), (2, .int ((su_ (fun j => no_ B j h) i) + (no_ B i h))), (0, .ref (g i0)), (1, .int h)]) hx hb dX0_noiseTogether_21 hl (k := 1) rfl (by first | rfl | decide) (by decide) rfl (fun ls hl => ?_)
        refine lv_goto (tgt := 4) hx hb dX0_noiseTogether_24 (by decide) ?_
        exact ih_4 (i + 1) ((su_ (fun j => no_ B j h) i) + (no_ B i h)) ((nI i) + 1)  (by first | rfl | exact nI_1 _) (by first | rfl | exact nI_1 _) (by omega) (by omega) ls (lv_sub hl [0, 1, 2, 3] rfl)
  exact lp_4 ((sn_ B) + 1) 0 0 0  (by first | rfl | exact nI_0.symm) (by first | rfl | exact nI_0.symm) (by omega) (by omega) ls (lv_sub hl [0, 1, 2, 3] rfl)

theorem okX0_loudestAt : jok yX0_loudestAt wsX0_loudestAt cX0_loudestAt 7 (some .int) 1 := ⟨⟨_, rfl⟩, by decide +kernel, by decide +kernel⟩
set_option maxHeartbeats 1000000 in
set_option maxRecDepth 100000 in
theorem qX0_loudestAt (l : Launch) (D : va_G) (cI cB : ClassId) (g : Nat → Nat) (i0 : Nat) (B : BayT) (h : Int32) (hn7 : sn_ B ≤ 7) : jSi D cI cB l yX0_loudestAt wsX0_loudestAt 2 [.ref (g i0), .int h] (bW cI g i0 B) (fun r => r = oI_ (lt_ B h)) := by
  refine jSi.of (cc := cX0_loudestAt) (maxL := 7) (ret := (some .int)) okX0_loudestAt (Nat.le_of_ble_eq_true rfl) ?_
  intro p e s m below meth c ls hx hb hr hts hown hlk hml hP hK hl
  replace hown : s.vm.findClass RX0 = some m.cls := hown
  replace hl : lv_has ls 7 [(0, .ref (g i0)), (1, .int h)] := hl
  have hinX0 : ∀ w ∈ wsX00, w ∈ wsX0_loudestAt := by decide +kernel
  refine lv_bipush (v := (-9)) hx hb dX0_loudestAt_0 (by decide) ?_
  refine lv_istore_n (lv' := [(2, .int (-9)), (0, .ref (g i0)), (1, .int h)]) hx hb dX0_loudestAt_2 rfl hl (by decide) rfl (fun ls hl => ?_)
  refine lv_iconst (v := 0) hx hb dX0_loudestAt_3 (by decide) ?_
  refine lv_istore_n (lv' := [(3, .int 0), (2, .int (-9)), (0, .ref (g i0)), (1, .int h)]) hx hb dX0_loudestAt_4 rfl hl (by decide) rfl (fun ls hl => ?_)
  refine lv_iconst (v := 0) hx hb dX0_loudestAt_5 (by decide) ?_
  refine lv_istore (lv' := [(4, .int 0), (3, .int 0), (2, .int (-9)), (0, .ref (g i0)), (1, .int h)]) hx hb dX0_loudestAt_6 hl (by decide) rfl (fun ls hl => ?_)
  have lp_8 : ∀ (fu_8 : Nat) (i : Nat) (x2_8 : Int32) (x3_8 : Int32) (x4_8 : Int32) , (x2_8 = oI_ (lo_ B h i)) → (x3_8 = mo_ B h (lo_ B h i)) → (x4_8 = nI i) → (i ≤ sn_ B) → sn_ B - i < fu_8 → ∀ ls : Array Slot, lv_has ls 7 [(4, .int x4_8), (3, .int x3_8), (2, .int x2_8), (0, .ref (g i0)), (1, .int h)] → W p l e (jR 2) s m ([.ref (g i0), .int h] : List Value).toArray below meth c s.heap [] 0 0 (MQ below (vp_Si (fun r => r = oI_ (lt_ B h))) ([.ref (g i0), .int h] : List Value).toArray s 0 0 (fun _ => False)) (F0 m 8 ls []) := by
    intro fu_8
    induction fu_8 with
    | zero => intro i x2_8 x3_8 x4_8 hx2_8 hx3_8 hx4_8 hi hfu; exact absurd hfu (Nat.not_lt_zero _)
    | succ fu_8 ih_8 =>
      intro i x2_8 x3_8 x4_8 hx2_8 hx3_8 hx4_8 hi hfu_8 ls hl
      subst x2_8
      subst x3_8
      subst x4_8
      replace hl : lv_has ls 7 [(4, .int (nI i)), (3, .int (mo_ B h (lo_ B h i))), (2, .int (oI_ (lo_ B h i))), (0, .ref (g i0)), (1, .int h)] := hl
      rcases hL : lo_ B h i with _ | t
      · rw [hL] at hl
        replace hl : lv_has ls 7 [(4, .int (nI i)), (3, .int 0), (2, .int (-9)), (0, .ref (g i0)), (1, .int h)] := hl
        refine lv_iload hx hb dX0_loudestAt_8 (lv_at hl 0 rfl) ?_
        refine lv_aload_n hx hb dX0_loudestAt_10 rfl (lv_at hl 3 rfl) ?_
        refine va_get (ci := 0) (C := RX0) (T := TX0) (N := 11) hx hb hts hinX0 hown hK.1 hP 0 rfl rfl 6 (by decide) (hts _ (List.mem_of_getElem? (i := 1) rfl)) (fun _ h9 => h9) rfl dX0_loudestAt_11 ?_
        refine lv_icmp_ge (tgt := 82) hx hb dX0_loudestAt_14 (by decide) (fun c_14 => ?_) (fun c_14 => ?_)
        · replace c_14 : nI (sn_ B) ≤ nI i := c_14
          rw [jle (by omega) (by omega)] at c_14
          refine lv_iload_n hx hb dX0_loudestAt_82 rfl (lv_at hl 2 rfl) ?_
          refine rSi hx hb hr hlk ?_ dX0_loudestAt_83
          show (-9) = _
          have e9 : i = sn_ B := by omega
          rw [e9] at hL; unfold lt_; rw [hL]; rfl
        · replace c_14 : ¬ nI (sn_ B) ≤ nI i := c_14
          rw [jle (by omega) (by omega)] at c_14
          refine lv_aload_n hx hb dX0_loudestAt_17 rfl (lv_at hl 3 rfl) ?_
          refine lv_iload hx hb dX0_loudestAt_18 (lv_at hl 0 rfl) ?_
          refine lv_iload_n hx hb dX0_loudestAt_20 rfl (lv_at hl 4 rfl) ?_
          refine kSiV hx hb hml hown hts hK hP gX0_loudestAt_X0_noiseOf okX0_noiseOf (qX0_noiseOf l D cI cB g i0 B i h (by show sn_ B ≤ 7; omega) (by omega)) [0, 1, 2, 3, 4, 5] rfl rfl rfl rfl (by decide) hl.1 rfl rfl (Nat.le_of_ble_eq_true rfl) dX0_loudestAt_21 (by decide) (fun r_1 hr_2 => ?_)
          replace hr_2 : r_1 = no_ B i h := hr_2
          subst r_1
          refine lv_istore (lv' := [(5, .int (no_ B i h)), (4, .int (nI i)), (3, .int 0), (2, .int (-9)), (0, .ref (g i0)), (1, .int h)]) hx hb dX0_loudestAt_24 hl (by decide) rfl (fun ls hl => ?_)
          refine lv_iload_n hx hb dX0_loudestAt_26 rfl (lv_at hl 3 rfl) ?_
          refine lv_bipush (v := (-9)) hx hb dX0_loudestAt_27 (by decide) ?_
          refine lv_icmp_eq (tgt := 42) hx hb dX0_loudestAt_29 (by decide) (fun _ => ?_) (fun q => absurd q (by decide))
          refine lv_iconst (v := 0) hx hb dX0_loudestAt_42 (by decide) ?_
          refine lv_istore (lv' := [(6, .int 0), (5, .int (no_ B i h)), (4, .int (nI i)), (3, .int 0), (2, .int (-9)), (0, .ref (g i0)), (1, .int h)]) hx hb dX0_loudestAt_43 hl (by decide) rfl (fun ls hl => ?_)
          refine lv_iload hx hb dX0_loudestAt_45 (lv_at hl 1 rfl) ?_
          refine lv_iload_n hx hb dX0_loudestAt_47 rfl (lv_at hl 3 rfl) ?_
          refine lv_icmp_gt (tgt := 70) hx hb dX0_loudestAt_48 (by decide) (fun c_48 => ?_) (fun c_48 => ?_)
          · have d_48 := Int32.not_le.mpr c_48
            refine lv_iload hx hb dX0_loudestAt_70 (lv_at hl 2 rfl) ?_
            refine lv_istore_n (lv' := [(2, .int (nI i)), (6, .int 0), (5, .int (no_ B i h)), (4, .int (nI i)), (3, .int 0), (0, .ref (g i0)), (1, .int h)]) hx hb dX0_loudestAt_72 rfl hl (by decide) rfl (fun ls hl => ?_)
            refine lv_iload hx hb dX0_loudestAt_73 (lv_at hl 2 rfl) ?_
            refine lv_istore_n (lv' := [(3, .int (no_ B i h)), (2, .int (nI i)), (6, .int 0), (5, .int (no_ B i h)), (4, .int (nI i)), (0, .ref (g i0)), (1, .int h)]) hx hb dX0_loudestAt_75 rfl hl (by decide) rfl (fun ls hl => ?_)
            refine lv_iinc (v := (nI i) + 1) (lv' := [(4, .int ((nI i) + 1)), (3, .int (no_ B i h)), (2, .int (nI i)), (6, .int 0), (5, .int (no_ B i h)), (0, .ref (g i0)), (1, .int h)]) hx hb dX0_loudestAt_76 hl (k := 4) rfl (by first | rfl | decide) (by decide) rfl (fun ls hl => ?_)
            refine lv_goto (tgt := 8) hx hb dX0_loudestAt_79 (by decide) ?_
            exact ih_8 (i + 1) (nI i) (no_ B i h) ((nI i) + 1)  (by first | (simp [lo_, hL, oI_, *]; done) | (simp only [lo_, hL]; rw [if_pos (Or.inl c_48)]; rfl)) (by first | (simp [lo_, hL, mo_, *]; done) | (simp only [lo_, hL]; rw [if_pos (Or.inl c_48)]; rfl)) (by first | rfl | exact nI_1 _) (by omega) (by omega) ls (lv_sub hl [0, 1, 2, 5, 6] rfl)
          · have d_48 := Int32.not_lt.mp c_48
            refine lv_iload hx hb dX0_loudestAt_51 (lv_at hl 0 rfl) ?_
            refine lv_if_eq (tgt := 76) hx hb dX0_loudestAt_53 (by decide) (fun _ => ?_) (fun q => absurd q (by decide))
            refine lv_iinc (v := (nI i) + 1) (lv' := [(4, .int ((nI i) + 1)), (6, .int 0), (5, .int (no_ B i h)), (3, .int 0), (2, .int (-9)), (0, .ref (g i0)), (1, .int h)]) hx hb dX0_loudestAt_76 hl (k := 2) rfl (by first | rfl | decide) (by decide) rfl (fun ls hl => ?_)
            refine lv_goto (tgt := 8) hx hb dX0_loudestAt_79 (by decide) ?_
            exact ih_8 (i + 1) (-9) 0 ((nI i) + 1)  (by first | (simp [lo_, hL, oI_, *]; done) | (simp only [lo_, hL]; rw [if_pos (Or.inl c_48)]; rfl)) (by first | (simp [lo_, hL, mo_, *]; done) | (simp only [lo_, hL]; rw [if_pos (Or.inl c_48)]; rfl)) (by first | rfl | exact nI_1 _) (by omega) (by omega) ls (lv_sub hl [0, 3, 4, 5, 6] rfl)
      · rw [hL] at hl
        replace hl : lv_has ls 7 [(4, .int (nI i)), (3, .int (no_ B t h)), (2, .int (nI t)), (0, .ref (g i0)), (1, .int h)] := hl
        have ht := (lo_lt _ _ hL).1
        refine lv_iload hx hb dX0_loudestAt_8 (lv_at hl 0 rfl) ?_
        refine lv_aload_n hx hb dX0_loudestAt_10 rfl (lv_at hl 3 rfl) ?_
        refine va_get (ci := 0) (C := RX0) (T := TX0) (N := 11) hx hb hts hinX0 hown hK.1 hP 0 rfl rfl 6 (by decide) (hts _ (List.mem_of_getElem? (i := 1) rfl)) (fun _ h9 => h9) rfl dX0_loudestAt_11 ?_
        refine lv_icmp_ge (tgt := 82) hx hb dX0_loudestAt_14 (by decide) (fun c_14 => ?_) (fun c_14 => ?_)
        · replace c_14 : nI (sn_ B) ≤ nI i := c_14
          rw [jle (by omega) (by omega)] at c_14
          refine lv_iload_n hx hb dX0_loudestAt_82 rfl (lv_at hl 2 rfl) ?_
          refine rSi hx hb hr hlk ?_ dX0_loudestAt_83
          show (nI t) = _
          have e9 : i = sn_ B := by omega
          rw [e9] at hL; unfold lt_; rw [hL]; rfl
        · replace c_14 : ¬ nI (sn_ B) ≤ nI i := c_14
          rw [jle (by omega) (by omega)] at c_14
          refine lv_aload_n hx hb dX0_loudestAt_17 rfl (lv_at hl 3 rfl) ?_
          refine lv_iload hx hb dX0_loudestAt_18 (lv_at hl 0 rfl) ?_
          refine lv_iload_n hx hb dX0_loudestAt_20 rfl (lv_at hl 4 rfl) ?_
          refine kSiV hx hb hml hown hts hK hP gX0_loudestAt_X0_noiseOf okX0_noiseOf (qX0_noiseOf l D cI cB g i0 B i h (by show sn_ B ≤ 7; omega) (by omega)) [0, 1, 2, 3, 4, 5] rfl rfl rfl rfl (by decide) hl.1 rfl rfl (Nat.le_of_ble_eq_true rfl) dX0_loudestAt_21 (by decide) (fun r_3 hr_4 => ?_)
          replace hr_4 : r_3 = no_ B i h := hr_4
          subst r_3
          refine lv_istore (lv' := [(5, .int (no_ B i h)), (4, .int (nI i)), (3, .int (no_ B t h)), (2, .int (nI t)), (0, .ref (g i0)), (1, .int h)]) hx hb dX0_loudestAt_24 hl (by decide) rfl (fun ls hl => ?_)
          refine lv_iload_n hx hb dX0_loudestAt_26 rfl (lv_at hl 3 rfl) ?_
          refine lv_bipush (v := (-9)) hx hb dX0_loudestAt_27 (by decide) ?_
          refine lv_icmp_eq (tgt := 42) hx hb dX0_loudestAt_29 (by decide) (fun q => absurd q (nI_m9 (by omega))) (fun _ => ?_)
          refine lv_iload hx hb dX0_loudestAt_32 (lv_at hl 0 rfl) ?_
          refine lv_iload_n hx hb dX0_loudestAt_34 rfl (lv_at hl 2 rfl) ?_
          refine lv_icmp_ne (tgt := 42) hx hb dX0_loudestAt_35 (by decide) (fun c_35 => ?_) (fun c_35 => ?_)
          · skip
            refine lv_iconst (v := 0) hx hb dX0_loudestAt_42 (by decide) ?_
            refine lv_istore (lv' := [(6, .int 0), (5, .int (no_ B i h)), (4, .int (nI i)), (3, .int (no_ B t h)), (2, .int (nI t)), (0, .ref (g i0)), (1, .int h)]) hx hb dX0_loudestAt_43 hl (by decide) rfl (fun ls hl => ?_)
            refine lv_iload hx hb dX0_loudestAt_45 (lv_at hl 1 rfl) ?_
            refine lv_iload_n hx hb dX0_loudestAt_47 rfl (lv_at hl 3 rfl) ?_
            refine lv_icmp_gt (tgt := 70) hx hb dX0_loudestAt_48 (by decide) (fun c_48 => ?_) (fun c_48 => ?_)
            · have d_48 := Int32.not_le.mpr c_48
              refine lv_iload hx hb dX0_loudestAt_70 (lv_at hl 2 rfl) ?_
              refine lv_istore_n (lv' := [(2, .int (nI i)), (6, .int 0), (5, .int (no_ B i h)), (4, .int (nI i)), (3, .int (no_ B t h)), (0, .ref (g i0)), (1, .int h)]) hx hb dX0_loudestAt_72 rfl hl (by decide) rfl (fun ls hl => ?_)
              refine lv_iload hx hb dX0_loudestAt_73 (lv_at hl 2 rfl) ?_
              refine lv_istore_n (lv' := [(3, .int (no_ B i h)), (2, .int (nI i)), (6, .int 0), (5, .int (no_ B i h)), (4, .int (nI i)), (0, .ref (g i0)), (1, .int h)]) hx hb dX0_loudestAt_75 rfl hl (by decide) rfl (fun ls hl => ?_)
              refine lv_iinc (v := (nI i) + 1) (lv' := [(4, .int ((nI i) + 1)), (3, .int (no_ B i h)), (2, .int (nI i)), (6, .int 0), (5, .int (no_ B i h)), (0, .ref (g i0)), (1, .int h)]) hx hb dX0_loudestAt_76 hl (k := 4) rfl (by first | rfl | decide) (by decide) rfl (fun ls hl => ?_)
              refine lv_goto (tgt := 8) hx hb dX0_loudestAt_79 (by decide) ?_
              exact ih_8 (i + 1) (nI i) (no_ B i h) ((nI i) + 1)  (by first | (simp [lo_, hL, oI_, *]; done) | (simp only [lo_, hL]; rw [if_pos (Or.inl c_48)]; rfl)) (by first | (simp [lo_, hL, mo_, *]; done) | (simp only [lo_, hL]; rw [if_pos (Or.inl c_48)]; rfl)) (by first | rfl | exact nI_1 _) (by omega) (by omega) ls (lv_sub hl [0, 1, 2, 5, 6] rfl)
            · have d_48 := Int32.not_lt.mp c_48
              refine lv_iload hx hb dX0_loudestAt_51 (lv_at hl 0 rfl) ?_
              refine lv_if_eq (tgt := 76) hx hb dX0_loudestAt_53 (by decide) (fun _ => ?_) (fun q => absurd q (by decide))
              refine lv_iinc (v := (nI i) + 1) (lv' := [(4, .int ((nI i) + 1)), (6, .int 0), (5, .int (no_ B i h)), (3, .int (no_ B t h)), (2, .int (nI t)), (0, .ref (g i0)), (1, .int h)]) hx hb dX0_loudestAt_76 hl (k := 2) rfl (by first | rfl | decide) (by decide) rfl (fun ls hl => ?_)
              refine lv_goto (tgt := 8) hx hb dX0_loudestAt_79 (by decide) ?_
              exact ih_8 (i + 1) (nI t) (no_ B t h) ((nI i) + 1)  (by first | (simp [lo_, hL, oI_, *]; done) | (simp only [lo_, hL]; rw [if_pos (Or.inl c_48)]; rfl)) (by first | (simp [lo_, hL, mo_, *]; done) | (simp only [lo_, hL]; rw [if_pos (Or.inl c_48)]; rfl)) (by first | rfl | exact nI_1 _) (by omega) (by omega) ls (lv_sub hl [0, 3, 4, 5, 6] rfl)
          · skip
            refine lv_iconst (v := 1) hx hb dX0_loudestAt_38 (by decide) ?_
            refine lv_goto (tgt := 43) hx hb dX0_loudestAt_39 (by decide) ?_
            refine lv_istore (lv' := [(6, .int 1), (5, .int (no_ B i h)), (4, .int (nI i)), (3, .int (no_ B t h)), (2, .int (nI t)), (0, .ref (g i0)), (1, .int h)]) hx hb dX0_loudestAt_43 hl (by decide) rfl (fun ls hl => ?_)
            refine lv_iload hx hb dX0_loudestAt_45 (lv_at hl 1 rfl) ?_
            refine lv_iload_n hx hb dX0_loudestAt_47 rfl (lv_at hl 3 rfl) ?_
            refine lv_icmp_gt (tgt := 70) hx hb dX0_loudestAt_48 (by decide) (fun c_48 => ?_) (fun c_48 => ?_)
            · have d_48 := Int32.not_le.mpr c_48
              refine lv_iload hx hb dX0_loudestAt_70 (lv_at hl 2 rfl) ?_
              refine lv_istore_n (lv' := [(2, .int (nI i)), (6, .int 1), (5, .int (no_ B i h)), (4, .int (nI i)), (3, .int (no_ B t h)), (0, .ref (g i0)), (1, .int h)]) hx hb dX0_loudestAt_72 rfl hl (by decide) rfl (fun ls hl => ?_)
              refine lv_iload hx hb dX0_loudestAt_73 (lv_at hl 2 rfl) ?_
              refine lv_istore_n (lv' := [(3, .int (no_ B i h)), (2, .int (nI i)), (6, .int 1), (5, .int (no_ B i h)), (4, .int (nI i)), (0, .ref (g i0)), (1, .int h)]) hx hb dX0_loudestAt_75 rfl hl (by decide) rfl (fun ls hl => ?_)
              refine lv_iinc (v := (nI i) + 1) (lv' := [(4, .int ((nI i) + 1)), (3, .int (no_ B i h)), (2, .int (nI i)), (6, .int 1), (5, .int (no_ B i h)), (0, .ref (g i0)), (1, .int h)]) hx hb dX0_loudestAt_76 hl (k := 4) rfl (by first | rfl | decide) (by decide) rfl (fun ls hl => ?_)
              refine lv_goto (tgt := 8) hx hb dX0_loudestAt_79 (by decide) ?_
              exact ih_8 (i + 1) (nI i) (no_ B i h) ((nI i) + 1)  (by first | (simp [lo_, hL, oI_, *]; done) | (simp only [lo_, hL]; rw [if_pos (Or.inl c_48)]; rfl)) (by first | (simp [lo_, hL, mo_, *]; done) | (simp only [lo_, hL]; rw [if_pos (Or.inl c_48)]; rfl)) (by first | rfl | exact nI_1 _) (by omega) (by omega) ls (lv_sub hl [0, 1, 2, 5, 6] rfl)
            · have d_48 := Int32.not_lt.mp c_48
              refine lv_iload hx hb dX0_loudestAt_51 (lv_at hl 0 rfl) ?_
              refine lv_if_eq (tgt := 76) hx hb dX0_loudestAt_53 (by decide) (fun q => absurd q (by decide)) (fun _ => ?_)
              refine lv_aload_n hx hb dX0_loudestAt_56 rfl (lv_at hl 5 rfl) ?_
              refine lv_iload hx hb dX0_loudestAt_57 (lv_at hl 2 rfl) ?_
              refine kSiV hx hb hml hown hts hK hP gX0_loudestAt_X0_distanceTo okX0_distanceTo (qX0_distanceTo l D cI cB g i0 B i (by show sn_ B ≤ 7; omega) (by omega)) [0, 1, 2, 3, 4, 5] rfl rfl rfl rfl (by decide) hl.1 rfl rfl (Nat.le_of_ble_eq_true rfl) dX0_loudestAt_59 (by decide) (fun r_5 hr_6 => ?_)
              replace hr_6 : r_5 = di_ B i := hr_6
              subst r_5
              refine lv_aload_n hx hb dX0_loudestAt_62 rfl (lv_at hl 5 rfl) ?_
              refine lv_iload_n hx hb dX0_loudestAt_63 rfl (lv_at hl 4 rfl) ?_
              refine kSiV hx hb hml hown hts hK hP gX0_loudestAt_X0_distanceTo okX0_distanceTo (qX0_distanceTo l D cI cB g i0 B t (by show sn_ B ≤ 7; omega) (by omega)) [0, 1, 2, 3, 4, 5] rfl rfl rfl rfl (by decide) hl.1 rfl rfl (Nat.le_of_ble_eq_true rfl) dX0_loudestAt_64 (by decide) (fun r_7 hr_8 => ?_)
              replace hr_8 : r_7 = di_ B t := hr_8
              subst r_7
              refine lv_icmp_ge (tgt := 76) hx hb dX0_loudestAt_67 (by decide) (fun c_67 => ?_) (fun c_67 => ?_)
              · have d_67 := Int32.not_lt.mpr c_67
                refine lv_iinc (v := (nI i) + 1) (lv' := [(4, .int ((nI i) + 1)), (6, .int 1), (5, .int (no_ B i h)), (3, .int (no_ B t h)), (2, .int (nI t)), (0, .ref (g i0)), (1, .int h)]) hx hb dX0_loudestAt_76 hl (k := 2) rfl (by first | rfl | decide) (by decide) rfl (fun ls hl => ?_)
                refine lv_goto (tgt := 8) hx hb dX0_loudestAt_79 (by decide) ?_
                exact ih_8 (i + 1) (nI t) (no_ B t h) ((nI i) + 1)  (by first | (simp [lo_, hL, oI_, *]; done) | (simp only [lo_, hL]; rw [if_pos (Or.inl c_48)]; rfl)) (by first | (simp [lo_, hL, mo_, *]; done) | (simp only [lo_, hL]; rw [if_pos (Or.inl c_48)]; rfl)) (by first | rfl | exact nI_1 _) (by omega) (by omega) ls (lv_sub hl [0, 3, 4, 5, 6] rfl)
              · have d_67 := Int32.not_le.mp c_67
                refine lv_iload hx hb dX0_loudestAt_70 (lv_at hl 2 rfl) ?_
                refine lv_istore_n (lv' := [(2, .int (nI i)), (6, .int 1), (5, .int (no_ B i h)), (4, .int (nI i)), (3, .int (no_ B t h)), (0, .ref (g i0)), (1, .int h)]) hx hb dX0_loudestAt_72 rfl hl (by decide) rfl (fun ls hl => ?_)
                refine lv_iload hx hb dX0_loudestAt_73 (lv_at hl 2 rfl) ?_
                refine lv_istore_n (lv' := [(3, .int (no_ B i h)), (2, .int (nI i)), (6, .int 1), (5, .int (no_ B i h)), (4, .int (nI i)), (0, .ref (g i0)), (1, .int h)]) hx hb dX0_loudestAt_75 rfl hl (by decide) rfl (fun ls hl => ?_)
                refine lv_iinc (v := (nI i) + 1) (lv' := [(4, .int ((nI i) + 1)), (3, .int (no_ B i h)), (2, .int (nI i)), (6, .int 1), (5, .int (no_ B i h)), (0, .ref (g i0)), (1, .int h)]) hx hb dX0_loudestAt_76 hl (k := 4) rfl (by first | rfl | decide) (by decide) rfl (fun ls hl => ?_)
                refine lv_goto (tgt := 8) hx hb dX0_loudestAt_79 (by decide) ?_
                exact ih_8 (i + 1) (nI i) (no_ B i h) ((nI i) + 1)  (by first | (simp [lo_, hL, oI_, *]; done) | (simp only [lo_, hL]; rw [if_pos (Or.inl c_48)]; rfl)) (by first | (simp [lo_, hL, mo_, *]; done) | (simp only [lo_, hL]; rw [if_pos (Or.inl c_48)]; rfl)) (by first | rfl | exact nI_1 _) (by omega) (by omega) ls (lv_sub hl [0, 1, 2, 5, 6] rfl)
  exact lp_8 ((sn_ B) + 1) 0 (-9) 0 0  (by first | rfl | exact nI_0.symm) (by first | rfl | exact nI_0.symm) (by first | rfl | exact nI_0.symm) (by omega) (by omega) ls (lv_sub hl [0, 1, 2, 3, 4] rfl)

theorem okX0_loudestHour : jok yX0_loudestHour wsX0_loudestHour cX0_loudestHour 3 (some .int) 0 := ⟨⟨_, rfl⟩, by decide +kernel, by decide +kernel⟩
set_option maxHeartbeats 1000000 in
set_option maxRecDepth 100000 in
theorem qX0_loudestHour (l : Launch) (D : va_G) (cI cB : ClassId) (g : Nat → Nat) (i0 : Nat) (B : BayT) (hn7 : sn_ B ≤ 7) : jSi D cI cB l yX0_loudestHour wsX0_loudestHour 3 [.ref (g i0)] (bW cI g i0 B) (fun r => r = nI (lh_ B 23)) := by
  refine jSi.of (cc := cX0_loudestHour) (maxL := 3) (ret := (some .int)) okX0_loudestHour (Nat.le_of_ble_eq_true rfl) ?_
  intro p e s m below meth c ls hx hb hr hts hown hlk hml hP hK hl
  replace hown : s.vm.findClass RX0 = some m.cls := hown
  replace hl : lv_has ls 3 [(0, .ref (g i0))] := hl
  refine lv_iconst (v := 0) hx hb dX0_loudestHour_0 (by decide) ?_
  refine lv_istore_n (lv' := [(1, .int 0), (0, .ref (g i0))]) hx hb dX0_loudestHour_1 rfl hl (by decide) rfl (fun ls hl => ?_)
  refine lv_iconst (v := 1) hx hb dX0_loudestHour_2 (by decide) ?_
  refine lv_istore_n (lv' := [(2, .int 1), (1, .int 0), (0, .ref (g i0))]) hx hb dX0_loudestHour_3 rfl hl (by decide) rfl (fun ls hl => ?_)
  have lp_4 : ∀ (fu_4 : Nat) (i : Nat) (x1_4 : Int32) (x2_4 : Int32) , (x1_4 = nI (lh_ B i)) → (x2_4 = nI (i + 1)) → (i ≤ 23) → 23 - i < fu_4 → ∀ ls : Array Slot, lv_has ls 3 [(2, .int x2_4), (1, .int x1_4), (0, .ref (g i0))] → W p l e (jR 3) s m ([.ref (g i0)] : List Value).toArray below meth c s.heap [] 0 0 (MQ below (vp_Si (fun r => r = nI (lh_ B 23))) ([.ref (g i0)] : List Value).toArray s 0 0 (fun _ => False)) (F0 m 4 ls []) := by
    intro fu_4
    induction fu_4 with
    | zero => intro i x1_4 x2_4 hx1_4 hx2_4 hi hfu; exact absurd hfu (Nat.not_lt_zero _)
    | succ fu_4 ih_4 =>
      intro i x1_4 x2_4 hx1_4 hx2_4 hi hfu_4 ls hl
      subst x1_4
      subst x2_4
      replace hl : lv_has ls 3 [(2, .int (nI (i + 1))), (1, .int (nI (lh_ B i))), (0, .ref (g i0))] := hl
      refine lv_iload_n hx hb dX0_loudestHour_4 rfl (lv_at hl 0 rfl) ?_
      refine lv_bipush (v := 23) hx hb dX0_loudestHour_5 (by decide) ?_
      refine lv_icmp_gt (tgt := 31) hx hb dX0_loudestHour_7 (by decide) (fun c_7 => ?_) (fun c_7 => ?_)
      · replace c_7 : nI 23 < nI (i + 1) := c_7
        rw [jlt (by omega) (by omega)] at c_7
        refine lv_iload_n hx hb dX0_loudestHour_31 rfl (lv_at hl 1 rfl) ?_
        refine rSi hx hb hr hlk ?_ dX0_loudestHour_32
        show (nI (lh_ B i)) = _
        have e9 : i = 23 := by omega
        rw [e9]
      · replace c_7 : ¬ nI 23 < nI (i + 1) := c_7
        rw [jlt (by omega) (by omega)] at c_7
        refine lv_aload_n hx hb dX0_loudestHour_10 rfl (lv_at hl 2 rfl) ?_
        refine lv_iload_n hx hb dX0_loudestHour_11 rfl (lv_at hl 0 rfl) ?_
        refine kSiV hx hb hml hown hts hK hP gX0_loudestHour_X0_noiseTogether okX0_noiseTogether (qX0_noiseTogether l D cI cB g i0 B (nI (i + 1)) (by show sn_ B ≤ 7; omega)) [0, 1, 2, 3, 4, 5] rfl rfl rfl rfl (by decide) hl.1 rfl rfl (Nat.le_of_ble_eq_true rfl) dX0_loudestHour_12 (by decide) (fun r_1 hr_2 => ?_)
        replace hr_2 : r_1 = an_ B (nI (i + 1)) := hr_2
        subst r_1
        refine lv_aload_n hx hb dX0_loudestHour_15 rfl (lv_at hl 2 rfl) ?_
        refine lv_iload_n hx hb dX0_loudestHour_16 rfl (lv_at hl 1 rfl) ?_
        refine kSiV hx hb hml hown hts hK hP gX0_loudestHour_X0_noiseTogether okX0_noiseTogether (qX0_noiseTogether l D cI cB g i0 B (nI (lh_ B i)) (by show sn_ B ≤ 7; omega)) [0, 1, 2, 3, 4, 5] rfl rfl rfl rfl (by decide) hl.1 rfl rfl (Nat.le_of_ble_eq_true rfl) dX0_loudestHour_17 (by decide) (fun r_3 hr_4 => ?_)
        replace hr_4 : r_3 = an_ B (nI (lh_ B i)) := hr_4
        subst r_3
        refine lv_icmp_le (tgt := 25) hx hb dX0_loudestHour_20 (by decide) (fun c_20 => ?_) (fun c_20 => ?_)
        · have d_20 := Int32.not_lt.mpr c_20
          refine lv_iinc (v := (nI (i + 1)) + 1) (lv' := [(2, .int ((nI (i + 1)) + 1)), (1, .int (nI (lh_ B i))), (0, .ref (g i0))]) hx hb dX0_loudestHour_25 hl (k := 0) rfl (by first | rfl | decide) (by decide) rfl (fun ls hl => ?_)
          refine lv_goto (tgt := 4) hx hb dX0_loudestHour_28 (by decide) ?_
          exact ih_4 (i + 1) (nI (lh_ B i)) ((nI (i + 1)) + 1)  (by simp only [lh_]; first | rw [if_pos (Int32.not_le.mp c_20)] | rw [if_neg (Int32.not_lt.mpr c_20)]) (by first | rfl | exact nI_1 _) (by omega) (by omega) ls (lv_sub hl [0, 1, 2] rfl)
        · have d_20 := Int32.not_le.mp c_20
          refine lv_iload_n hx hb dX0_loudestHour_23 rfl (lv_at hl 0 rfl) ?_
          refine lv_istore_n (lv' := [(1, .int (nI (i + 1))), (2, .int (nI (i + 1))), (0, .ref (g i0))]) hx hb dX0_loudestHour_24 rfl hl (by decide) rfl (fun ls hl => ?_)
          refine lv_iinc (v := (nI (i + 1)) + 1) (lv' := [(2, .int ((nI (i + 1)) + 1)), (1, .int (nI (i + 1))), (0, .ref (g i0))]) hx hb dX0_loudestHour_25 hl (k := 1) rfl (by first | rfl | decide) (by decide) rfl (fun ls hl => ?_)
          refine lv_goto (tgt := 4) hx hb dX0_loudestHour_28 (by decide) ?_
          exact ih_4 (i + 1) (nI (i + 1)) ((nI (i + 1)) + 1)  (by simp only [lh_]; first | rw [if_pos (Int32.not_le.mp c_20)] | rw [if_neg (Int32.not_lt.mpr c_20)]) (by first | rfl | exact nI_1 _) (by omega) (by omega) ls (lv_sub hl [0, 1, 2] rfl)
  exact lp_4 (23 + 1) 0 0 1  (by first | rfl | exact nI_0.symm) (by rfl) (by omega) (by omega) ls (lv_sub hl [0, 1, 2] rfl)

theorem okX0_calmBits : jok yX0_calmBits wsX0_calmBits cX0_calmBits 3 (some .int) 0 := ⟨⟨_, rfl⟩, by decide +kernel, by decide +kernel⟩
set_option maxHeartbeats 1000000 in
set_option maxRecDepth 100000 in
theorem qX0_calmBits (l : Launch) (D : va_G) (cI cB : ClassId) (g : Nat → Nat) (i0 : Nat) (B : BayT) (hn7 : sn_ B ≤ 7) : jSi D cI cB l yX0_calmBits wsX0_calmBits 3 [.ref (g i0)] (bW cI g i0 B) (fun r => r = bi_ (fun j => an_ B (nI j)) 0 24) := by
  refine jSi.of (cc := cX0_calmBits) (maxL := 3) (ret := (some .int)) okX0_calmBits (Nat.le_of_ble_eq_true rfl) ?_
  intro p e s m below meth c ls hx hb hr hts hown hlk hml hP hK hl
  replace hown : s.vm.findClass RX0 = some m.cls := hown
  replace hl : lv_has ls 3 [(0, .ref (g i0))] := hl
  refine lv_iconst (v := 0) hx hb dX0_calmBits_0 (by decide) ?_
  refine lv_istore_n (lv' := [(1, .int 0), (0, .ref (g i0))]) hx hb dX0_calmBits_1 rfl hl (by decide) rfl (fun ls hl => ?_)
  refine lv_iconst (v := 0) hx hb dX0_calmBits_2 (by decide) ?_
  refine lv_istore_n (lv' := [(2, .int 0), (1, .int 0), (0, .ref (g i0))]) hx hb dX0_calmBits_3 rfl hl (by decide) rfl (fun ls hl => ?_)
  have lp_4 : ∀ (fu_4 : Nat) (i : Nat) (x1_4 : Int32) (x2_4 : Int32) , (x1_4 = bi_ (fun j => an_ B (nI j)) 0 i) → (x2_4 = nI i) → (i ≤ 24) → 24 - i < fu_4 → ∀ ls : Array Slot, lv_has ls 3 [(2, .int x2_4), (1, .int x1_4), (0, .ref (g i0))] → W p l e (jR 3) s m ([.ref (g i0)] : List Value).toArray below meth c s.heap [] 0 0 (MQ below (vp_Si (fun r => r = bi_ (fun j => an_ B (nI j)) 0 24)) ([.ref (g i0)] : List Value).toArray s 0 0 (fun _ => False)) (F0 m 4 ls []) := by
    intro fu_4
    induction fu_4 with
    | zero => intro i x1_4 x2_4 hx1_4 hx2_4 hi hfu; exact absurd hfu (Nat.not_lt_zero _)
    | succ fu_4 ih_4 =>
      intro i x1_4 x2_4 hx1_4 hx2_4 hi hfu_4 ls hl
      subst x1_4
      subst x2_4
      replace hl : lv_has ls 3 [(2, .int (nI i)), (1, .int (bi_ (fun j => an_ B (nI j)) 0 i)), (0, .ref (g i0))] := hl
      refine lv_iload_n hx hb dX0_calmBits_4 rfl (lv_at hl 0 rfl) ?_
      refine lv_bipush (v := 23) hx hb dX0_calmBits_5 (by decide) ?_
      refine lv_icmp_gt (tgt := 30) hx hb dX0_calmBits_7 (by decide) (fun c_7 => ?_) (fun c_7 => ?_)
      · replace c_7 : nI 23 < nI i := c_7
        rw [jlt (by omega) (by omega)] at c_7
        refine lv_iload_n hx hb dX0_calmBits_30 rfl (lv_at hl 1 rfl) ?_
        refine rSi hx hb hr hlk ?_ dX0_calmBits_31
        show (bi_ (fun j => an_ B (nI j)) 0 i) = _
        have e9 : i = 24 := by omega
        rw [e9]
      · replace c_7 : ¬ nI 23 < nI i := c_7
        rw [jlt (by omega) (by omega)] at c_7
        refine lv_aload_n hx hb dX0_calmBits_10 rfl (lv_at hl 2 rfl) ?_
        refine lv_iload_n hx hb dX0_calmBits_11 rfl (lv_at hl 0 rfl) ?_
        refine kSiV hx hb hml hown hts hK hP gX0_calmBits_X0_noiseTogether okX0_noiseTogether (qX0_noiseTogether l D cI cB g i0 B (nI i) (by show sn_ B ≤ 7; omega)) [0, 1, 2, 3, 4, 5] rfl rfl rfl rfl (by decide) hl.1 rfl rfl (Nat.le_of_ble_eq_true rfl) dX0_calmBits_12 (by decide) (fun r_1 hr_2 => ?_)
        replace hr_2 : r_1 = an_ B (nI i) := hr_2
        subst r_1
        refine lv_if_ne (tgt := 24) hx hb dX0_calmBits_15 (by decide) (fun c_15 => ?_) (fun c_15 => ?_)
        · skip
          refine lv_iinc (v := (nI i) + 1) (lv' := [(2, .int ((nI i) + 1)), (1, .int (bi_ (fun j => an_ B (nI j)) 0 i)), (0, .ref (g i0))]) hx hb dX0_calmBits_24 hl (k := 0) rfl (by first | rfl | decide) (by decide) rfl (fun ls hl => ?_)
          refine lv_goto (tgt := 4) hx hb dX0_calmBits_27 (by decide) ?_
          exact ih_4 (i + 1) (bi_ (fun j => an_ B (nI j)) 0 i) ((nI i) + 1)  (by simp only [bi_]; first | rw [if_pos (by assumption)] | rw [if_neg (by assumption)]) (by first | rfl | exact nI_1 _) (by omega) (by omega) ls (lv_sub hl [0, 1, 2] rfl)
        · skip
          refine lv_iload_n hx hb dX0_calmBits_18 rfl (lv_at hl 1 rfl) ?_
          refine lv_iconst (v := 1) hx hb dX0_calmBits_19 (by decide) ?_
          refine lv_iload_n hx hb dX0_calmBits_20 rfl (lv_at hl 0 rfl) ?_
          refine lv_ishl hx hb dX0_calmBits_21 ?_
          refine lv_ior hx hb dX0_calmBits_22 ?_
          refine lv_istore_n (lv' := [(1, .int ((bi_ (fun j => an_ B (nI j)) 0 i) ||| (1 <<< ((nI i) &&& 31)))), (2, .int (nI i)), (0, .ref (g i0))]) hx hb dX0_calmBits_23 rfl hl (by decide) rfl (fun ls hl => ?_)
          refine lv_iinc (v := (nI i) + 1) (lv' := [(2, .int ((nI i) + 1)), (1, .int ((bi_ (fun j => an_ B (nI j)) 0 i) ||| (1 <<< ((nI i) &&& 31)))), (0, .ref (g i0))]) hx hb dX0_calmBits_24 hl (k := 1) rfl (by first | rfl | decide) (by decide) rfl (fun ls hl => ?_)
          refine lv_goto (tgt := 4) hx hb dX0_calmBits_27 (by decide) ?_
          exact ih_4 (i + 1) ((bi_ (fun j => an_ B (nI j)) 0 i) ||| (1 <<< ((nI i) &&& 31))) ((nI i) + 1)  (by simp only [bi_]; first | rw [if_pos (by assumption)] | rw [if_neg (by assumption)]) (by first | rfl | exact nI_1 _) (by omega) (by omega) ls (lv_sub hl [0, 1, 2] rfl)
  exact lp_4 (24 + 1) 0 0 0  (by first | rfl | exact nI_0.symm) (by first | rfl | exact nI_0.symm) (by omega) (by omega) ls (lv_sub hl [0, 1, 2] rfl)

theorem okX0_placeTowards : jok yX0_placeTowards wsX0_placeTowards cX0_placeTowards 3 (some .int) 1 := ⟨⟨_, rfl⟩, by decide +kernel, by decide +kernel⟩
set_option maxHeartbeats 1000000 in
set_option maxRecDepth 100000 in
theorem qX0_placeTowards (l : Launch) (D : va_G) (cI cB : ClassId) (g : Nat → Nat) (i0 : Nat) (B : BayT) (k : Nat) (hn7 : sn_ B ≤ 7) (hk : k < 7) : jSi D cI cB l yX0_placeTowards wsX0_placeTowards 1 [.ref (g i0), .int (nI k)] (bW cI g i0 B) (fun r => r = tw_ B k) := by
  refine jSi.of (cc := cX0_placeTowards) (maxL := 3) (ret := (some .int)) okX0_placeTowards (Nat.le_of_ble_eq_true rfl) ?_
  intro p e s m below meth c ls hx hb hr hts hown hlk hml hP hK hl
  replace hown : s.vm.findClass RX0 = some m.cls := hown
  replace hl : lv_has ls 3 [(0, .ref (g i0)), (1, .int (nI k))] := hl
  have hinX0 : ∀ w ∈ wsX00, w ∈ wsX0_placeTowards := by decide +kernel
  refine lv_aload_n hx hb dX0_placeTowards_0 rfl (lv_at hl 0 rfl) ?_
  refine va_get (ci := 0) (C := RX0) (T := TX0) (N := 11) hx hb hts hinX0 hown hK.1 hP 0 rfl rfl 2 (by decide) (hts _ (List.mem_of_getElem? (i := 1) rfl)) (fun _ h9 => h9) rfl dX0_placeTowards_1 ?_
  refine lv_iload_n hx hb dX0_placeTowards_4 rfl (lv_at hl 1 rfl) ?_
  refine jald hx hb hK.1 hP 3 0 k rfl rfl rfl (by omega) (Nat.le_of_ble_eq_true rfl) dX0_placeTowards_5 ?_
  refine lv_aload_n hx hb dX0_placeTowards_6 rfl (lv_at hl 0 rfl) ?_
  refine va_get (ci := 0) (C := RX0) (T := TX0) (N := 11) hx hb hts hinX0 hown hK.1 hP 0 rfl rfl 7 (by decide) (hts _ (List.mem_of_getElem? (i := 2) rfl)) (fun _ h9 => h9) rfl dX0_placeTowards_7 ?_
  refine lv_isub hx hb dX0_placeTowards_10 ?_
  refine lv_istore_n (lv' := [(2, .int (((pl_ B) k) - (il_ B))), (0, .ref (g i0)), (1, .int (nI k))]) hx hb dX0_placeTowards_11 rfl hl (by decide) rfl (fun ls hl => ?_)
  refine lv_aload_n hx hb dX0_placeTowards_12 rfl (lv_at hl 1 rfl) ?_
  refine va_get (ci := 0) (C := RX0) (T := TX0) (N := 11) hx hb hts hinX0 hown hK.1 hP 0 rfl rfl 7 (by decide) (hts _ (List.mem_of_getElem? (i := 2) rfl)) (fun _ h9 => h9) rfl dX0_placeTowards_13 ?_
  refine lv_aload_n hx hb dX0_placeTowards_16 rfl (lv_at hl 1 rfl) ?_
  refine va_get (ci := 0) (C := RX0) (T := TX0) (N := 11) hx hb hts hinX0 hown hK.1 hP 0 rfl rfl 8 (by decide) (hts _ (List.mem_of_getElem? (i := 3) rfl)) (fun _ h9 => h9) rfl dX0_placeTowards_17 ?_
  refine lv_ineg hx hb dX0_placeTowards_20 ?_
  refine lv_aload_n hx hb dX0_placeTowards_21 rfl (lv_at hl 1 rfl) ?_
  refine va_get (ci := 0) (C := RX0) (T := TX0) (N := 11) hx hb hts hinX0 hown hK.1 hP 0 rfl rfl 8 (by decide) (hts _ (List.mem_of_getElem? (i := 3) rfl)) (fun _ h9 => h9) rfl dX0_placeTowards_22 ?_
  refine lv_iload_n hx hb dX0_placeTowards_25 rfl (lv_at hl 0 rfl) ?_
  refine va_mmin hx hb (hml.trans hl.1.symm) hown (hts _ (List.mem_of_getElem? (i := 4) rfl)) (hts _ (List.mem_of_getElem? (i := 5) rfl)) (hts _ (List.mem_of_getElem? (i := 6) rfl)) (hts _ (List.mem_of_getElem? (i := 7) rfl)) (by decide) (Nat.le_of_ble_eq_true rfl) (by decide) (by decide) dX0_placeTowards_26 ?_
  refine va_mmax hx hb (hml.trans hl.1.symm) hown (hts _ (List.mem_of_getElem? (i := 8) rfl)) (hts _ (List.mem_of_getElem? (i := 9) rfl)) (hts _ (List.mem_of_getElem? (i := 6) rfl)) (hts _ (List.mem_of_getElem? (i := 10) rfl)) (by decide) (Nat.le_of_ble_eq_true rfl) (by decide) (by decide) dX0_placeTowards_29 ?_
  refine lv_iadd hx hb dX0_placeTowards_32 ?_
  refine rSi hx hb hr hlk ?_ dX0_placeTowards_33
  show ((il_ B) + (if (-(pa_ B)) < (if (((pl_ B) k) - (il_ B)) < (pa_ B) then (((pl_ B) k) - (il_ B)) else (pa_ B)) then (if (((pl_ B) k) - (il_ B)) < (pa_ B) then (((pl_ B) k) - (il_ B)) else (pa_ B)) else (-(pa_ B)))) = _
  rfl

theorem okX0_placeAwayFrom : jok yX0_placeAwayFrom wsX0_placeAwayFrom cX0_placeAwayFrom 3 (some .int) 1 := ⟨⟨_, rfl⟩, by decide +kernel, by decide +kernel⟩
set_option maxHeartbeats 1000000 in
set_option maxRecDepth 100000 in
theorem qX0_placeAwayFrom (l : Launch) (D : va_G) (cI cB : ClassId) (g : Nat → Nat) (i0 : Nat) (B : BayT) (k : Nat) (hn7 : sn_ B ≤ 7) (hk : k < 7) : jSi D cI cB l yX0_placeAwayFrom wsX0_placeAwayFrom 1 [.ref (g i0), .int (nI k)] (bW cI g i0 B) (fun r => r = aw_ B k) := by
  refine jSi.of (cc := cX0_placeAwayFrom) (maxL := 3) (ret := (some .int)) okX0_placeAwayFrom (Nat.le_of_ble_eq_true rfl) ?_
  intro p e s m below meth c ls hx hb hr hts hown hlk hml hP hK hl
  replace hown : s.vm.findClass RX0 = some m.cls := hown
  replace hl : lv_has ls 3 [(0, .ref (g i0)), (1, .int (nI k))] := hl
  have hinX0 : ∀ w ∈ wsX00, w ∈ wsX0_placeAwayFrom := by decide +kernel
  refine lv_aload_n hx hb dX0_placeAwayFrom_0 rfl (lv_at hl 0 rfl) ?_
  refine va_get (ci := 0) (C := RX0) (T := TX0) (N := 11) hx hb hts hinX0 hown hK.1 hP 0 rfl rfl 2 (by decide) (hts _ (List.mem_of_getElem? (i := 1) rfl)) (fun _ h9 => h9) rfl dX0_placeAwayFrom_1 ?_
  refine lv_iload_n hx hb dX0_placeAwayFrom_4 rfl (lv_at hl 1 rfl) ?_
  refine jald hx hb hK.1 hP 3 0 k rfl rfl rfl (by omega) (Nat.le_of_ble_eq_true rfl) dX0_placeAwayFrom_5 ?_
  refine lv_aload_n hx hb dX0_placeAwayFrom_6 rfl (lv_at hl 0 rfl) ?_
  refine va_get (ci := 0) (C := RX0) (T := TX0) (N := 11) hx hb hts hinX0 hown hK.1 hP 0 rfl rfl 7 (by decide) (hts _ (List.mem_of_getElem? (i := 2) rfl)) (fun _ h9 => h9) rfl dX0_placeAwayFrom_7 ?_
  refine lv_icmp_ge (tgt := 20) hx hb dX0_placeAwayFrom_10 (by decide) (fun c_10 => ?_) (fun c_10 => ?_)
  · have d_10 := Int32.not_lt.mpr c_10
    refine lv_aload_n hx hb dX0_placeAwayFrom_20 rfl (lv_at hl 0 rfl) ?_
    refine va_get (ci := 0) (C := RX0) (T := TX0) (N := 11) hx hb hts hinX0 hown hK.1 hP 0 rfl rfl 8 (by decide) (hts _ (List.mem_of_getElem? (i := 3) rfl)) (fun _ h9 => h9) rfl dX0_placeAwayFrom_21 ?_
    refine lv_ineg hx hb dX0_placeAwayFrom_24 ?_
    refine lv_istore_n (lv' := [(2, .int (-(pa_ B))), (0, .ref (g i0)), (1, .int (nI k))]) hx hb dX0_placeAwayFrom_25 rfl hl (by decide) rfl (fun ls hl => ?_)
    refine lv_iconst (v := 0) hx hb dX0_placeAwayFrom_26 (by decide) ?_
    refine lv_bipush (v := 30) hx hb dX0_placeAwayFrom_27 (by decide) ?_
    refine lv_aload_n hx hb dX0_placeAwayFrom_29 rfl (lv_at hl 1 rfl) ?_
    refine va_get (ci := 0) (C := RX0) (T := TX0) (N := 11) hx hb hts hinX0 hown hK.1 hP 0 rfl rfl 7 (by decide) (hts _ (List.mem_of_getElem? (i := 2) rfl)) (fun _ h9 => h9) rfl dX0_placeAwayFrom_30 ?_
    refine lv_iload_n hx hb dX0_placeAwayFrom_33 rfl (lv_at hl 0 rfl) ?_
    refine lv_iadd hx hb dX0_placeAwayFrom_34 ?_
    refine va_mmin hx hb (hml.trans hl.1.symm) hown (hts _ (List.mem_of_getElem? (i := 4) rfl)) (hts _ (List.mem_of_getElem? (i := 5) rfl)) (hts _ (List.mem_of_getElem? (i := 6) rfl)) (hts _ (List.mem_of_getElem? (i := 7) rfl)) (by decide) (Nat.le_of_ble_eq_true rfl) (by decide) (by decide) dX0_placeAwayFrom_35 ?_
    refine va_mmax hx hb (hml.trans hl.1.symm) hown (hts _ (List.mem_of_getElem? (i := 8) rfl)) (hts _ (List.mem_of_getElem? (i := 9) rfl)) (hts _ (List.mem_of_getElem? (i := 6) rfl)) (hts _ (List.mem_of_getElem? (i := 10) rfl)) (by decide) (Nat.le_of_ble_eq_true rfl) (by decide) (by decide) dX0_placeAwayFrom_38 ?_
    refine rSi hx hb hr hlk ?_ dX0_placeAwayFrom_41
    show (if 0 < (if ((il_ B) + (-(pa_ B))) < 30 then ((il_ B) + (-(pa_ B))) else 30) then (if ((il_ B) + (-(pa_ B))) < 30 then ((il_ B) + (-(pa_ B))) else 30) else 0) = _
    unfold aw_; simp [*]
  · have d_10 := Int32.not_le.mp c_10
    refine lv_aload_n hx hb dX0_placeAwayFrom_13 rfl (lv_at hl 0 rfl) ?_
    refine va_get (ci := 0) (C := RX0) (T := TX0) (N := 11) hx hb hts hinX0 hown hK.1 hP 0 rfl rfl 8 (by decide) (hts _ (List.mem_of_getElem? (i := 3) rfl)) (fun _ h9 => h9) rfl dX0_placeAwayFrom_14 ?_
    refine lv_goto (tgt := 25) hx hb dX0_placeAwayFrom_17 (by decide) ?_
    refine lv_istore_n (lv' := [(2, .int (pa_ B)), (0, .ref (g i0)), (1, .int (nI k))]) hx hb dX0_placeAwayFrom_25 rfl hl (by decide) rfl (fun ls hl => ?_)
    refine lv_iconst (v := 0) hx hb dX0_placeAwayFrom_26 (by decide) ?_
    refine lv_bipush (v := 30) hx hb dX0_placeAwayFrom_27 (by decide) ?_
    refine lv_aload_n hx hb dX0_placeAwayFrom_29 rfl (lv_at hl 1 rfl) ?_
    refine va_get (ci := 0) (C := RX0) (T := TX0) (N := 11) hx hb hts hinX0 hown hK.1 hP 0 rfl rfl 7 (by decide) (hts _ (List.mem_of_getElem? (i := 2) rfl)) (fun _ h9 => h9) rfl dX0_placeAwayFrom_30 ?_
    refine lv_iload_n hx hb dX0_placeAwayFrom_33 rfl (lv_at hl 0 rfl) ?_
    refine lv_iadd hx hb dX0_placeAwayFrom_34 ?_
    refine va_mmin hx hb (hml.trans hl.1.symm) hown (hts _ (List.mem_of_getElem? (i := 4) rfl)) (hts _ (List.mem_of_getElem? (i := 5) rfl)) (hts _ (List.mem_of_getElem? (i := 6) rfl)) (hts _ (List.mem_of_getElem? (i := 7) rfl)) (by decide) (Nat.le_of_ble_eq_true rfl) (by decide) (by decide) dX0_placeAwayFrom_35 ?_
    refine va_mmax hx hb (hml.trans hl.1.symm) hown (hts _ (List.mem_of_getElem? (i := 8) rfl)) (hts _ (List.mem_of_getElem? (i := 9) rfl)) (hts _ (List.mem_of_getElem? (i := 6) rfl)) (hts _ (List.mem_of_getElem? (i := 10) rfl)) (by decide) (Nat.le_of_ble_eq_true rfl) (by decide) (by decide) dX0_placeAwayFrom_38 ?_
    refine rSi hx hb hr hlk ?_ dX0_placeAwayFrom_41
    show (if 0 < (if ((il_ B) + (pa_ B)) < 30 then ((il_ B) + (pa_ B)) else 30) then (if ((il_ B) + (pa_ B)) < 30 then ((il_ B) + (pa_ B)) else 30) else 0) = _
    unfold aw_; simp [*]

theorem okX0_refusalOfShore : jok yX0_refusalOfShore wsX0_refusalOfShore cX0_refusalOfShore 4 (some .int) 3 := ⟨⟨_, rfl⟩, by decide +kernel, by decide +kernel⟩
set_option maxHeartbeats 1000000 in
set_option maxRecDepth 100000 in
theorem qX0_refusalOfShore (l : Launch) (D : va_G) (cI cB : ClassId) (g : Nat → Nat) (i0 : Nat) (B : BayT) (w : Int32) (f : Int32) (v : Int32) (hn7 : sn_ B ≤ 7) : jSi D cI cB l yX0_refusalOfShore wsX0_refusalOfShore 1 [.ref (g i0), .int w, .int f, .int v] (bW cI g i0 B) (fun r => r = rs_ B w f v) := by
  refine jSi.of (cc := cX0_refusalOfShore) (maxL := 4) (ret := (some .int)) okX0_refusalOfShore (Nat.le_of_ble_eq_true rfl) ?_
  intro p e s m below meth c ls hx hb hr hts hown hlk hml hP hK hl
  replace hown : s.vm.findClass RX0 = some m.cls := hown
  replace hl : lv_has ls 4 [(0, .ref (g i0)), (1, .int w), (2, .int f), (3, .int v)] := hl
  have hinX0 : ∀ w ∈ wsX00, w ∈ wsX0_refusalOfShore := by decide +kernel
  refine lv_iload_n hx hb dX0_refusalOfShore_0 rfl (lv_at hl 1 rfl) ?_
  refine lv_if_lt (tgt := 9) hx hb dX0_refusalOfShore_1 (by decide) (fun c_1 => ?_) (fun c_1 => ?_)
  · have d_1 := Int32.not_le.mpr c_1
    refine lv_bipush (v := (-2)) hx hb dX0_refusalOfShore_9 (by decide) ?_
    refine rSi hx hb hr hlk ?_ dX0_refusalOfShore_11
    show (-2) = _
    simp [rs_, *]
  · have d_1 := Int32.not_lt.mp c_1
    refine lv_iload_n hx hb dX0_refusalOfShore_4 rfl (lv_at hl 1 rfl) ?_
    refine lv_iconst (v := 5) hx hb dX0_refusalOfShore_5 (by decide) ?_
    refine lv_icmp_le (tgt := 12) hx hb dX0_refusalOfShore_6 (by decide) (fun c_6 => ?_) (fun c_6 => ?_)
    · have d_6 := Int32.not_lt.mpr c_6
      refine lv_iload_n hx hb dX0_refusalOfShore_12 rfl (lv_at hl 2 rfl) ?_
      refine lv_if_ge (tgt := 19) hx hb dX0_refusalOfShore_13 (by decide) (fun c_13 => ?_) (fun c_13 => ?_)
      · have d_13 := Int32.not_lt.mpr c_13
        refine lv_iload_n hx hb dX0_refusalOfShore_19 rfl (lv_at hl 2 rfl) ?_
        refine lv_bipush (v := 9) hx hb dX0_refusalOfShore_20 (by decide) ?_
        refine lv_icmp_gt (tgt := 34) hx hb dX0_refusalOfShore_22 (by decide) (fun c_22 => ?_) (fun c_22 => ?_)
        · have d_22 := Int32.not_le.mpr c_22
          refine lv_bipush (v := (-6)) hx hb dX0_refusalOfShore_34 (by decide) ?_
          refine rSi hx hb hr hlk ?_ dX0_refusalOfShore_36
          show (-6) = _
          simp [rs_, *]
        · have d_22 := Int32.not_lt.mp c_22
          refine lv_aload_n hx hb dX0_refusalOfShore_25 rfl (lv_at hl 0 rfl) ?_
          refine va_get (ci := 0) (C := RX0) (T := TX0) (N := 11) hx hb hts hinX0 hown hK.1 hP 0 rfl rfl 6 (by decide) (hts _ (List.mem_of_getElem? (i := 1) rfl)) (fun _ h9 => h9) rfl dX0_refusalOfShore_26 ?_
          refine lv_bipush (v := 7) hx hb dX0_refusalOfShore_29 (by decide) ?_
          refine lv_icmp_lt (tgt := 37) hx hb dX0_refusalOfShore_31 (by decide) (fun c_31 => ?_) (fun c_31 => ?_)
          · replace c_31 : nI (sn_ B) < nI 7 := c_31
            rw [jlt (by omega) (by omega)] at c_31
            refine lv_iload_n hx hb dX0_refusalOfShore_37 rfl (lv_at hl 3 rfl) ?_
            refine lv_if_lt (tgt := 47) hx hb dX0_refusalOfShore_38 (by decide) (fun c_38 => ?_) (fun c_38 => ?_)
            · have d_38 := Int32.not_le.mpr c_38
              refine lv_iconst (v := (-1)) hx hb dX0_refusalOfShore_47 (by decide) ?_
              refine rSi hx hb hr hlk ?_ dX0_refusalOfShore_48
              show (-1) = _
              simp [rs_, *]
            · have d_38 := Int32.not_lt.mp c_38
              refine lv_iload_n hx hb dX0_refusalOfShore_41 rfl (lv_at hl 3 rfl) ?_
              refine lv_bipush (v := 30) hx hb dX0_refusalOfShore_42 (by decide) ?_
              refine lv_icmp_le (tgt := 49) hx hb dX0_refusalOfShore_44 (by decide) (fun c_44 => ?_) (fun c_44 => ?_)
              · have d_44 := Int32.not_lt.mpr c_44
                refine lv_aload_n hx hb dX0_refusalOfShore_49 rfl (lv_at hl 0 rfl) ?_
                refine lv_iload_n hx hb dX0_refusalOfShore_50 rfl (lv_at hl 3 rfl) ?_
                refine kSiV hx hb hml hown hts hK hP gX0_refusalOfShore_X0_shoreAt okX0_shoreAt (qX0_shoreAt l D cI cB g i0 B v (by show sn_ B ≤ 7; omega)) [0, 1, 2, 3, 4, 5] rfl rfl rfl rfl (by decide) hl.1 rfl rfl (Nat.le_of_ble_eq_true rfl) dX0_refusalOfShore_51 (by decide) (fun r_1 hr_2 => ?_)
                replace hr_2 : r_1 = oI_ (sa_ B v) := hr_2
                subst r_1
                refine lv_bipush (v := (-9)) hx hb dX0_refusalOfShore_54 (by decide) ?_
                refine lv_icmp_eq (tgt := 64) hx hb dX0_refusalOfShore_56 (by decide) (fun c_56 => ?_) (fun c_56 => ?_)
                · rw [sa_9 hn7] at c_56
                  refine lv_iconst (v := 0) hx hb dX0_refusalOfShore_64 (by decide) ?_
                  refine rSi hx hb hr hlk ?_ dX0_refusalOfShore_65
                  show 0 = _
                  simp [rs_, *]
                · rw [sa_9 hn7] at c_56
                  refine lv_bipush (v := (-3)) hx hb dX0_refusalOfShore_59 (by decide) ?_
                  refine lv_goto (tgt := 65) hx hb dX0_refusalOfShore_61 (by decide) ?_
                  refine rSi hx hb hr hlk ?_ dX0_refusalOfShore_65
                  show (-3) = _
                  simp [rs_, *]
              · have d_44 := Int32.not_le.mp c_44
                refine lv_iconst (v := (-1)) hx hb dX0_refusalOfShore_47 (by decide) ?_
                refine rSi hx hb hr hlk ?_ dX0_refusalOfShore_48
                show (-1) = _
                simp [rs_, *]
          · replace c_31 : ¬ nI (sn_ B) < nI 7 := c_31
            rw [jlt (by omega) (by omega)] at c_31
            refine lv_bipush (v := (-6)) hx hb dX0_refusalOfShore_34 (by decide) ?_
            refine rSi hx hb hr hlk ?_ dX0_refusalOfShore_36
            show (-6) = _
            simp [rs_, *]
      · have d_13 := Int32.not_le.mp c_13
        refine lv_bipush (v := (-4)) hx hb dX0_refusalOfShore_16 (by decide) ?_
        refine rSi hx hb hr hlk ?_ dX0_refusalOfShore_18
        show (-4) = _
        simp [rs_, *]
    · have d_6 := Int32.not_le.mp c_6
      refine lv_bipush (v := (-2)) hx hb dX0_refusalOfShore_9 (by decide) ?_
      refine rSi hx hb hr hlk ?_ dX0_refusalOfShore_11
      show (-2) = _
      simp [rs_, *]

theorem okX0_refusalOfPowder : jok yX0_refusalOfPowder wsX0_refusalOfPowder cX0_refusalOfPowder 3 (some .int) 2 := ⟨⟨_, rfl⟩, by decide +kernel, by decide +kernel⟩
set_option maxHeartbeats 1000000 in
set_option maxRecDepth 100000 in
theorem qX0_refusalOfPowder (l : Launch) (D : va_G) (cI cB : ClassId) (g : Nat → Nat) (i0 : Nat) (B : BayT) (a : Int32) (v : Int32) (hn7 : sn_ B ≤ 7) : jSi D cI cB l yX0_refusalOfPowder wsX0_refusalOfPowder 2 [.ref (g i0), .int a, .int v] (bW cI g i0 B) (fun r => r = f2_ (nb_ a (nI (sn_ B))) (ob_ v 0 99)) := by
  refine jSi.of (cc := cX0_refusalOfPowder) (maxL := 3) (ret := (some .int)) okX0_refusalOfPowder (Nat.le_of_ble_eq_true rfl) ?_
  intro p e s m below meth c ls hx hb hr hts hown hlk hml hP hK hl
  replace hown : s.vm.findClass RX0 = some m.cls := hown
  replace hl : lv_has ls 3 [(0, .ref (g i0)), (1, .int a), (2, .int v)] := hl
  have hinX0 : ∀ w ∈ wsX00, w ∈ wsX0_refusalOfPowder := by decide +kernel
  refine lv_iload_n hx hb dX0_refusalOfPowder_0 rfl (lv_at hl 1 rfl) ?_
  refine lv_aload_n hx hb dX0_refusalOfPowder_1 rfl (lv_at hl 0 rfl) ?_
  refine va_get (ci := 0) (C := RX0) (T := TX0) (N := 11) hx hb hts hinX0 hown hK.1 hP 0 rfl rfl 6 (by decide) (hts _ (List.mem_of_getElem? (i := 1) rfl)) (fun _ h9 => h9) rfl dX0_refusalOfPowder_2 ?_
  refine kSiT hx hb hml hown hts hK hP gX0_refusalOfPowder_X4_nobody_n56 (hK.2 _ (List.mem_of_getElem? (i := 37) rfl)) (hts _ (List.mem_of_getElem? (i := 3) rfl)) (hts _ (List.mem_of_getElem? (i := 2) rfl)) okX4_nobody (qX4_nobody l D cI cB a (nI (sn_ B)) ) [] rfl (by decide) hl.1 rfl rfl (Nat.le_of_ble_eq_true rfl) dX0_refusalOfPowder_5 (by decide) (fun r_1 hr_2 => ?_)
  replace hr_2 : r_1 = nb_ a (nI (sn_ B)) := hr_2
  subst r_1
  refine lv_iload_n hx hb dX0_refusalOfPowder_8 rfl (lv_at hl 2 rfl) ?_
  refine lv_iconst (v := 0) hx hb dX0_refusalOfPowder_9 (by decide) ?_
  refine lv_bipush (v := 99) hx hb dX0_refusalOfPowder_10 (by decide) ?_
  refine kSiT hx hb hml hown hts hK hP gX0_refusalOfPowder_X4_outside_n60 (hK.2 _ (List.mem_of_getElem? (i := 38) rfl)) (hts _ (List.mem_of_getElem? (i := 3) rfl)) (hts _ (List.mem_of_getElem? (i := 5) rfl)) okX4_outside (qX4_outside l D cI cB v 0 99 ) [] rfl (by decide) hl.1 rfl rfl (Nat.le_of_ble_eq_true rfl) dX0_refusalOfPowder_12 (by decide) (fun r_3 hr_4 => ?_)
  replace hr_4 : r_3 = ob_ v 0 99 := hr_4
  subst r_3
  refine kSiT hx hb hml hown hts hK hP gX0_refusalOfPowder_X4_firstOf_n64 (hK.2 _ (List.mem_of_getElem? (i := 39) rfl)) (hts _ (List.mem_of_getElem? (i := 3) rfl)) (hts _ (List.mem_of_getElem? (i := 10) rfl)) okX4_firstOf (qX4_firstOf l D cI cB (nb_ a (nI (sn_ B))) (ob_ v 0 99) ) [] rfl (by decide) hl.1 rfl rfl (Nat.le_of_ble_eq_true rfl) dX0_refusalOfPowder_15 (by decide) (fun r_5 hr_6 => ?_)
  replace hr_6 : r_5 = f2_ (nb_ a (nI (sn_ B))) (ob_ v 0 99) := hr_6
  subst r_5
  refine rSi hx hb hr hlk ?_ dX0_refusalOfPowder_18
  show (f2_ (nb_ a (nI (sn_ B))) (ob_ v 0 99)) = _
  rfl

theorem okX0_refusalOfIsle : jok yX0_refusalOfIsle wsX0_refusalOfIsle cX0_refusalOfIsle 4 (some .int) 2 := ⟨⟨_, rfl⟩, by decide +kernel, by decide +kernel⟩
set_option maxHeartbeats 1000000 in
set_option maxRecDepth 100000 in
theorem qX0_refusalOfIsle (l : Launch) (D : va_G) (cI cB : ClassId) (g : Nat → Nat) (i0 : Nat) (B : BayT) (w : Int32) (v : Int32) (hn7 : sn_ B ≤ 7) : jSi D cI cB l yX0_refusalOfIsle wsX0_refusalOfIsle 2 [.ref (g i0), .int w, .int v] (bW cI g i0 B) (fun r => r = f2_ (uk_ w 1) (if w = 0 then ob_ v 0 30 else ob_ v 1 5)) := by
  refine jSi.of (cc := cX0_refusalOfIsle) (maxL := 4) (ret := (some .int)) okX0_refusalOfIsle (Nat.le_of_ble_eq_true rfl) ?_
  intro p e s m below meth c ls hx hb hr hts hown hlk hml hP hK hl
  replace hown : s.vm.findClass RX0 = some m.cls := hown
  replace hl : lv_has ls 4 [(0, .ref (g i0)), (1, .int w), (2, .int v)] := hl
  refine lv_iload_n hx hb dX0_refusalOfIsle_0 rfl (lv_at hl 1 rfl) ?_
  refine lv_if_ne (tgt := 14) hx hb dX0_refusalOfIsle_1 (by decide) (fun c_1 => ?_) (fun c_1 => ?_)
  · skip
    refine lv_iload_n hx hb dX0_refusalOfIsle_14 rfl (lv_at hl 2 rfl) ?_
    refine lv_iconst (v := 1) hx hb dX0_refusalOfIsle_15 (by decide) ?_
    refine lv_iconst (v := 5) hx hb dX0_refusalOfIsle_16 (by decide) ?_
    refine kSiT hx hb hml hown hts hK hP gX0_refusalOfIsle_X4_outside_n60 (hK.2 _ (List.mem_of_getElem? (i := 38) rfl)) (hts _ (List.mem_of_getElem? (i := 2) rfl)) (hts _ (List.mem_of_getElem? (i := 1) rfl)) okX4_outside (qX4_outside l D cI cB v 1 5 ) [] rfl (by decide) hl.1 rfl rfl (Nat.le_of_ble_eq_true rfl) dX0_refusalOfIsle_17 (by decide) (fun r_1 hr_2 => ?_)
    replace hr_2 : r_1 = ob_ v 1 5 := hr_2
    subst r_1
    refine lv_istore_n (lv' := [(3, .int (ob_ v 1 5)), (0, .ref (g i0)), (1, .int w), (2, .int v)]) hx hb dX0_refusalOfIsle_20 rfl hl (by decide) rfl (fun ls hl => ?_)
    refine lv_iload_n hx hb dX0_refusalOfIsle_21 rfl (lv_at hl 2 rfl) ?_
    refine lv_iconst (v := 1) hx hb dX0_refusalOfIsle_22 (by decide) ?_
    refine kSiT hx hb hml hown hts hK hP gX0_refusalOfIsle_X4_unknown_n67 (hK.2 _ (List.mem_of_getElem? (i := 42) rfl)) (hts _ (List.mem_of_getElem? (i := 2) rfl)) (hts _ (List.mem_of_getElem? (i := 7) rfl)) okX4_unknown (qX4_unknown l D cI cB w 1 ) [] rfl (by decide) hl.1 rfl rfl (Nat.le_of_ble_eq_true rfl) dX0_refusalOfIsle_23 (by decide) (fun r_3 hr_4 => ?_)
    replace hr_4 : r_3 = uk_ w 1 := hr_4
    subst r_3
    refine lv_iload_n hx hb dX0_refusalOfIsle_26 rfl (lv_at hl 0 rfl) ?_
    refine kSiT hx hb hml hown hts hK hP gX0_refusalOfIsle_X4_firstOf_n64 (hK.2 _ (List.mem_of_getElem? (i := 39) rfl)) (hts _ (List.mem_of_getElem? (i := 2) rfl)) (hts _ (List.mem_of_getElem? (i := 9) rfl)) okX4_firstOf (qX4_firstOf l D cI cB (uk_ w 1) (ob_ v 1 5) ) [] rfl (by decide) hl.1 rfl rfl (Nat.le_of_ble_eq_true rfl) dX0_refusalOfIsle_27 (by decide) (fun r_5 hr_6 => ?_)
    replace hr_6 : r_5 = f2_ (uk_ w 1) (ob_ v 1 5) := hr_6
    subst r_5
    refine rSi hx hb hr hlk ?_ dX0_refusalOfIsle_30
    show (f2_ (uk_ w 1) (ob_ v 1 5)) = _
    simp [*]
  · skip
    refine lv_iload_n hx hb dX0_refusalOfIsle_4 rfl (lv_at hl 2 rfl) ?_
    refine lv_iconst (v := 0) hx hb dX0_refusalOfIsle_5 (by decide) ?_
    refine lv_bipush (v := 30) hx hb dX0_refusalOfIsle_6 (by decide) ?_
    refine kSiT hx hb hml hown hts hK hP gX0_refusalOfIsle_X4_outside_n60 (hK.2 _ (List.mem_of_getElem? (i := 38) rfl)) (hts _ (List.mem_of_getElem? (i := 2) rfl)) (hts _ (List.mem_of_getElem? (i := 1) rfl)) okX4_outside (qX4_outside l D cI cB v 0 30 ) [] rfl (by decide) hl.1 rfl rfl (Nat.le_of_ble_eq_true rfl) dX0_refusalOfIsle_8 (by decide) (fun r_7 hr_8 => ?_)
    replace hr_8 : r_7 = ob_ v 0 30 := hr_8
    subst r_7
    refine lv_goto (tgt := 20) hx hb dX0_refusalOfIsle_11 (by decide) ?_
    refine lv_istore_n (lv' := [(3, .int (ob_ v 0 30)), (0, .ref (g i0)), (1, .int w), (2, .int v)]) hx hb dX0_refusalOfIsle_20 rfl hl (by decide) rfl (fun ls hl => ?_)
    refine lv_iload_n hx hb dX0_refusalOfIsle_21 rfl (lv_at hl 2 rfl) ?_
    refine lv_iconst (v := 1) hx hb dX0_refusalOfIsle_22 (by decide) ?_
    refine kSiT hx hb hml hown hts hK hP gX0_refusalOfIsle_X4_unknown_n67 (hK.2 _ (List.mem_of_getElem? (i := 42) rfl)) (hts _ (List.mem_of_getElem? (i := 2) rfl)) (hts _ (List.mem_of_getElem? (i := 7) rfl)) okX4_unknown (qX4_unknown l D cI cB w 1 ) [] rfl (by decide) hl.1 rfl rfl (Nat.le_of_ble_eq_true rfl) dX0_refusalOfIsle_23 (by decide) (fun r_9 hr_10 => ?_)
    replace hr_10 : r_9 = uk_ w 1 := hr_10
    subst r_9
    refine lv_iload_n hx hb dX0_refusalOfIsle_26 rfl (lv_at hl 0 rfl) ?_
    refine kSiT hx hb hml hown hts hK hP gX0_refusalOfIsle_X4_firstOf_n64 (hK.2 _ (List.mem_of_getElem? (i := 39) rfl)) (hts _ (List.mem_of_getElem? (i := 2) rfl)) (hts _ (List.mem_of_getElem? (i := 9) rfl)) okX4_firstOf (qX4_firstOf l D cI cB (uk_ w 1) (ob_ v 0 30) ) [] rfl (by decide) hl.1 rfl rfl (Nat.le_of_ble_eq_true rfl) dX0_refusalOfIsle_27 (by decide) (fun r_11 hr_12 => ?_)
    replace hr_12 : r_11 = f2_ (uk_ w 1) (ob_ v 0 30) := hr_12
    subst r_11
    refine rSi hx hb hr hlk ?_ dX0_refusalOfIsle_30
    show (f2_ (uk_ w 1) (ob_ v 0 30)) = _
    simp [*]

theorem okX0_refusalOfHours : jok yX0_refusalOfHours wsX0_refusalOfHours cX0_refusalOfHours 3 (some .int) 1 := ⟨⟨_, rfl⟩, by decide +kernel, by decide +kernel⟩
set_option maxHeartbeats 1000000 in
set_option maxRecDepth 100000 in
theorem qX0_refusalOfHours (l : Launch) (D : va_G) (cI cB : ClassId) (g : Nat → Nat) (i0 : Nat) (B : BayT) (n : Int32) (hn7 : sn_ B ≤ 7) : jSi D cI cB l yX0_refusalOfHours wsX0_refusalOfHours 2 [.ref (g i0), .int n] (bW cI g i0 B) (fun r => r = rh_ B n) := by
  refine jSi.of (cc := cX0_refusalOfHours) (maxL := 3) (ret := (some .int)) okX0_refusalOfHours (Nat.le_of_ble_eq_true rfl) ?_
  intro p e s m below meth c ls hx hb hr hts hown hlk hml hP hK hl
  replace hown : s.vm.findClass RX0 = some m.cls := hown
  replace hl : lv_has ls 3 [(0, .ref (g i0)), (1, .int n)] := hl
  have hinX0 : ∀ w ∈ wsX00, w ∈ wsX0_refusalOfHours := by decide +kernel
  refine lv_iload_n hx hb dX0_refusalOfHours_0 rfl (lv_at hl 1 rfl) ?_
  refine lv_iconst (v := 1) hx hb dX0_refusalOfHours_1 (by decide) ?_
  refine lv_bipush (v := 99) hx hb dX0_refusalOfHours_2 (by decide) ?_
  refine kSiT hx hb hml hown hts hK hP gX0_refusalOfHours_X4_outside_n60 (hK.2 _ (List.mem_of_getElem? (i := 38) rfl)) (hts _ (List.mem_of_getElem? (i := 4) rfl)) (hts _ (List.mem_of_getElem? (i := 3) rfl)) okX4_outside (qX4_outside l D cI cB n 1 99 ) [] rfl (by decide) hl.1 rfl rfl (Nat.le_of_ble_eq_true rfl) dX0_refusalOfHours_4 (by decide) (fun r_1 hr_2 => ?_)
  replace hr_2 : r_1 = ob_ n 1 99 := hr_2
  subst r_1
  refine lv_istore_n (lv' := [(2, .int (ob_ n 1 99)), (0, .ref (g i0)), (1, .int n)]) hx hb dX0_refusalOfHours_7 rfl hl (by decide) rfl (fun ls hl => ?_)
  refine lv_iload_n hx hb dX0_refusalOfHours_8 rfl (lv_at hl 0 rfl) ?_
  refine lv_if_eq (tgt := 14) hx hb dX0_refusalOfHours_9 (by decide) (fun c_9 => ?_) (fun c_9 => ?_)
  · refine lv_aload_n hx hb dX0_refusalOfHours_14 rfl (lv_at hl 1 rfl) ?_
    refine va_get (ci := 0) (C := RX0) (T := TX0) (N := 11) hx hb hts hinX0 hown hK.1 hP 0 rfl rfl 10 (by decide) (hts _ (List.mem_of_getElem? (i := 1) rfl)) (fun _ h9 => h9) rfl dX0_refusalOfHours_15 ?_
    refine lv_aload_n hx hb dX0_refusalOfHours_18 rfl (lv_at hl 1 rfl) ?_
    refine va_get (ci := 0) (C := RX0) (T := TX0) (N := 11) hx hb hts hinX0 hown hK.1 hP 0 rfl rfl 9 (by decide) (hts _ (List.mem_of_getElem? (i := 2) rfl)) (fun _ h9 => h9) rfl dX0_refusalOfHours_19 ?_
    refine lv_iload_n hx hb dX0_refusalOfHours_22 rfl (lv_at hl 2 rfl) ?_
    refine lv_iadd hx hb dX0_refusalOfHours_23 ?_
    refine lv_bipush (v := 24) hx hb dX0_refusalOfHours_24 (by decide) ?_
    refine lv_idiv hx hb dX0_refusalOfHours_26 (by decide) ?_
    refine lv_iadd hx hb dX0_refusalOfHours_27 ?_
    refine lv_sipush (v := 999) hx hb dX0_refusalOfHours_28 (by decide) ?_
    refine lv_icmp_le (tgt := 39) hx hb dX0_refusalOfHours_31 (by decide) (fun c_31 => ?_) (fun c_31 => ?_)
    · have d_31 := Int32.not_lt.mpr c_31
      refine lv_iconst (v := 0) hx hb dX0_refusalOfHours_39 (by decide) ?_
      refine rSi hx hb hr hlk ?_ dX0_refusalOfHours_40
      show 0 = _
      first | (unfold rh_; simp [*]; done) | exact rh_e c_9 d_31 | exact rh_e2 c_9 d_31 | exact rh_n c_9
    · have d_31 := Int32.not_le.mp c_31
      refine lv_bipush (v := (-6)) hx hb dX0_refusalOfHours_34 (by decide) ?_
      refine lv_goto (tgt := 40) hx hb dX0_refusalOfHours_36 (by decide) ?_
      refine rSi hx hb hr hlk ?_ dX0_refusalOfHours_40
      show (-6) = _
      first | (unfold rh_; simp [*]; done) | exact rh_e c_9 d_31 | exact rh_e2 c_9 d_31 | exact rh_n c_9
  · refine lv_iload_n hx hb dX0_refusalOfHours_12 rfl (lv_at hl 0 rfl) ?_
    refine rSi hx hb hr hlk ?_ dX0_refusalOfHours_13
    show (ob_ n 1 99) = _
    first | (unfold rh_; simp [*]; done) | exact rh_e c_9 d_31 | exact rh_e2 c_9 d_31 | exact rh_n c_9

theorem okX0_add : jok yX0_add wsX0_add cX0_add 4 none 3 := ⟨⟨_, rfl⟩, by decide +kernel, by decide +kernel⟩
set_option maxHeartbeats 1000000 in
set_option maxRecDepth 100000 in
theorem qX0_add (l : Launch) (D : va_G) (cI cB : ClassId) (g : Nat → Nat) (i0 : Nat) (B : BayT) (w : Int32) (f : Int32) (v : Int32) (hn7 : sn_ B ≤ 7) : jMv D cI cB l yX0_add wsX0_add 0 [.ref (g i0), .int w, .int f, .int v] (bW cI g i0 B) (S := BayT) (fun u => u = ad_ B w f v) (fun u => bW cI g i0 u) := by
  refine jMv.of (cc := cX0_add) (maxL := 4) (ret := none) okX0_add (Nat.le_of_ble_eq_true rfl) ?_
  intro p e s m below meth c ls A hx hb hr hts hown hlk hml hP hK hD hA hS hl
  replace hown : s.vm.findClass RX0 = some m.cls := hown
  replace hl : lv_has ls 4 [(0, .ref (g i0)), (1, .int w), (2, .int f), (3, .int v)] := hl
  have hinX0 : ∀ w ∈ wsX00, w ∈ wsX0_add := by decide +kernel
  refine lv_aload_n hx hb dX0_add_0 rfl (lv_at hl 0 rfl) ?_
  refine va_get (ci := 0) (C := RX0) (T := TX0) (N := 11) hx hb hts hinX0 hown hK.1 hP 0 rfl rfl 6 (by decide) (hts _ (List.mem_of_getElem? (i := 1) rfl)) (fun _ h9 => h9) rfl dX0_add_1 ?_
  refine lv_bipush (v := 7) hx hb dX0_add_4 (by decide) ?_
  refine lv_icmp_ge (tgt := 70) hx hb dX0_add_6 (by decide) (fun c_6 => ?_) (fun c_6 => ?_)
  · replace c_6 : nI 7 ≤ nI (sn_ B) := c_6
    rw [jle (by omega) (by omega)] at c_6
    refine rMv hx hb hr hlk hS B hP ?_ dX0_add_70
    first | (unfold ad_; rw [if_pos (by omega)]) | (unfold ad_; rw [if_neg (by omega)])
  · replace c_6 : ¬ nI 7 ≤ nI (sn_ B) := c_6
    rw [jle (by omega) (by omega)] at c_6
    refine lv_aload_n hx hb dX0_add_9 rfl (lv_at hl 0 rfl) ?_
    refine va_get (ci := 0) (C := RX0) (T := TX0) (N := 11) hx hb hts hinX0 hown hK.1 hP 0 rfl rfl 0 (by decide) (hts _ (List.mem_of_getElem? (i := 2) rfl)) (fun _ h9 => h9) rfl dX0_add_10 ?_
    refine lv_aload_n hx hb dX0_add_13 rfl (lv_at hl 0 rfl) ?_
    refine va_get (ci := 0) (C := RX0) (T := TX0) (N := 11) hx hb hts hinX0 hown hK.1 hP 0 rfl rfl 6 (by decide) (hts _ (List.mem_of_getElem? (i := 1) rfl)) (fun _ h9 => h9) rfl dX0_add_14 ?_
    refine lv_iload_n hx hb dX0_add_17 rfl (lv_at hl 1 rfl) ?_
    refine jast hx hb hK.1 hP hD hS 1 0 (sn_ B) rfl rfl rfl (by omega) (Nat.le_of_ble_eq_true rfl) dX0_add_18 (fun f_1 ef_1 H locs hP hD hS => ?_)
    replace ef_1 : f_1 = upd (kd_ B) (sn_ B) w := ef_1
    replace hP : va_P D vwCl (bW cI g i0 (mkB f_1 (fg_ B) (pl_ B) (pw_ B) (jy_ B) (qt_ B) (sn_ B) (il_ B) (pa_ B) (ho_ B) (dy_ B))) H := hP
    replace hD : va_D A (bW cI g i0 (mkB f_1 (fg_ B) (pl_ B) (pw_ B) (jy_ B) (qt_ B) (sn_ B) (il_ B) (pa_ B) (ho_ B) (dy_ B))) := hD
    refine lv_aload_n hx hb dX0_add_19 rfl (lv_at hl 0 rfl) ?_
    refine va_get (ci := 0) (C := RX0) (T := TX0) (N := 11) hx hb hts hinX0 hown hK.1 hP 0 rfl rfl 1 (by decide) (hts _ (List.mem_of_getElem? (i := 3) rfl)) (fun _ h9 => h9) rfl dX0_add_20 ?_
    refine lv_aload_n hx hb dX0_add_23 rfl (lv_at hl 0 rfl) ?_
    refine va_get (ci := 0) (C := RX0) (T := TX0) (N := 11) hx hb hts hinX0 hown hK.1 hP 0 rfl rfl 6 (by decide) (hts _ (List.mem_of_getElem? (i := 1) rfl)) (fun _ h9 => h9) rfl dX0_add_24 ?_
    refine lv_iload_n hx hb dX0_add_27 rfl (lv_at hl 2 rfl) ?_
    refine jast hx hb hK.1 hP hD hS 2 0 (sn_ B) rfl rfl rfl (by omega) (Nat.le_of_ble_eq_true rfl) dX0_add_28 (fun f_2 ef_2 H locs hP hD hS => ?_)
    replace ef_2 : f_2 = upd (fg_ B) (sn_ B) f := ef_2
    replace hP : va_P D vwCl (bW cI g i0 (mkB f_1 f_2 (pl_ B) (pw_ B) (jy_ B) (qt_ B) (sn_ B) (il_ B) (pa_ B) (ho_ B) (dy_ B))) H := hP
    replace hD : va_D A (bW cI g i0 (mkB f_1 f_2 (pl_ B) (pw_ B) (jy_ B) (qt_ B) (sn_ B) (il_ B) (pa_ B) (ho_ B) (dy_ B))) := hD
    refine lv_aload_n hx hb dX0_add_29 rfl (lv_at hl 0 rfl) ?_
    refine va_get (ci := 0) (C := RX0) (T := TX0) (N := 11) hx hb hts hinX0 hown hK.1 hP 0 rfl rfl 2 (by decide) (hts _ (List.mem_of_getElem? (i := 4) rfl)) (fun _ h9 => h9) rfl dX0_add_30 ?_
    refine lv_aload_n hx hb dX0_add_33 rfl (lv_at hl 0 rfl) ?_
    refine va_get (ci := 0) (C := RX0) (T := TX0) (N := 11) hx hb hts hinX0 hown hK.1 hP 0 rfl rfl 6 (by decide) (hts _ (List.mem_of_getElem? (i := 1) rfl)) (fun _ h9 => h9) rfl dX0_add_34 ?_
    refine lv_iload_n hx hb dX0_add_37 rfl (lv_at hl 3 rfl) ?_
    refine jast hx hb hK.1 hP hD hS 3 0 (sn_ B) rfl rfl rfl (by omega) (Nat.le_of_ble_eq_true rfl) dX0_add_38 (fun f_3 ef_3 H locs hP hD hS => ?_)
    replace ef_3 : f_3 = upd (pl_ B) (sn_ B) v := ef_3
    replace hP : va_P D vwCl (bW cI g i0 (mkB f_1 f_2 f_3 (pw_ B) (jy_ B) (qt_ B) (sn_ B) (il_ B) (pa_ B) (ho_ B) (dy_ B))) H := hP
    replace hD : va_D A (bW cI g i0 (mkB f_1 f_2 f_3 (pw_ B) (jy_ B) (qt_ B) (sn_ B) (il_ B) (pa_ B) (ho_ B) (dy_ B))) := hD
    refine lv_aload_n hx hb dX0_add_39 rfl (lv_at hl 0 rfl) ?_
    refine va_get (ci := 0) (C := RX0) (T := TX0) (N := 11) hx hb hts hinX0 hown hK.1 hP 0 rfl rfl 3 (by decide) (hts _ (List.mem_of_getElem? (i := 5) rfl)) (fun _ h9 => h9) rfl dX0_add_40 ?_
    refine lv_aload_n hx hb dX0_add_43 rfl (lv_at hl 0 rfl) ?_
    refine va_get (ci := 0) (C := RX0) (T := TX0) (N := 11) hx hb hts hinX0 hown hK.1 hP 0 rfl rfl 6 (by decide) (hts _ (List.mem_of_getElem? (i := 1) rfl)) (fun _ h9 => h9) rfl dX0_add_44 ?_
    refine lv_bipush (v := 9) hx hb dX0_add_47 (by decide) ?_
    refine jast hx hb hK.1 hP hD hS 4 0 (sn_ B) rfl rfl rfl (by omega) (Nat.le_of_ble_eq_true rfl) dX0_add_49 (fun f_4 ef_4 H locs hP hD hS => ?_)
    replace ef_4 : f_4 = upd (pw_ B) (sn_ B) 9 := ef_4
    replace hP : va_P D vwCl (bW cI g i0 (mkB f_1 f_2 f_3 f_4 (jy_ B) (qt_ B) (sn_ B) (il_ B) (pa_ B) (ho_ B) (dy_ B))) H := hP
    replace hD : va_D A (bW cI g i0 (mkB f_1 f_2 f_3 f_4 (jy_ B) (qt_ B) (sn_ B) (il_ B) (pa_ B) (ho_ B) (dy_ B))) := hD
    refine lv_aload_n hx hb dX0_add_50 rfl (lv_at hl 0 rfl) ?_
    refine va_get (ci := 0) (C := RX0) (T := TX0) (N := 11) hx hb hts hinX0 hown hK.1 hP 0 rfl rfl 4 (by decide) (hts _ (List.mem_of_getElem? (i := 6) rfl)) (fun _ h9 => h9) rfl dX0_add_51 ?_
    refine lv_aload_n hx hb dX0_add_54 rfl (lv_at hl 0 rfl) ?_
    refine va_get (ci := 0) (C := RX0) (T := TX0) (N := 11) hx hb hts hinX0 hown hK.1 hP 0 rfl rfl 6 (by decide) (hts _ (List.mem_of_getElem? (i := 1) rfl)) (fun _ h9 => h9) rfl dX0_add_55 ?_
    refine lv_iconst (v := 0) hx hb dX0_add_58 (by decide) ?_
    refine jast hx hb hK.1 hP hD hS 5 0 (sn_ B) rfl rfl rfl (by omega) (Nat.le_of_ble_eq_true rfl) dX0_add_59 (fun f_5 ef_5 H locs hP hD hS => ?_)
    replace ef_5 : f_5 = upd (jy_ B) (sn_ B) 0 := ef_5
    replace hP : va_P D vwCl (bW cI g i0 (mkB f_1 f_2 f_3 f_4 f_5 (qt_ B) (sn_ B) (il_ B) (pa_ B) (ho_ B) (dy_ B))) H := hP
    replace hD : va_D A (bW cI g i0 (mkB f_1 f_2 f_3 f_4 f_5 (qt_ B) (sn_ B) (il_ B) (pa_ B) (ho_ B) (dy_ B))) := hD
    refine lv_aload_n hx hb dX0_add_60 rfl (lv_at hl 0 rfl) ?_
    refine lv_dup hx hb dX0_add_61 rfl ?_
    refine va_get (ci := 0) (C := RX0) (T := TX0) (N := 11) hx hb hts hinX0 hown hK.1 hP 0 rfl rfl 6 (by decide) (hts _ (List.mem_of_getElem? (i := 1) rfl)) (fun _ h9 => h9) rfl dX0_add_62 ?_
    refine lv_iconst (v := 1) hx hb dX0_add_65 (by decide) ?_
    refine lv_iadd hx hb dX0_add_66 ?_
    refine sti (x := (nI (sn_ B)) + 1) (y := nI (sn_ B + 1)) (nI_1 _) ?_
    refine va_put (ci := 0) (ty := .int) (C := RX0) (T := TX0) (N := 11) hx hb hts hinX0 tyX0 tyX0_ok nmX0 hown hK.1 hP hD hS 0 rfl rfl 6 (by decide) (hts _ (List.mem_of_getElem? (i := 1) rfl)) (fun _ h9 => h9) rfl (by decide +kernel) (rfl) (rfl) (Nat.le_of_ble_eq_true rfl) dX0_add_67 (fun H locs hP hD hS => ?_)
    replace hP : va_P D vwCl (bW cI g i0 (mkB f_1 f_2 f_3 f_4 f_5 (qt_ B) (sn_ B + 1) (il_ B) (pa_ B) (ho_ B) (dy_ B))) H := hP
    replace hD : va_D A (bW cI g i0 (mkB f_1 f_2 f_3 f_4 f_5 (qt_ B) (sn_ B + 1) (il_ B) (pa_ B) (ho_ B) (dy_ B))) := hD
    (try rw [ef_5] at hP); (try rw [ef_5] at hD); (try rw [ef_5] at hl); (try rw [ef_5] at c_6); (try rw [ef_5])
    (try rw [ef_4] at hP); (try rw [ef_4] at hD); (try rw [ef_4] at hl); (try rw [ef_4] at c_6); (try rw [ef_4])
    (try rw [ef_3] at hP); (try rw [ef_3] at hD); (try rw [ef_3] at hl); (try rw [ef_3] at c_6); (try rw [ef_3])
    (try rw [ef_2] at hP); (try rw [ef_2] at hD); (try rw [ef_2] at hl); (try rw [ef_2] at c_6); (try rw [ef_2])
    (try rw [ef_1] at hP); (try rw [ef_1] at hD); (try rw [ef_1] at hl); (try rw [ef_1] at c_6); (try rw [ef_1])
    refine rMv hx hb hr hlk hS (mkB (upd (kd_ B) (sn_ B) w) (upd (fg_ B) (sn_ B) f) (upd (pl_ B) (sn_ B) v) (upd (pw_ B) (sn_ B) 9) (upd (jy_ B) (sn_ B) 0) (qt_ B) (sn_ B + 1) (il_ B) (pa_ B) (ho_ B) (dy_ B)) hP ?_ dX0_add_70
    first | (unfold ad_; rw [if_pos (by omega)]) | (unfold ad_; rw [if_neg (by omega)])

theorem okX0_setPowder : jok yX0_setPowder wsX0_setPowder cX0_setPowder 3 none 2 := ⟨⟨_, rfl⟩, by decide +kernel, by decide +kernel⟩
set_option maxHeartbeats 1000000 in
set_option maxRecDepth 100000 in
theorem qX0_setPowder (l : Launch) (D : va_G) (cI cB : ClassId) (g : Nat → Nat) (i0 : Nat) (B : BayT) (k : Nat) (v : Int32) (hn7 : sn_ B ≤ 7) (hk : k < 7) : jMv D cI cB l yX0_setPowder wsX0_setPowder 0 [.ref (g i0), .int (nI k), .int v] (bW cI g i0 B) (S := BayT) (fun u => u = uw_ B k v) (fun u => bW cI g i0 u) := by
  refine jMv.of (cc := cX0_setPowder) (maxL := 3) (ret := none) okX0_setPowder (Nat.le_of_ble_eq_true rfl) ?_
  intro p e s m below meth c ls A hx hb hr hts hown hlk hml hP hK hD hA hS hl
  replace hown : s.vm.findClass RX0 = some m.cls := hown
  replace hl : lv_has ls 3 [(0, .ref (g i0)), (1, .int (nI k)), (2, .int v)] := hl
  have hinX0 : ∀ w ∈ wsX00, w ∈ wsX0_setPowder := by decide +kernel
  refine lv_aload_n hx hb dX0_setPowder_0 rfl (lv_at hl 0 rfl) ?_
  refine va_get (ci := 0) (C := RX0) (T := TX0) (N := 11) hx hb hts hinX0 hown hK.1 hP 0 rfl rfl 3 (by decide) (hts _ (List.mem_of_getElem? (i := 1) rfl)) (fun _ h9 => h9) rfl dX0_setPowder_1 ?_
  refine lv_iload_n hx hb dX0_setPowder_4 rfl (lv_at hl 1 rfl) ?_
  refine lv_iload_n hx hb dX0_setPowder_5 rfl (lv_at hl 2 rfl) ?_
  refine jast hx hb hK.1 hP hD hS 4 0 k rfl rfl rfl (by omega) (Nat.le_of_ble_eq_true rfl) dX0_setPowder_6 (fun f_1 ef_1 H locs hP hD hS => ?_)
  replace ef_1 : f_1 = upd (pw_ B) k v := ef_1
  replace hP : va_P D vwCl (bW cI g i0 (mkB (kd_ B) (fg_ B) (pl_ B) f_1 (jy_ B) (qt_ B) (sn_ B) (il_ B) (pa_ B) (ho_ B) (dy_ B))) H := hP
  replace hD : va_D A (bW cI g i0 (mkB (kd_ B) (fg_ B) (pl_ B) f_1 (jy_ B) (qt_ B) (sn_ B) (il_ B) (pa_ B) (ho_ B) (dy_ B))) := hD
  (try rw [ef_1] at hP); (try rw [ef_1] at hD); (try rw [ef_1] at hl); (try rw [ef_1])
  refine rMv hx hb hr hlk hS (mkB (kd_ B) (fg_ B) (pl_ B) (upd (pw_ B) k v) (jy_ B) (qt_ B) (sn_ B) (il_ B) (pa_ B) (ho_ B) (dy_ B)) hP ?_ dX0_setPowder_7
  rfl

theorem okX0_turnQuiet : jok yX0_turnQuiet wsX0_turnQuiet cX0_turnQuiet 2 none 1 := ⟨⟨_, rfl⟩, by decide +kernel, by decide +kernel⟩
set_option maxHeartbeats 1000000 in
set_option maxRecDepth 100000 in
theorem qX0_turnQuiet (l : Launch) (D : va_G) (cI cB : ClassId) (g : Nat → Nat) (i0 : Nat) (B : BayT) (k : Nat) (hn7 : sn_ B ≤ 7) (hk : k < 7) : jMv D cI cB l yX0_turnQuiet wsX0_turnQuiet 0 [.ref (g i0), .int (nI k)] (bW cI g i0 B) (S := BayT) (fun u => u = uq_ B (qt_ B ^^^ ((1 : Int32) <<< (nI k &&& 31)))) (fun u => bW cI g i0 u) := by
  refine jMv.of (cc := cX0_turnQuiet) (maxL := 2) (ret := none) okX0_turnQuiet (Nat.le_of_ble_eq_true rfl) ?_
  intro p e s m below meth c ls A hx hb hr hts hown hlk hml hP hK hD hA hS hl
  replace hown : s.vm.findClass RX0 = some m.cls := hown
  replace hl : lv_has ls 2 [(0, .ref (g i0)), (1, .int (nI k))] := hl
  have hinX0 : ∀ w ∈ wsX00, w ∈ wsX0_turnQuiet := by decide +kernel
  refine lv_aload_n hx hb dX0_turnQuiet_0 rfl (lv_at hl 0 rfl) ?_
  refine lv_dup hx hb dX0_turnQuiet_1 rfl ?_
  refine va_get (ci := 0) (C := RX0) (T := TX0) (N := 11) hx hb hts hinX0 hown hK.1 hP 0 rfl rfl 5 (by decide) (hts _ (List.mem_of_getElem? (i := 1) rfl)) (fun _ h9 => h9) rfl dX0_turnQuiet_2 ?_
  refine lv_iconst (v := 1) hx hb dX0_turnQuiet_5 (by decide) ?_
  refine lv_iload_n hx hb dX0_turnQuiet_6 rfl (lv_at hl 1 rfl) ?_
  refine lv_ishl hx hb dX0_turnQuiet_7 ?_
  refine lv_ixor hx hb dX0_turnQuiet_8 ?_
  refine lv_topi (fun y_1 ey_1 => ?_)
  replace ey_1 : y_1 = (qt_ B) ^^^ (1 <<< ((nI k) &&& 31)) := ey_1
  refine va_put (ci := 0) (ty := .int) (C := RX0) (T := TX0) (N := 11) hx hb hts hinX0 tyX0 tyX0_ok nmX0 hown hK.1 hP hD hS 0 rfl rfl 5 (by decide) (hts _ (List.mem_of_getElem? (i := 1) rfl)) (fun _ h9 => h9) rfl (by decide +kernel) (rfl) (rfl) (Nat.le_of_ble_eq_true rfl) dX0_turnQuiet_9 (fun H locs hP hD hS => ?_)
  replace hP : va_P D vwCl (bW cI g i0 (mkB (kd_ B) (fg_ B) (pl_ B) (pw_ B) (jy_ B) y_1 (sn_ B) (il_ B) (pa_ B) (ho_ B) (dy_ B))) H := hP
  replace hD : va_D A (bW cI g i0 (mkB (kd_ B) (fg_ B) (pl_ B) (pw_ B) (jy_ B) y_1 (sn_ B) (il_ B) (pa_ B) (ho_ B) (dy_ B))) := hD
  (try rw [ey_1] at hP); (try rw [ey_1] at hD); (try rw [ey_1] at hl); (try rw [ey_1])
  refine rMv hx hb hr hlk hS (mkB (kd_ B) (fg_ B) (pl_ B) (pw_ B) (jy_ B) ((qt_ B) ^^^ (1 <<< ((nI k) &&& 31))) (sn_ B) (il_ B) (pa_ B) (ho_ B) (dy_ B)) hP ?_ dX0_turnQuiet_12
  rfl

theorem okX0_setQuiet : jok yX0_setQuiet wsX0_setQuiet cX0_setQuiet 3 none 2 := ⟨⟨_, rfl⟩, by decide +kernel, by decide +kernel⟩
set_option maxHeartbeats 1000000 in
set_option maxRecDepth 100000 in
theorem qX0_setQuiet (l : Launch) (D : va_G) (cI cB : ClassId) (g : Nat → Nat) (i0 : Nat) (B : BayT) (k : Nat) (z : Prop) (iz : Decidable z) (hn7 : sn_ B ≤ 7) (hk : k < 7) : jMv D cI cB l yX0_setQuiet wsX0_setQuiet 0 [.ref (g i0), .int (nI k), .int (b1 z)] (bW cI g i0 B) (S := BayT) (fun u => u = uq_ B (sq_ z (qt_ B) k)) (fun u => bW cI g i0 u) := by
  refine jMv.of (cc := cX0_setQuiet) (maxL := 3) (ret := none) okX0_setQuiet (Nat.le_of_ble_eq_true rfl) ?_
  intro p e s m below meth c ls A hx hb hr hts hown hlk hml hP hK hD hA hS hl
  replace hown : s.vm.findClass RX0 = some m.cls := hown
  replace hl : lv_has ls 3 [(0, .ref (g i0)), (1, .int (nI k)), (2, .int (b1 z))] := hl
  have hinX0 : ∀ w ∈ wsX00, w ∈ wsX0_setQuiet := by decide +kernel
  refine lv_aload_n hx hb dX0_setQuiet_0 rfl (lv_at hl 0 rfl) ?_
  refine lv_iload_n hx hb dX0_setQuiet_1 rfl (lv_at hl 2 rfl) ?_
  refine lv_if_eq (tgt := 16) hx hb dX0_setQuiet_2 (by decide) (fun c_2 => ?_) (fun c_2 => ?_)
  · replace c_2 := b1_z c_2
    refine lv_aload_n hx hb dX0_setQuiet_16 rfl (lv_at hl 0 rfl) ?_
    refine va_get (ci := 0) (C := RX0) (T := TX0) (N := 11) hx hb hts hinX0 hown hK.1 hP 0 rfl rfl 5 (by decide) (hts _ (List.mem_of_getElem? (i := 1) rfl)) (fun _ h9 => h9) rfl dX0_setQuiet_17 ?_
    refine lv_iconst (v := 1) hx hb dX0_setQuiet_20 (by decide) ?_
    refine lv_iload_n hx hb dX0_setQuiet_21 rfl (lv_at hl 1 rfl) ?_
    refine lv_ishl hx hb dX0_setQuiet_22 ?_
    refine lv_iconst (v := (-1)) hx hb dX0_setQuiet_23 (by decide) ?_
    refine lv_ixor hx hb dX0_setQuiet_24 ?_
    refine lv_iand hx hb dX0_setQuiet_25 ?_
    refine lv_topi (fun y_1 ey_1 => ?_)
    replace ey_1 : y_1 = (qt_ B) &&& ((1 <<< ((nI k) &&& 31)) ^^^ (-1)) := ey_1
    refine va_put (ci := 0) (ty := .int) (C := RX0) (T := TX0) (N := 11) hx hb hts hinX0 tyX0 tyX0_ok nmX0 hown hK.1 hP hD hS 0 rfl rfl 5 (by decide) (hts _ (List.mem_of_getElem? (i := 1) rfl)) (fun _ h9 => h9) rfl (by decide +kernel) (rfl) (rfl) (Nat.le_of_ble_eq_true rfl) dX0_setQuiet_26 (fun H locs hP hD hS => ?_)
    replace hP : va_P D vwCl (bW cI g i0 (mkB (kd_ B) (fg_ B) (pl_ B) (pw_ B) (jy_ B) y_1 (sn_ B) (il_ B) (pa_ B) (ho_ B) (dy_ B))) H := hP
    replace hD : va_D A (bW cI g i0 (mkB (kd_ B) (fg_ B) (pl_ B) (pw_ B) (jy_ B) y_1 (sn_ B) (il_ B) (pa_ B) (ho_ B) (dy_ B))) := hD
    (try rw [ey_1] at hP); (try rw [ey_1] at hD); (try rw [ey_1] at hl); (try rw [ey_1] at c_2); (try rw [ey_1])
    refine rMv hx hb hr hlk hS (mkB (kd_ B) (fg_ B) (pl_ B) (pw_ B) (jy_ B) ((qt_ B) &&& ((1 <<< ((nI k) &&& 31)) ^^^ (-1))) (sn_ B) (il_ B) (pa_ B) (ho_ B) (dy_ B)) hP ?_ dX0_setQuiet_29
    unfold sq_; first | (rw [if_pos (by assumption)]; rfl) | (rw [if_neg (by assumption)]; rfl)
  · replace c_2 := b1_n c_2
    refine lv_aload_n hx hb dX0_setQuiet_5 rfl (lv_at hl 0 rfl) ?_
    refine va_get (ci := 0) (C := RX0) (T := TX0) (N := 11) hx hb hts hinX0 hown hK.1 hP 0 rfl rfl 5 (by decide) (hts _ (List.mem_of_getElem? (i := 1) rfl)) (fun _ h9 => h9) rfl dX0_setQuiet_6 ?_
    refine lv_iconst (v := 1) hx hb dX0_setQuiet_9 (by decide) ?_
    refine lv_iload_n hx hb dX0_setQuiet_10 rfl (lv_at hl 1 rfl) ?_
    refine lv_ishl hx hb dX0_setQuiet_11 ?_
    refine lv_ior hx hb dX0_setQuiet_12 ?_
    refine lv_goto (tgt := 26) hx hb dX0_setQuiet_13 (by decide) ?_
    refine lv_topi (fun y_2 ey_2 => ?_)
    replace ey_2 : y_2 = (qt_ B) ||| (1 <<< ((nI k) &&& 31)) := ey_2
    refine va_put (ci := 0) (ty := .int) (C := RX0) (T := TX0) (N := 11) hx hb hts hinX0 tyX0 tyX0_ok nmX0 hown hK.1 hP hD hS 0 rfl rfl 5 (by decide) (hts _ (List.mem_of_getElem? (i := 1) rfl)) (fun _ h9 => h9) rfl (by decide +kernel) (rfl) (rfl) (Nat.le_of_ble_eq_true rfl) dX0_setQuiet_26 (fun H locs hP hD hS => ?_)
    replace hP : va_P D vwCl (bW cI g i0 (mkB (kd_ B) (fg_ B) (pl_ B) (pw_ B) (jy_ B) y_2 (sn_ B) (il_ B) (pa_ B) (ho_ B) (dy_ B))) H := hP
    replace hD : va_D A (bW cI g i0 (mkB (kd_ B) (fg_ B) (pl_ B) (pw_ B) (jy_ B) y_2 (sn_ B) (il_ B) (pa_ B) (ho_ B) (dy_ B))) := hD
    (try rw [ey_2] at hP); (try rw [ey_2] at hD); (try rw [ey_2] at hl); (try rw [ey_2] at c_2); (try rw [ey_2])
    refine rMv hx hb hr hlk hS (mkB (kd_ B) (fg_ B) (pl_ B) (pw_ B) (jy_ B) ((qt_ B) ||| (1 <<< ((nI k) &&& 31))) (sn_ B) (il_ B) (pa_ B) (ho_ B) (dy_ B)) hP ?_ dX0_setQuiet_29
    unfold sq_; first | (rw [if_pos (by assumption)]; rfl) | (rw [if_neg (by assumption)]; rfl)

theorem okX0_setIsle : jok yX0_setIsle wsX0_setIsle cX0_setIsle 3 none 2 := ⟨⟨_, rfl⟩, by decide +kernel, by decide +kernel⟩
set_option maxHeartbeats 1000000 in
set_option maxRecDepth 100000 in
theorem qX0_setIsle (l : Launch) (D : va_G) (cI cB : ClassId) (g : Nat → Nat) (i0 : Nat) (B : BayT) (w : Int32) (v : Int32) (hn7 : sn_ B ≤ 7) : jMv D cI cB l yX0_setIsle wsX0_setIsle 0 [.ref (g i0), .int w, .int v] (bW cI g i0 B) (S := BayT) (fun u => u = uv_ B w v) (fun u => bW cI g i0 u) := by
  refine jMv.of (cc := cX0_setIsle) (maxL := 3) (ret := none) okX0_setIsle (Nat.le_of_ble_eq_true rfl) ?_
  intro p e s m below meth c ls A hx hb hr hts hown hlk hml hP hK hD hA hS hl
  replace hown : s.vm.findClass RX0 = some m.cls := hown
  replace hl : lv_has ls 3 [(0, .ref (g i0)), (1, .int w), (2, .int v)] := hl
  have hinX0 : ∀ w ∈ wsX00, w ∈ wsX0_setIsle := by decide +kernel
  refine lv_iload_n hx hb dX0_setIsle_0 rfl (lv_at hl 1 rfl) ?_
  refine lv_if_ne (tgt := 12) hx hb dX0_setIsle_1 (by decide) (fun c_1 => ?_) (fun c_1 => ?_)
  · skip
    refine lv_aload_n hx hb dX0_setIsle_12 rfl (lv_at hl 0 rfl) ?_
    refine lv_iload_n hx hb dX0_setIsle_13 rfl (lv_at hl 2 rfl) ?_
    refine va_put (ci := 0) (ty := .int) (C := RX0) (T := TX0) (N := 11) hx hb hts hinX0 tyX0 tyX0_ok nmX0 hown hK.1 hP hD hS 0 rfl rfl 8 (by decide) (hts _ (List.mem_of_getElem? (i := 2) rfl)) (fun _ h9 => h9) rfl (by decide +kernel) (rfl) (rfl) (Nat.le_of_ble_eq_true rfl) dX0_setIsle_14 (fun H locs hP hD hS => ?_)
    replace hP : va_P D vwCl (bW cI g i0 (mkB (kd_ B) (fg_ B) (pl_ B) (pw_ B) (jy_ B) (qt_ B) (sn_ B) (il_ B) v (ho_ B) (dy_ B))) H := hP
    replace hD : va_D A (bW cI g i0 (mkB (kd_ B) (fg_ B) (pl_ B) (pw_ B) (jy_ B) (qt_ B) (sn_ B) (il_ B) v (ho_ B) (dy_ B))) := hD
    refine rMv hx hb hr hlk hS (mkB (kd_ B) (fg_ B) (pl_ B) (pw_ B) (jy_ B) (qt_ B) (sn_ B) (il_ B) v (ho_ B) (dy_ B)) hP ?_ dX0_setIsle_17
    unfold uv_; first | (rw [if_pos (by assumption)]; rfl) | (rw [if_neg (by assumption)]; rfl)
  · skip
    refine lv_aload_n hx hb dX0_setIsle_4 rfl (lv_at hl 0 rfl) ?_
    refine lv_iload_n hx hb dX0_setIsle_5 rfl (lv_at hl 2 rfl) ?_
    refine va_put (ci := 0) (ty := .int) (C := RX0) (T := TX0) (N := 11) hx hb hts hinX0 tyX0 tyX0_ok nmX0 hown hK.1 hP hD hS 0 rfl rfl 7 (by decide) (hts _ (List.mem_of_getElem? (i := 1) rfl)) (fun _ h9 => h9) rfl (by decide +kernel) (rfl) (rfl) (Nat.le_of_ble_eq_true rfl) dX0_setIsle_6 (fun H locs hP hD hS => ?_)
    replace hP : va_P D vwCl (bW cI g i0 (mkB (kd_ B) (fg_ B) (pl_ B) (pw_ B) (jy_ B) (qt_ B) (sn_ B) v (pa_ B) (ho_ B) (dy_ B))) H := hP
    replace hD : va_D A (bW cI g i0 (mkB (kd_ B) (fg_ B) (pl_ B) (pw_ B) (jy_ B) (qt_ B) (sn_ B) v (pa_ B) (ho_ B) (dy_ B))) := hD
    refine lv_goto (tgt := 17) hx hb dX0_setIsle_9 (by decide) ?_
    refine rMv hx hb hr hlk hS (mkB (kd_ B) (fg_ B) (pl_ B) (pw_ B) (jy_ B) (qt_ B) (sn_ B) v (pa_ B) (ho_ B) (dy_ B)) hP ?_ dX0_setIsle_17
    unfold uv_; first | (rw [if_pos (by assumption)]; rfl) | (rw [if_neg (by assumption)]; rfl)

theorem okX0_spendPowder : jok yX0_spendPowder wsX0_spendPowder cX0_spendPowder 2 none 0 := ⟨⟨_, rfl⟩, by decide +kernel, by decide +kernel⟩
set_option maxHeartbeats 1000000 in
set_option maxRecDepth 100000 in
theorem qX0_spendPowder (l : Launch) (D : va_G) (cI cB : ClassId) (g : Nat → Nat) (i0 : Nat) (B : BayT) (hn7 : sn_ B ≤ 7) : jMv D cI cB l yX0_spendPowder wsX0_spendPowder 2 [.ref (g i0)] (bW cI g i0 B) (S := BayT) (fun u => u = us_ B (sn_ B)) (fun u => bW cI g i0 u) := by
  refine jMv.of (cc := cX0_spendPowder) (maxL := 2) (ret := none) okX0_spendPowder (Nat.le_of_ble_eq_true rfl) ?_
  intro p e s m below meth c ls A hx hb hr hts hown hlk hml hP hK hD hA hS hl
  replace hown : s.vm.findClass RX0 = some m.cls := hown
  replace hl : lv_has ls 2 [(0, .ref (g i0))] := hl
  have hinX0 : ∀ w ∈ wsX00, w ∈ wsX0_spendPowder := by decide +kernel
  refine lv_iconst (v := 0) hx hb dX0_spendPowder_0 (by decide) ?_
  refine lv_istore_n (lv' := [(1, .int 0), (0, .ref (g i0))]) hx hb dX0_spendPowder_1 rfl hl (by decide) rfl (fun ls hl => ?_)
  have lp_2 : ∀ (fu_2 : Nat) (i : Nat) (x1_2 : Int32) (T : BayT), (x1_2 = nI i) → (T = us_ B i) → (i ≤ sn_ B) → sn_ B - i < fu_2 → ∀ (H : Heap) (locs : List Loc), va_P D vwCl (bW cI g i0 T) H → va_D A (bW cI g i0 T) → va_S A s.heap H locs → ∀ ls : Array Slot, lv_has ls 2 [(1, .int x1_2), (0, .ref (g i0))] → W p l e (jR 2) s m ([.ref (g i0)] : List Value).toArray below meth c H locs 0 0 (MQ below (va_Qv (S := BayT) (fun u => u = us_ B (sn_ B)) (fun u t => va_P D vwCl ((fun u => bW cI g i0 u) u) t.heap) A) ([.ref (g i0)] : List Value).toArray s 0 0 A) (F0 m 2 ls []) := by
    intro fu_2
    induction fu_2 with
    | zero => intro i x1_2 T hx1_2 hT hi hfu; exact absurd hfu (Nat.not_lt_zero _)
    | succ fu_2 ih_2 =>
      intro i x1_2 T hx1_2 hT hi hfu_2 H locs hP hD hS ls hl
      subst x1_2
      subst T
      replace hl : lv_has ls 2 [(1, .int (nI i)), (0, .ref (g i0))] := hl
      replace hP : va_P D vwCl (bW cI g i0 (us_ B i)) H := hP
      replace hD : va_D A (bW cI g i0 (us_ B i)) := hD
      refine lv_iload_n hx hb dX0_spendPowder_2 rfl (lv_at hl 0 rfl) ?_
      refine lv_aload_n hx hb dX0_spendPowder_3 rfl (lv_at hl 1 rfl) ?_
      refine va_get (ci := 0) (C := RX0) (T := TX0) (N := 11) hx hb hts hinX0 hown hK.1 hP 0 rfl rfl 6 (by decide) (hts _ (List.mem_of_getElem? (i := 1) rfl)) (fun _ h9 => h9) rfl dX0_spendPowder_4 ?_
      refine lv_icmp_ge (tgt := 42) hx hb dX0_spendPowder_7 (by decide) (fun c_7 => ?_) (fun c_7 => ?_)
      · replace c_7 : nI (sn_ B) ≤ nI i := c_7
        rw [jle (by omega) (by omega)] at c_7
        refine rMv hx hb hr hlk hS (us_ B i) hP ?_ dX0_spendPowder_42
        have e9 : i = sn_ B := by omega
        rw [e9]
      · replace c_7 : ¬ nI (sn_ B) ≤ nI i := c_7
        rw [jle (by omega) (by omega)] at c_7
        refine lv_aload_n hx hb dX0_spendPowder_10 rfl (lv_at hl 1 rfl) ?_
        refine lv_iload_n hx hb dX0_spendPowder_11 rfl (lv_at hl 0 rfl) ?_
        refine lv_aload_n hx hb dX0_spendPowder_12 rfl (lv_at hl 1 rfl) ?_
        refine va_get (ci := 0) (C := RX0) (T := TX0) (N := 11) hx hb hts hinX0 hown hK.1 hP 0 rfl rfl 9 (by decide) (hts _ (List.mem_of_getElem? (i := 2) rfl)) (fun _ h9 => h9) rfl dX0_spendPowder_13 ?_
        refine kSiV hx hb hml hown hts hK hP gX0_spendPowder_X0_noiseOf okX0_noiseOf (qX0_noiseOf l D cI cB g i0 (us_ B i) i (ho_ B) (by show sn_ B ≤ 7; omega) (by omega)) [0, 1, 2, 3, 4, 5] rfl rfl rfl rfl (by decide) hl.1 rfl rfl (Nat.le_of_ble_eq_true rfl) dX0_spendPowder_16 (by decide) (fun r_1 hr_2 => ?_)
        replace hr_2 : r_1 = no_ (us_ B i) i (ho_ B) := hr_2
        subst r_1
        refine lv_if_le (tgt := 36) hx hb dX0_spendPowder_19 (by decide) (fun c_19 => ?_) (fun c_19 => ?_)
        · rw [no_us B i i _ (Nat.le_refl _)] at c_19
          replace c_19 : ¬ 0 < no_ B i (ho_ B) := Int32.not_lt.mpr c_19
          refine lv_iinc (v := (nI i) + 1) (lv' := [(1, .int ((nI i) + 1)), (0, .ref (g i0))]) hx hb dX0_spendPowder_36 hl (k := 0) rfl (by first | rfl | decide) (by decide) rfl (fun ls hl => ?_)
          refine lv_goto (tgt := 2) hx hb dX0_spendPowder_39 (by decide) ?_
          exact ih_2 (i + 1) ((nI i) + 1) (us_ B i) (by first | rfl | exact nI_1 _) (by first | exact us_y B i c_19 | exact us_n B i c_19) (by omega) (by omega) _ _ hP hD hS ls (lv_sub hl [0, 1] rfl)
        · rw [no_us B i i _ (Nat.le_refl _)] at c_19
          replace c_19 : 0 < no_ B i (ho_ B) := Int32.not_le.mp c_19
          refine lv_aload_n hx hb dX0_spendPowder_22 rfl (lv_at hl 1 rfl) ?_
          refine va_get (ci := 0) (C := RX0) (T := TX0) (N := 11) hx hb hts hinX0 hown hK.1 hP 0 rfl rfl 3 (by decide) (hts _ (List.mem_of_getElem? (i := 3) rfl)) (fun _ h9 => h9) rfl dX0_spendPowder_23 ?_
          refine lv_iload_n hx hb dX0_spendPowder_26 rfl (lv_at hl 0 rfl) ?_
          refine lv_dup2_11 hx hb dX0_spendPowder_27 rfl rfl ?_
          refine jald hx hb hK.1 hP 4 0 i rfl rfl rfl (by omega) (Nat.le_of_ble_eq_true rfl) dX0_spendPowder_28 ?_
          refine lv_aload_n hx hb dX0_spendPowder_29 rfl (lv_at hl 1 rfl) ?_
          refine lv_iload_n hx hb dX0_spendPowder_30 rfl (lv_at hl 0 rfl) ?_
          refine kSiV hx hb hml hown hts hK hP gX0_spendPowder_X0_costOf okX0_costOf (qX0_costOf l D cI cB g i0 (us_ B i) i (by show sn_ B ≤ 7; omega) (by omega)) [0, 1, 2, 3, 4, 5] rfl rfl rfl rfl (by decide) hl.1 rfl rfl (Nat.le_of_ble_eq_true rfl) dX0_spendPowder_31 (by decide) (fun r_3 hr_4 => ?_)
          replace hr_4 : r_3 = co_ (kd_ (us_ B i) i) (fg_ (us_ B i) i) := hr_4
          subst r_3
          refine lv_isub hx hb dX0_spendPowder_34 ?_
          refine jast hx hb hK.1 hP hD hS 4 0 i rfl rfl rfl (by omega) (Nat.le_of_ble_eq_true rfl) dX0_spendPowder_35 (fun f_5 ef_5 H locs hP hD hS => ?_)
          replace ef_5 : f_5 = upd (sp_ B i) i (((sp_ B i) i) - (co_ (kd_ (us_ B i) i) (fg_ (us_ B i) i))) := ef_5
          replace hP : va_P D vwCl (bW cI g i0 (mkB (kd_ B) (fg_ B) (pl_ B) f_5 (jy_ B) (qt_ B) (sn_ B) (il_ B) (pa_ B) (ho_ B) (dy_ B))) H := hP
          replace hD : va_D A (bW cI g i0 (mkB (kd_ B) (fg_ B) (pl_ B) f_5 (jy_ B) (qt_ B) (sn_ B) (il_ B) (pa_ B) (ho_ B) (dy_ B))) := hD
          refine lv_iinc (v := (nI i) + 1) (lv' := [(1, .int ((nI i) + 1)), (0, .ref (g i0))]) hx hb dX0_spendPowder_36 hl (k := 0) rfl (by first | rfl | decide) (by decide) rfl (fun ls hl => ?_)
          refine lv_goto (tgt := 2) hx hb dX0_spendPowder_39 (by decide) ?_
          (try rw [ef_5] at hP); (try rw [ef_5] at hD); (try rw [ef_5] at hl); (try rw [ef_5] at c_7); (try rw [ef_5] at c_19); (try rw [ef_5])
          exact ih_2 (i + 1) ((nI i) + 1) (mkB (kd_ B) (fg_ B) (pl_ B) (upd (sp_ B i) i (((sp_ B i) i) - (co_ (kd_ (us_ B i) i) (fg_ (us_ B i) i)))) (jy_ B) (qt_ B) (sn_ B) (il_ B) (pa_ B) (ho_ B) (dy_ B)) (by first | rfl | exact nI_1 _) (by first | exact us_y B i c_19 | exact us_n B i c_19) (by omega) (by omega) _ _ hP hD hS ls (lv_sub hl [0, 1] rfl)
  exact lp_2 ((sn_ B) + 1) 0 0 B (by first | rfl | exact nI_0.symm) ((us_0 B).symm) (by omega) (by omega) _ _ hP hD hS ls (lv_sub hl [0, 1] rfl)
