theorem okX5_isIn : jok yX5_isIn wsX5_isIn cX5_isIn 3 (some .boolean) 3 := ⟨⟨_, rfl⟩, by decide +kernel, by decide +kernel⟩
set_option maxHeartbeats 1000000 in
set_option maxRecDepth 100000 in
theorem qX5_isIn (l : Launch) (D : va_G) (cI cB : ClassId) (v : Int32) (a : Int32) (b : Int32)  : jSi D cI cB l yX5_isIn wsX5_isIn 0 [.int v, .int a, .int b] ([] : va_W) (fun r => r = b1 (a ≤ v ∧ v ≤ b)) := by
  refine jSi.of (cc := cX5_isIn) (maxL := 3) (ret := (some .boolean)) okX5_isIn (Nat.le_of_ble_eq_true rfl) ?_
  intro p e s m below meth c ls hx hb hr hts hown hlk hml hP hK hl
  replace hown : s.vm.findClass RX5 = some m.cls := hown
  replace hl : lv_has ls 3 [(0, .int v), (1, .int a), (2, .int b)] := hl
  refine lv_iload_n hx hb dX5_isIn_0 rfl (lv_at hl 0 rfl) ?_
  refine lv_iload_n hx hb dX5_isIn_1 rfl (lv_at hl 1 rfl) ?_
  refine lv_icmp_lt (tgt := 14) hx hb dX5_isIn_2 (by decide) (fun c_2 => ?_) (fun c_2 => ?_)
  · have d_2 := Int32.not_le.mpr c_2
    refine lv_iconst (v := 0) hx hb dX5_isIn_14 (by decide) ?_
    refine rSz hx hb hr hlk (Or.inl rfl) ?_ dX5_isIn_15
    show 0 = _
    first | exact (b1_t ⟨by first | assumption | exact Int32.not_le.mp (by assumption) | exact Int32.not_lt.mp (by assumption) | exact Int32.not_le.mpr (by assumption) | exact Int32.not_lt.mpr (by assumption), by first | assumption | exact Int32.not_le.mp (by assumption) | exact Int32.not_lt.mp (by assumption) | exact Int32.not_le.mpr (by assumption) | exact Int32.not_lt.mpr (by assumption)⟩).symm | exact (b1_f (fun z => by first | exact absurd z.1 (by first | assumption | exact Int32.not_le.mp (by assumption) | exact Int32.not_lt.mp (by assumption) | exact Int32.not_le.mpr (by assumption) | exact Int32.not_lt.mpr (by assumption)) | exact absurd z.2 (by first | assumption | exact Int32.not_le.mp (by assumption) | exact Int32.not_lt.mp (by assumption) | exact Int32.not_le.mpr (by assumption) | exact Int32.not_lt.mpr (by assumption)))).symm
  · have d_2 := Int32.not_lt.mp c_2
    refine lv_iload_n hx hb dX5_isIn_5 rfl (lv_at hl 0 rfl) ?_
    refine lv_iload_n hx hb dX5_isIn_6 rfl (lv_at hl 2 rfl) ?_
    refine lv_icmp_gt (tgt := 14) hx hb dX5_isIn_7 (by decide) (fun c_7 => ?_) (fun c_7 => ?_)
    · have d_7 := Int32.not_le.mpr c_7
      refine lv_iconst (v := 0) hx hb dX5_isIn_14 (by decide) ?_
      refine rSz hx hb hr hlk (Or.inl rfl) ?_ dX5_isIn_15
      show 0 = _
      first | exact (b1_t ⟨by first | assumption | exact Int32.not_le.mp (by assumption) | exact Int32.not_lt.mp (by assumption) | exact Int32.not_le.mpr (by assumption) | exact Int32.not_lt.mpr (by assumption), by first | assumption | exact Int32.not_le.mp (by assumption) | exact Int32.not_lt.mp (by assumption) | exact Int32.not_le.mpr (by assumption) | exact Int32.not_lt.mpr (by assumption)⟩).symm | exact (b1_f (fun z => by first | exact absurd z.1 (by first | assumption | exact Int32.not_le.mp (by assumption) | exact Int32.not_lt.mp (by assumption) | exact Int32.not_le.mpr (by assumption) | exact Int32.not_lt.mpr (by assumption)) | exact absurd z.2 (by first | assumption | exact Int32.not_le.mp (by assumption) | exact Int32.not_lt.mp (by assumption) | exact Int32.not_le.mpr (by assumption) | exact Int32.not_lt.mpr (by assumption)))).symm
    · have d_7 := Int32.not_lt.mp c_7
      refine lv_iconst (v := 1) hx hb dX5_isIn_10 (by decide) ?_
      refine lv_goto (tgt := 15) hx hb dX5_isIn_11 (by decide) ?_
      refine rSz hx hb hr hlk (Or.inr rfl) ?_ dX5_isIn_15
      show 1 = _
      first | exact (b1_t ⟨by first | assumption | exact Int32.not_le.mp (by assumption) | exact Int32.not_lt.mp (by assumption) | exact Int32.not_le.mpr (by assumption) | exact Int32.not_lt.mpr (by assumption), by first | assumption | exact Int32.not_le.mp (by assumption) | exact Int32.not_lt.mp (by assumption) | exact Int32.not_le.mpr (by assumption) | exact Int32.not_lt.mpr (by assumption)⟩).symm | exact (b1_f (fun z => by first | exact absurd z.1 (by first | assumption | exact Int32.not_le.mp (by assumption) | exact Int32.not_lt.mp (by assumption) | exact Int32.not_le.mpr (by assumption) | exact Int32.not_lt.mpr (by assumption)) | exact absurd z.2 (by first | assumption | exact Int32.not_le.mp (by assumption) | exact Int32.not_lt.mp (by assumption) | exact Int32.not_le.mpr (by assumption) | exact Int32.not_lt.mpr (by assumption)))).symm

theorem okX5_bound : jok yX5_bound wsX5_bound cX5_bound 3 (some .int) 3 := ⟨⟨_, rfl⟩, by decide +kernel, by decide +kernel⟩
set_option maxHeartbeats 1000000 in
set_option maxRecDepth 100000 in
theorem qX5_bound (l : Launch) (D : va_G) (cI cB : ClassId) (v : Int32) (a : Int32) (b : Int32)  : jSi D cI cB l yX5_bound wsX5_bound 0 [.int v, .int a, .int b] ([] : va_W) (fun r => r = ob_ v a b) := by
  refine jSi.of (cc := cX5_bound) (maxL := 3) (ret := (some .int)) okX5_bound (Nat.le_of_ble_eq_true rfl) ?_
  intro p e s m below meth c ls hx hb hr hts hown hlk hml hP hK hl
  replace hown : s.vm.findClass RX5 = some m.cls := hown
  replace hl : lv_has ls 3 [(0, .int v), (1, .int a), (2, .int b)] := hl
  refine lv_iload_n hx hb dX5_bound_0 rfl (lv_at hl 0 rfl) ?_
  refine lv_iload_n hx hb dX5_bound_1 rfl (lv_at hl 1 rfl) ?_
  refine lv_icmp_ge (tgt := 10) hx hb dX5_bound_2 (by decide) (fun c_2 => ?_) (fun c_2 => ?_)
  · have d_2 := Int32.not_lt.mpr c_2
    refine lv_iload_n hx hb dX5_bound_10 rfl (lv_at hl 0 rfl) ?_
    refine lv_iload_n hx hb dX5_bound_11 rfl (lv_at hl 2 rfl) ?_
    refine lv_icmp_le (tgt := 20) hx hb dX5_bound_12 (by decide) (fun c_12 => ?_) (fun c_12 => ?_)
    · have d_12 := Int32.not_lt.mpr c_12
      refine lv_iconst (v := 0) hx hb dX5_bound_20 (by decide) ?_
      refine rSi hx hb hr hlk ?_ dX5_bound_21
      show 0 = _
      unfold ob_; first | (rw [if_pos (by first | assumption | exact Int32.not_le.mp (by assumption) | exact Int32.not_lt.mp (by assumption) | exact Int32.not_le.mpr (by assumption) | exact Int32.not_lt.mpr (by assumption))]; done) | (rw [if_neg (by first | assumption | exact Int32.not_le.mp (by assumption) | exact Int32.not_lt.mp (by assumption) | exact Int32.not_le.mpr (by assumption) | exact Int32.not_lt.mpr (by assumption))]; first | (rw [if_pos (by first | assumption | exact Int32.not_le.mp (by assumption) | exact Int32.not_lt.mp (by assumption) | exact Int32.not_le.mpr (by assumption) | exact Int32.not_lt.mpr (by assumption))]; done) | (rw [if_neg (by first | assumption | exact Int32.not_le.mp (by assumption) | exact Int32.not_lt.mp (by assumption) | exact Int32.not_le.mpr (by assumption) | exact Int32.not_lt.mpr (by assumption))]; done))
    · have d_12 := Int32.not_le.mp c_12
      refine lv_bipush (v := (-6)) hx hb dX5_bound_15 (by decide) ?_
      refine lv_goto (tgt := 21) hx hb dX5_bound_17 (by decide) ?_
      refine rSi hx hb hr hlk ?_ dX5_bound_21
      show (-6) = _
      unfold ob_; first | (rw [if_pos (by first | assumption | exact Int32.not_le.mp (by assumption) | exact Int32.not_lt.mp (by assumption) | exact Int32.not_le.mpr (by assumption) | exact Int32.not_lt.mpr (by assumption))]; done) | (rw [if_neg (by first | assumption | exact Int32.not_le.mp (by assumption) | exact Int32.not_lt.mp (by assumption) | exact Int32.not_le.mpr (by assumption) | exact Int32.not_lt.mpr (by assumption))]; first | (rw [if_pos (by first | assumption | exact Int32.not_le.mp (by assumption) | exact Int32.not_lt.mp (by assumption) | exact Int32.not_le.mpr (by assumption) | exact Int32.not_lt.mpr (by assumption))]; done) | (rw [if_neg (by first | assumption | exact Int32.not_le.mp (by assumption) | exact Int32.not_lt.mp (by assumption) | exact Int32.not_le.mpr (by assumption) | exact Int32.not_lt.mpr (by assumption))]; done))
  · have d_2 := Int32.not_le.mp c_2
    refine lv_bipush (v := (-4)) hx hb dX5_bound_5 (by decide) ?_
    refine lv_goto (tgt := 21) hx hb dX5_bound_7 (by decide) ?_
    refine rSi hx hb hr hlk ?_ dX5_bound_21
    show (-4) = _
    unfold ob_; first | (rw [if_pos (by first | assumption | exact Int32.not_le.mp (by assumption) | exact Int32.not_lt.mp (by assumption) | exact Int32.not_le.mpr (by assumption) | exact Int32.not_lt.mpr (by assumption))]; done) | (rw [if_neg (by first | assumption | exact Int32.not_le.mp (by assumption) | exact Int32.not_lt.mp (by assumption) | exact Int32.not_le.mpr (by assumption) | exact Int32.not_lt.mpr (by assumption))]; first | (rw [if_pos (by first | assumption | exact Int32.not_le.mp (by assumption) | exact Int32.not_lt.mp (by assumption) | exact Int32.not_le.mpr (by assumption) | exact Int32.not_lt.mpr (by assumption))]; done) | (rw [if_neg (by first | assumption | exact Int32.not_le.mp (by assumption) | exact Int32.not_lt.mp (by assumption) | exact Int32.not_le.mpr (by assumption) | exact Int32.not_lt.mpr (by assumption))]; done))

theorem okX5_held : jok yX5_held wsX5_held cX5_held 3 (some .int) 3 := ⟨⟨_, rfl⟩, by decide +kernel, by decide +kernel⟩
set_option maxHeartbeats 1000000 in
set_option maxRecDepth 100000 in
theorem qX5_held (l : Launch) (D : va_G) (cI cB : ClassId) (v : Int32) (a : Int32) (b : Int32)  : jSi D cI cB l yX5_held wsX5_held 0 [.int v, .int a, .int b] ([] : va_W) (fun r => r = he_ v a b) := by
  refine jSi.of (cc := cX5_held) (maxL := 3) (ret := (some .int)) okX5_held (Nat.le_of_ble_eq_true rfl) ?_
  intro p e s m below meth c ls hx hb hr hts hown hlk hml hP hK hl
  replace hown : s.vm.findClass RX5 = some m.cls := hown
  replace hl : lv_has ls 3 [(0, .int v), (1, .int a), (2, .int b)] := hl
  refine lv_iload_n hx hb dX5_held_0 rfl (lv_at hl 0 rfl) ?_
  refine lv_iload_n hx hb dX5_held_1 rfl (lv_at hl 1 rfl) ?_
  refine lv_icmp_ge (tgt := 9) hx hb dX5_held_2 (by decide) (fun c_2 => ?_) (fun c_2 => ?_)
  · have d_2 := Int32.not_lt.mpr c_2
    refine lv_iload_n hx hb dX5_held_9 rfl (lv_at hl 0 rfl) ?_
    refine lv_iload_n hx hb dX5_held_10 rfl (lv_at hl 2 rfl) ?_
    refine lv_icmp_le (tgt := 18) hx hb dX5_held_11 (by decide) (fun c_11 => ?_) (fun c_11 => ?_)
    · have d_11 := Int32.not_lt.mpr c_11
      refine lv_iload_n hx hb dX5_held_18 rfl (lv_at hl 0 rfl) ?_
      refine rSi hx hb hr hlk ?_ dX5_held_19
      show v = _
      unfold he_; first | (rw [if_pos (by first | assumption | exact Int32.not_le.mp (by assumption) | exact Int32.not_lt.mp (by assumption) | exact Int32.not_le.mpr (by assumption) | exact Int32.not_lt.mpr (by assumption))]; done) | (rw [if_neg (by first | assumption | exact Int32.not_le.mp (by assumption) | exact Int32.not_lt.mp (by assumption) | exact Int32.not_le.mpr (by assumption) | exact Int32.not_lt.mpr (by assumption))]; first | (rw [if_pos (by first | assumption | exact Int32.not_le.mp (by assumption) | exact Int32.not_lt.mp (by assumption) | exact Int32.not_le.mpr (by assumption) | exact Int32.not_lt.mpr (by assumption))]; done) | (rw [if_neg (by first | assumption | exact Int32.not_le.mp (by assumption) | exact Int32.not_lt.mp (by assumption) | exact Int32.not_le.mpr (by assumption) | exact Int32.not_lt.mpr (by assumption))]; done))
    · have d_11 := Int32.not_le.mp c_11
      refine lv_iload_n hx hb dX5_held_14 rfl (lv_at hl 2 rfl) ?_
      refine lv_goto (tgt := 19) hx hb dX5_held_15 (by decide) ?_
      refine rSi hx hb hr hlk ?_ dX5_held_19
      show b = _
      unfold he_; first | (rw [if_pos (by first | assumption | exact Int32.not_le.mp (by assumption) | exact Int32.not_lt.mp (by assumption) | exact Int32.not_le.mpr (by assumption) | exact Int32.not_lt.mpr (by assumption))]; done) | (rw [if_neg (by first | assumption | exact Int32.not_le.mp (by assumption) | exact Int32.not_lt.mp (by assumption) | exact Int32.not_le.mpr (by assumption) | exact Int32.not_lt.mpr (by assumption))]; first | (rw [if_pos (by first | assumption | exact Int32.not_le.mp (by assumption) | exact Int32.not_lt.mp (by assumption) | exact Int32.not_le.mpr (by assumption) | exact Int32.not_lt.mpr (by assumption))]; done) | (rw [if_neg (by first | assumption | exact Int32.not_le.mp (by assumption) | exact Int32.not_lt.mp (by assumption) | exact Int32.not_le.mpr (by assumption) | exact Int32.not_lt.mpr (by assumption))]; done))
  · have d_2 := Int32.not_le.mp c_2
    refine lv_iload_n hx hb dX5_held_5 rfl (lv_at hl 1 rfl) ?_
    refine lv_goto (tgt := 19) hx hb dX5_held_6 (by decide) ?_
    refine rSi hx hb hr hlk ?_ dX5_held_19
    show a = _
    unfold he_; first | (rw [if_pos (by first | assumption | exact Int32.not_le.mp (by assumption) | exact Int32.not_lt.mp (by assumption) | exact Int32.not_le.mpr (by assumption) | exact Int32.not_lt.mpr (by assumption))]; done) | (rw [if_neg (by first | assumption | exact Int32.not_le.mp (by assumption) | exact Int32.not_lt.mp (by assumption) | exact Int32.not_le.mpr (by assumption) | exact Int32.not_lt.mpr (by assumption))]; first | (rw [if_pos (by first | assumption | exact Int32.not_le.mp (by assumption) | exact Int32.not_lt.mp (by assumption) | exact Int32.not_le.mpr (by assumption) | exact Int32.not_lt.mpr (by assumption))]; done) | (rw [if_neg (by first | assumption | exact Int32.not_le.mp (by assumption) | exact Int32.not_lt.mp (by assumption) | exact Int32.not_le.mpr (by assumption) | exact Int32.not_lt.mpr (by assumption))]; done))

theorem okX5_has : jok yX5_has wsX5_has cX5_has 2 (some .boolean) 2 := ⟨⟨_, rfl⟩, by decide +kernel, by decide +kernel⟩
set_option maxHeartbeats 1000000 in
set_option maxRecDepth 100000 in
theorem qX5_has (l : Launch) (D : va_G) (cI cB : ClassId) (q : Int32) (k : Nat)  : jSi D cI cB l yX5_has wsX5_has 0 [.int q, .int (nI k)] ([] : va_W) (fun r => r = b1 (qb_ q k = 1)) := by
  refine jSi.of (cc := cX5_has) (maxL := 2) (ret := (some .boolean)) okX5_has (Nat.le_of_ble_eq_true rfl) ?_
  intro p e s m below meth c ls hx hb hr hts hown hlk hml hP hK hl
  replace hown : s.vm.findClass RX5 = some m.cls := hown
  replace hl : lv_has ls 2 [(0, .int q), (1, .int (nI k))] := hl
  refine lv_iload_n hx hb dX5_has_0 rfl (lv_at hl 0 rfl) ?_
  refine lv_iload_n hx hb dX5_has_1 rfl (lv_at hl 1 rfl) ?_
  refine lv_ishr hx hb dX5_has_2 ?_
  refine lv_iconst (v := 1) hx hb dX5_has_3 (by decide) ?_
  refine lv_iand hx hb dX5_has_4 ?_
  refine lv_iconst (v := 1) hx hb dX5_has_5 (by decide) ?_
  refine lv_icmp_ne (tgt := 13) hx hb dX5_has_6 (by decide) (fun c_6 => ?_) (fun c_6 => ?_)
  · skip
    refine lv_iconst (v := 0) hx hb dX5_has_13 (by decide) ?_
    refine rSz hx hb hr hlk (Or.inl rfl) ?_ dX5_has_14
    show 0 = _
    first | exact (b1_t (by assumption)).symm | exact (b1_f (by assumption)).symm
  · skip
    refine lv_iconst (v := 1) hx hb dX5_has_9 (by decide) ?_
    refine lv_goto (tgt := 14) hx hb dX5_has_10 (by decide) ?_
    refine rSz hx hb hr hlk (Or.inr rfl) ?_ dX5_has_14
    show 1 = _
    first | exact (b1_t (by assumption)).symm | exact (b1_f (by assumption)).symm

theorem okX5_far : jok yX5_far wsX5_far cX5_far 2 (some .int) 2 := ⟨⟨_, rfl⟩, by decide +kernel, by decide +kernel⟩
set_option maxHeartbeats 1000000 in
set_option maxRecDepth 100000 in
theorem qX5_far (l : Launch) (D : va_G) (cI cB : ClassId) (a : Int32) (b : Int32)  : jSi D cI cB l yX5_far wsX5_far 0 [.int a, .int b] ([] : va_W) (fun r => r = fr_ a b) := by
  refine jSi.of (cc := cX5_far) (maxL := 2) (ret := (some .int)) okX5_far (Nat.le_of_ble_eq_true rfl) ?_
  intro p e s m below meth c ls hx hb hr hts hown hlk hml hP hK hl
  replace hown : s.vm.findClass RX5 = some m.cls := hown
  replace hl : lv_has ls 2 [(0, .int a), (1, .int b)] := hl
  refine lv_iload_n hx hb dX5_far_0 rfl (lv_at hl 0 rfl) ?_
  refine lv_iload_n hx hb dX5_far_1 rfl (lv_at hl 1 rfl) ?_
  refine lv_icmp_le (tgt := 11) hx hb dX5_far_2 (by decide) (fun c_2 => ?_) (fun c_2 => ?_)
  · have d_2 := Int32.not_lt.mpr c_2
    refine lv_iload_n hx hb dX5_far_11 rfl (lv_at hl 1 rfl) ?_
    refine lv_iload_n hx hb dX5_far_12 rfl (lv_at hl 0 rfl) ?_
    refine lv_isub hx hb dX5_far_13 ?_
    refine rSi hx hb hr hlk ?_ dX5_far_14
    show (b - a) = _
    unfold fr_; first | (rw [if_pos (by first | assumption | exact Int32.not_le.mp (by assumption) | exact Int32.not_lt.mp (by assumption) | exact Int32.not_le.mpr (by assumption) | exact Int32.not_lt.mpr (by assumption))]; done) | (rw [if_neg (by first | assumption | exact Int32.not_le.mp (by assumption) | exact Int32.not_lt.mp (by assumption) | exact Int32.not_le.mpr (by assumption) | exact Int32.not_lt.mpr (by assumption))]; done)
  · have d_2 := Int32.not_le.mp c_2
    refine lv_iload_n hx hb dX5_far_5 rfl (lv_at hl 0 rfl) ?_
    refine lv_iload_n hx hb dX5_far_6 rfl (lv_at hl 1 rfl) ?_
    refine lv_isub hx hb dX5_far_7 ?_
    refine lv_goto (tgt := 14) hx hb dX5_far_8 (by decide) ?_
    refine rSi hx hb hr hlk ?_ dX5_far_14
    show (a - b) = _
    unfold fr_; first | (rw [if_pos (by first | assumption | exact Int32.not_le.mp (by assumption) | exact Int32.not_lt.mp (by assumption) | exact Int32.not_le.mpr (by assumption) | exact Int32.not_lt.mpr (by assumption))]; done) | (rw [if_neg (by first | assumption | exact Int32.not_le.mp (by assumption) | exact Int32.not_lt.mp (by assumption) | exact Int32.not_le.mpr (by assumption) | exact Int32.not_lt.mpr (by assumption))]; done)

theorem okX5_isPlace : jok yX5_isPlace wsX5_isPlace cX5_isPlace 1 (some .boolean) 1 := ⟨⟨_, rfl⟩, by decide +kernel, by decide +kernel⟩
set_option maxHeartbeats 1000000 in
set_option maxRecDepth 100000 in
theorem qX5_isPlace (l : Launch) (D : va_G) (cI cB : ClassId) (v : Int32)  : jSi D cI cB l yX5_isPlace wsX5_isPlace 0 [.int v] ([] : va_W) (fun r => r = b1 (0 ≤ v ∧ v ≤ 30)) := by
  refine jSi.of (cc := cX5_isPlace) (maxL := 1) (ret := (some .boolean)) okX5_isPlace (Nat.le_of_ble_eq_true rfl) ?_
  intro p e s m below meth c ls hx hb hr hts hown hlk hml hP hK hl
  replace hown : s.vm.findClass RX5 = some m.cls := hown
  replace hl : lv_has ls 1 [(0, .int v)] := hl
  refine lv_iload_n hx hb dX5_isPlace_0 rfl (lv_at hl 0 rfl) ?_
  refine lv_if_lt (tgt := 14) hx hb dX5_isPlace_1 (by decide) (fun c_1 => ?_) (fun c_1 => ?_)
  · have d_1 := Int32.not_le.mpr c_1
    refine lv_iconst (v := 0) hx hb dX5_isPlace_14 (by decide) ?_
    refine rSz hx hb hr hlk (Or.inl rfl) ?_ dX5_isPlace_15
    show 0 = _
    first | exact (b1_t ⟨by first | assumption | exact Int32.not_le.mp (by assumption) | exact Int32.not_lt.mp (by assumption) | exact Int32.not_le.mpr (by assumption) | exact Int32.not_lt.mpr (by assumption), by first | assumption | exact Int32.not_le.mp (by assumption) | exact Int32.not_lt.mp (by assumption) | exact Int32.not_le.mpr (by assumption) | exact Int32.not_lt.mpr (by assumption)⟩).symm | exact (b1_f (fun z => by first | exact absurd z.1 (by first | assumption | exact Int32.not_le.mp (by assumption) | exact Int32.not_lt.mp (by assumption) | exact Int32.not_le.mpr (by assumption) | exact Int32.not_lt.mpr (by assumption)) | exact absurd z.2 (by first | assumption | exact Int32.not_le.mp (by assumption) | exact Int32.not_lt.mp (by assumption) | exact Int32.not_le.mpr (by assumption) | exact Int32.not_lt.mpr (by assumption)))).symm
  · have d_1 := Int32.not_lt.mp c_1
    refine lv_iload_n hx hb dX5_isPlace_4 rfl (lv_at hl 0 rfl) ?_
    refine lv_bipush (v := 30) hx hb dX5_isPlace_5 (by decide) ?_
    refine lv_icmp_gt (tgt := 14) hx hb dX5_isPlace_7 (by decide) (fun c_7 => ?_) (fun c_7 => ?_)
    · have d_7 := Int32.not_le.mpr c_7
      refine lv_iconst (v := 0) hx hb dX5_isPlace_14 (by decide) ?_
      refine rSz hx hb hr hlk (Or.inl rfl) ?_ dX5_isPlace_15
      show 0 = _
      first | exact (b1_t ⟨by first | assumption | exact Int32.not_le.mp (by assumption) | exact Int32.not_lt.mp (by assumption) | exact Int32.not_le.mpr (by assumption) | exact Int32.not_lt.mpr (by assumption), by first | assumption | exact Int32.not_le.mp (by assumption) | exact Int32.not_lt.mp (by assumption) | exact Int32.not_le.mpr (by assumption) | exact Int32.not_lt.mpr (by assumption)⟩).symm | exact (b1_f (fun z => by first | exact absurd z.1 (by first | assumption | exact Int32.not_le.mp (by assumption) | exact Int32.not_lt.mp (by assumption) | exact Int32.not_le.mpr (by assumption) | exact Int32.not_lt.mpr (by assumption)) | exact absurd z.2 (by first | assumption | exact Int32.not_le.mp (by assumption) | exact Int32.not_lt.mp (by assumption) | exact Int32.not_le.mpr (by assumption) | exact Int32.not_lt.mpr (by assumption)))).symm
    · have d_7 := Int32.not_lt.mp c_7
      refine lv_iconst (v := 1) hx hb dX5_isPlace_10 (by decide) ?_
      refine lv_goto (tgt := 15) hx hb dX5_isPlace_11 (by decide) ?_
      refine rSz hx hb hr hlk (Or.inr rfl) ?_ dX5_isPlace_15
      show 1 = _
      first | exact (b1_t ⟨by first | assumption | exact Int32.not_le.mp (by assumption) | exact Int32.not_lt.mp (by assumption) | exact Int32.not_le.mpr (by assumption) | exact Int32.not_lt.mpr (by assumption), by first | assumption | exact Int32.not_le.mp (by assumption) | exact Int32.not_lt.mp (by assumption) | exact Int32.not_le.mpr (by assumption) | exact Int32.not_lt.mpr (by assumption)⟩).symm | exact (b1_f (fun z => by first | exact absurd z.1 (by first | assumption | exact Int32.not_le.mp (by assumption) | exact Int32.not_lt.mp (by assumption) | exact Int32.not_le.mpr (by assumption) | exact Int32.not_lt.mpr (by assumption)) | exact absurd z.2 (by first | assumption | exact Int32.not_le.mp (by assumption) | exact Int32.not_lt.mp (by assumption) | exact Int32.not_le.mpr (by assumption) | exact Int32.not_lt.mpr (by assumption)))).symm

theorem okX5_notHours : jok yX5_notHours wsX5_notHours cX5_notHours 1 (some .int) 1 := ⟨⟨_, rfl⟩, by decide +kernel, by decide +kernel⟩
set_option maxHeartbeats 1000000 in
set_option maxRecDepth 100000 in
theorem qX5_notHours (l : Launch) (D : va_G) (cI cB : ClassId) (v : Int32)  : jSi D cI cB l yX5_notHours wsX5_notHours 1 [.int v] ([] : va_W) (fun r => r = ob_ v 0 99) := by
  refine jSi.of (cc := cX5_notHours) (maxL := 1) (ret := (some .int)) okX5_notHours (Nat.le_of_ble_eq_true rfl) ?_
  intro p e s m below meth c ls hx hb hr hts hown hlk hml hP hK hl
  replace hown : s.vm.findClass RX5 = some m.cls := hown
  replace hl : lv_has ls 1 [(0, .int v)] := hl
  refine lv_iload_n hx hb dX5_notHours_0 rfl (lv_at hl 0 rfl) ?_
  refine lv_iconst (v := 0) hx hb dX5_notHours_1 (by decide) ?_
  refine lv_bipush (v := 99) hx hb dX5_notHours_2 (by decide) ?_
  refine kSiS hx hb hml hown hts hK hP gX5_notHours_X5_bound okX5_bound (qX5_bound l D cI cB v 0 99 ) [] rfl (by decide) hl.1 rfl rfl (Nat.le_of_ble_eq_true rfl) dX5_notHours_4 (by decide) (fun r_1 hr_2 => ?_)
  replace hr_2 : r_1 = ob_ v 0 99 := hr_2
  subst r_1
  refine rSi hx hb hr hlk ?_ dX5_notHours_7
  show (ob_ v 0 99) = _
  rfl

theorem okX5_hushed : jok yX5_hushed wsX5_hushed cX5_hushed 3 (some .int) 3 := ⟨⟨_, rfl⟩, by decide +kernel, by decide +kernel⟩
set_option maxHeartbeats 1000000 in
set_option maxRecDepth 100000 in
theorem qX5_hushed (l : Launch) (D : va_G) (cI cB : ClassId) (q : Int32) (k : Nat) (a : Int32)  : jSi D cI cB l yX5_hushed wsX5_hushed 0 [.int q, .int (nI k), .int a] ([] : va_W) (fun r => r = sq_ (a = 0) q k) := by
  refine jSi.of (cc := cX5_hushed) (maxL := 3) (ret := (some .int)) okX5_hushed (Nat.le_of_ble_eq_true rfl) ?_
  intro p e s m below meth c ls hx hb hr hts hown hlk hml hP hK hl
  replace hown : s.vm.findClass RX5 = some m.cls := hown
  replace hl : lv_has ls 3 [(0, .int q), (1, .int (nI k)), (2, .int a)] := hl
  refine lv_iload_n hx hb dX5_hushed_0 rfl (lv_at hl 2 rfl) ?_
  refine lv_if_ne (tgt := 12) hx hb dX5_hushed_1 (by decide) (fun c_1 => ?_) (fun c_1 => ?_)
  · skip
    refine lv_iload_n hx hb dX5_hushed_12 rfl (lv_at hl 0 rfl) ?_
    refine lv_iconst (v := 1) hx hb dX5_hushed_13 (by decide) ?_
    refine lv_iload_n hx hb dX5_hushed_14 rfl (lv_at hl 1 rfl) ?_
    refine lv_ishl hx hb dX5_hushed_15 ?_
    refine lv_iconst (v := (-1)) hx hb dX5_hushed_16 (by decide) ?_
    refine lv_ixor hx hb dX5_hushed_17 ?_
    refine lv_iand hx hb dX5_hushed_18 ?_
    refine rSi hx hb hr hlk ?_ dX5_hushed_19
    show (q &&& ((1 <<< ((nI k) &&& 31)) ^^^ (-1))) = _
    unfold sq_; first | rw [if_pos (by assumption)] | rw [if_neg (by assumption)]
  · skip
    refine lv_iload_n hx hb dX5_hushed_4 rfl (lv_at hl 0 rfl) ?_
    refine lv_iconst (v := 1) hx hb dX5_hushed_5 (by decide) ?_
    refine lv_iload_n hx hb dX5_hushed_6 rfl (lv_at hl 1 rfl) ?_
    refine lv_ishl hx hb dX5_hushed_7 ?_
    refine lv_ior hx hb dX5_hushed_8 ?_
    refine lv_goto (tgt := 19) hx hb dX5_hushed_9 (by decide) ?_
    refine rSi hx hb hr hlk ?_ dX5_hushed_19
    show (q ||| (1 <<< ((nI k) &&& 31))) = _
    unfold sq_; first | rw [if_pos (by assumption)] | rw [if_neg (by assumption)]

theorem okX5_isShore : jok yX5_isShore wsX5_isShore cX5_isShore 2 (some .boolean) 1 := ⟨⟨_, rfl⟩, by decide +kernel, by decide +kernel⟩
set_option maxHeartbeats 1000000 in
set_option maxRecDepth 100000 in
theorem qX5_isShore (l : Launch) (D : va_G) (cI cB : ClassId) (r : Nat → Nat) (B : BayT) (M : MT) (a : Int32) (hn7 : sn_ B ≤ 7) : jSi D cI cB l yX5_isShore wsX5_isShore 0 [.ref (r 0), .int a] (mW cI r B M) (fun r => r = b1 (0 ≤ a ∧ a < nI (sn_ B))) := by
  refine jSi.of (cc := cX5_isShore) (maxL := 2) (ret := (some .boolean)) okX5_isShore (Nat.le_of_ble_eq_true rfl) ?_
  intro p e s m below meth c ls hx hb hr hts hown hlk hml hP hK hl
  replace hown : s.vm.findClass RX5 = some m.cls := hown
  replace hl : lv_has ls 2 [(0, .ref (r 0)), (1, .int a)] := hl
  have hinX5 : ∀ w ∈ wsX50, w ∈ wsX5_isShore := by decide +kernel
  refine lv_iload_n hx hb dX5_isShore_0 rfl (lv_at hl 1 rfl) ?_
  refine lv_if_lt (tgt := 16) hx hb dX5_isShore_1 (by decide) (fun c_1 => ?_) (fun c_1 => ?_)
  · have d_1 := Int32.not_le.mpr c_1
    refine lv_iconst (v := 0) hx hb dX5_isShore_16 (by decide) ?_
    refine rSz hx hb hr hlk (Or.inl rfl) ?_ dX5_isShore_17
    show 0 = _
    first | exact (b1_t ⟨by first | assumption | exact Int32.not_le.mp (by assumption) | exact Int32.not_lt.mp (by assumption) | exact Int32.not_le.mpr (by assumption) | exact Int32.not_lt.mpr (by assumption), by first | assumption | exact Int32.not_le.mp (by assumption) | exact Int32.not_lt.mp (by assumption) | exact Int32.not_le.mpr (by assumption) | exact Int32.not_lt.mpr (by assumption)⟩).symm | exact (b1_f (fun z => by first | exact absurd z.1 (by first | assumption | exact Int32.not_le.mp (by assumption) | exact Int32.not_lt.mp (by assumption) | exact Int32.not_le.mpr (by assumption) | exact Int32.not_lt.mpr (by assumption)) | exact absurd z.2 (by first | assumption | exact Int32.not_le.mp (by assumption) | exact Int32.not_lt.mp (by assumption) | exact Int32.not_le.mpr (by assumption) | exact Int32.not_lt.mpr (by assumption)))).symm
  · have d_1 := Int32.not_lt.mp c_1
    refine lv_iload_n hx hb dX5_isShore_4 rfl (lv_at hl 1 rfl) ?_
    refine lv_aload_n hx hb dX5_isShore_5 rfl (lv_at hl 0 rfl) ?_
    refine va_get (ci := 5) (C := RX5) (T := TX5) (N := 33) hx hb hts hinX5 hown hK.1 hP 0 rfl rfl 6 (by decide) (hts _ (List.mem_of_getElem? (i := 1) rfl)) (fun _ h9 => h9) rfl dX5_isShore_6 ?_
    refine lv_icmp_ge (tgt := 16) hx hb dX5_isShore_9 (by decide) (fun c_9 => ?_) (fun c_9 => ?_)
    · have d_9 := Int32.not_lt.mpr c_9
      refine lv_iconst (v := 0) hx hb dX5_isShore_16 (by decide) ?_
      refine rSz hx hb hr hlk (Or.inl rfl) ?_ dX5_isShore_17
      show 0 = _
      first | exact (b1_t ⟨by first | assumption | exact Int32.not_le.mp (by assumption) | exact Int32.not_lt.mp (by assumption) | exact Int32.not_le.mpr (by assumption) | exact Int32.not_lt.mpr (by assumption), by first | assumption | exact Int32.not_le.mp (by assumption) | exact Int32.not_lt.mp (by assumption) | exact Int32.not_le.mpr (by assumption) | exact Int32.not_lt.mpr (by assumption)⟩).symm | exact (b1_f (fun z => by first | exact absurd z.1 (by first | assumption | exact Int32.not_le.mp (by assumption) | exact Int32.not_lt.mp (by assumption) | exact Int32.not_le.mpr (by assumption) | exact Int32.not_lt.mpr (by assumption)) | exact absurd z.2 (by first | assumption | exact Int32.not_le.mp (by assumption) | exact Int32.not_lt.mp (by assumption) | exact Int32.not_le.mpr (by assumption) | exact Int32.not_lt.mpr (by assumption)))).symm
    · have d_9 := Int32.not_le.mp c_9
      refine lv_iconst (v := 1) hx hb dX5_isShore_12 (by decide) ?_
      refine lv_goto (tgt := 17) hx hb dX5_isShore_13 (by decide) ?_
      refine rSz hx hb hr hlk (Or.inr rfl) ?_ dX5_isShore_17
      show 1 = _
      first | exact (b1_t ⟨by first | assumption | exact Int32.not_le.mp (by assumption) | exact Int32.not_lt.mp (by assumption) | exact Int32.not_le.mpr (by assumption) | exact Int32.not_lt.mpr (by assumption), by first | assumption | exact Int32.not_le.mp (by assumption) | exact Int32.not_lt.mp (by assumption) | exact Int32.not_le.mpr (by assumption) | exact Int32.not_lt.mpr (by assumption)⟩).symm | exact (b1_f (fun z => by first | exact absurd z.1 (by first | assumption | exact Int32.not_le.mp (by assumption) | exact Int32.not_lt.mp (by assumption) | exact Int32.not_le.mpr (by assumption) | exact Int32.not_lt.mpr (by assumption)) | exact absurd z.2 (by first | assumption | exact Int32.not_le.mp (by assumption) | exact Int32.not_lt.mp (by assumption) | exact Int32.not_le.mpr (by assumption) | exact Int32.not_lt.mpr (by assumption)))).symm

theorem okX5_shoreAt : jok yX5_shoreAt wsX5_shoreAt cX5_shoreAt 3 (some .int) 1 := ⟨⟨_, rfl⟩, by decide +kernel, by decide +kernel⟩
set_option maxHeartbeats 1000000 in
set_option maxRecDepth 100000 in
theorem qX5_shoreAt (l : Launch) (D : va_G) (cI cB : ClassId) (r : Nat → Nat) (B : BayT) (M : MT) (v : Int32) (hn7 : sn_ B ≤ 7) : jSi D cI cB l yX5_shoreAt wsX5_shoreAt 0 [.ref (r 0), .int v] (mW cI r B M) (fun r => r = oI_ (sa_ B v)) := by
  refine jSi.of (cc := cX5_shoreAt) (maxL := 3) (ret := (some .int)) okX5_shoreAt (Nat.le_of_ble_eq_true rfl) ?_
  intro p e s m below meth c ls hx hb hr hts hown hlk hml hP hK hl
  replace hown : s.vm.findClass RX5 = some m.cls := hown
  replace hl : lv_has ls 3 [(0, .ref (r 0)), (1, .int v)] := hl
  have hinX5 : ∀ w ∈ wsX50, w ∈ wsX5_shoreAt := by decide +kernel
  refine lv_iconst (v := 0) hx hb dX5_shoreAt_0 (by decide) ?_
  refine lv_istore_n (lv' := [(2, .int 0), (0, .ref (r 0)), (1, .int v)]) hx hb dX5_shoreAt_1 rfl hl (by decide) rfl (fun ls hl => ?_)
  have lp_2 : ∀ (fu_2 : Nat) (i : Nat) (x2_2 : Int32) , (x2_2 = nI i) → (i ≤ sn_ B) → (at_ (pl_ B) v (sn_ B - i) i = sa_ B v) → sn_ B - i < fu_2 → ∀ ls : Array Slot, lv_has ls 3 [(2, .int x2_2), (0, .ref (r 0)), (1, .int v)] → W p l e (jR 0) s m ([.ref (r 0), .int v] : List Value).toArray below meth c s.heap [] 0 0 (MQ below (vp_Si (fun r => r = oI_ (sa_ B v))) ([.ref (r 0), .int v] : List Value).toArray s 0 0 (fun _ => False)) (F0 m 2 ls []) := by
    intro fu_2
    induction fu_2 with
    | zero => intro i x2_2 hx2_2 hi hre hfu; exact absurd hfu (Nat.not_lt_zero _)
    | succ fu_2 ih_2 =>
      intro i x2_2 hx2_2 hi hre hfu_2 ls hl
      subst x2_2
      replace hl : lv_has ls 3 [(2, .int (nI i)), (0, .ref (r 0)), (1, .int v)] := hl
      refine lv_iload_n hx hb dX5_shoreAt_2 rfl (lv_at hl 0 rfl) ?_
      refine lv_aload_n hx hb dX5_shoreAt_3 rfl (lv_at hl 1 rfl) ?_
      refine va_get (ci := 5) (C := RX5) (T := TX5) (N := 33) hx hb hts hinX5 hown hK.1 hP 0 rfl rfl 6 (by decide) (hts _ (List.mem_of_getElem? (i := 1) rfl)) (fun _ h9 => h9) rfl dX5_shoreAt_4 ?_
      refine lv_icmp_ge (tgt := 28) hx hb dX5_shoreAt_7 (by decide) (fun c_7 => ?_) (fun c_7 => ?_)
      · replace c_7 : nI (sn_ B) ≤ nI i := c_7
        rw [jle (by omega) (by omega)] at c_7
        refine lv_bipush (v := (-9)) hx hb dX5_shoreAt_28 (by decide) ?_
        refine rSi hx hb hr hlk ?_ dX5_shoreAt_30
        show (-9) = _
        rw [at_0 (by omega)] at hre; rw [← hre]; rfl
      · replace c_7 : ¬ nI (sn_ B) ≤ nI i := c_7
        rw [jle (by omega) (by omega)] at c_7
        refine lv_aload_n hx hb dX5_shoreAt_10 rfl (lv_at hl 1 rfl) ?_
        refine va_get (ci := 5) (C := RX5) (T := TX5) (N := 33) hx hb hts hinX5 hown hK.1 hP 0 rfl rfl 3 (by decide) (hts _ (List.mem_of_getElem? (i := 2) rfl)) (fun _ h9 => h9) rfl dX5_shoreAt_11 ?_
        refine lv_iload_n hx hb dX5_shoreAt_14 rfl (lv_at hl 0 rfl) ?_
        refine jald hx hb hK.1 hP 4 0 i rfl rfl rfl (by omega) (Nat.le_of_ble_eq_true rfl) dX5_shoreAt_15 ?_
        refine lv_iload_n hx hb dX5_shoreAt_16 rfl (lv_at hl 2 rfl) ?_
        refine lv_icmp_ne (tgt := 22) hx hb dX5_shoreAt_17 (by decide) (fun c_17 => ?_) (fun c_17 => ?_)
        · skip
          refine lv_iinc (v := (nI i) + 1) (lv' := [(2, .int ((nI i) + 1)), (0, .ref (r 0)), (1, .int v)]) hx hb dX5_shoreAt_22 hl (k := 0) rfl (by first | rfl | decide) (by decide) rfl (fun ls hl => ?_)
          refine lv_goto (tgt := 2) hx hb dX5_shoreAt_25 (by decide) ?_
          exact ih_2 (i + 1) ((nI i) + 1)  (by first | rfl | exact nI_1 _) (by omega) (by rw [at_s (by omega), if_neg c_17] at hre; exact hre) (by omega) ls (lv_sub hl [0, 1, 2] rfl)
        · skip
          refine lv_iload_n hx hb dX5_shoreAt_20 rfl (lv_at hl 0 rfl) ?_
          refine rSi hx hb hr hlk ?_ dX5_shoreAt_21
          show (nI i) = _
          rw [at_s (by omega), if_pos c_17] at hre; rw [← hre]; rfl
  exact lp_2 ((sn_ B) + 1) 0 0  (by first | rfl | exact nI_0.symm) (by omega) (by rfl) (by omega) ls (lv_sub hl [0, 1, 2] rfl)

theorem okX5_holder : jok yX5_holder wsX5_holder cX5_holder 1 (some .int) 0 := ⟨⟨_, rfl⟩, by decide +kernel, by decide +kernel⟩
set_option maxHeartbeats 1000000 in
set_option maxRecDepth 100000 in
theorem qX5_holder (l : Launch) (D : va_G) (cI cB : ClassId) (r : Nat → Nat) (B : BayT) (M : MT) (hn7 : sn_ B ≤ 7) : jSi D cI cB l yX5_holder wsX5_holder 1 [.ref (r 0)] (mW cI r B M) (fun r => r = oI_ (ow_ B)) := by
  refine jSi.of (cc := cX5_holder) (maxL := 1) (ret := (some .int)) okX5_holder (Nat.le_of_ble_eq_true rfl) ?_
  intro p e s m below meth c ls hx hb hr hts hown hlk hml hP hK hl
  replace hown : s.vm.findClass RX5 = some m.cls := hown
  replace hl : lv_has ls 1 [(0, .ref (r 0))] := hl
  have hinX5 : ∀ w ∈ wsX50, w ∈ wsX5_holder := by decide +kernel
  refine lv_aload_n hx hb dX5_holder_0 rfl (lv_at hl 0 rfl) ?_
  refine lv_aload_n hx hb dX5_holder_1 rfl (lv_at hl 0 rfl) ?_
  refine va_get (ci := 5) (C := RX5) (T := TX5) (N := 33) hx hb hts hinX5 hown hK.1 hP 0 rfl rfl 8 (by decide) (hts _ (List.mem_of_getElem? (i := 1) rfl)) (fun _ h9 => h9) rfl dX5_holder_2 ?_
  refine kSiV hx hb hml hown hts hK hP gX5_holder_X5_shoreAt okX5_shoreAt (qX5_shoreAt l D cI cB r B M (il_ B) (by show sn_ B ≤ 7; omega)) [0, 1, 2, 3, 4, 5, 6, 7, 8, 9, 10, 11, 12, 13, 14, 15] rfl rfl rfl rfl (by decide) hl.1 rfl rfl (Nat.le_of_ble_eq_true rfl) dX5_holder_5 (by decide) (fun r_1 hr_2 => ?_)
  replace hr_2 : r_1 = oI_ (sa_ B (il_ B)) := hr_2
  subst r_1
  refine rSi hx hb hr hlk ?_ dX5_holder_8
  show (oI_ (sa_ B (il_ B))) = _
  rfl

