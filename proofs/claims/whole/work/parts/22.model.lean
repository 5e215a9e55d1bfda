theorem okX5_isIn : jok yX5_isIn wsX5_isIn cX5_isIn 3 (some .boolean) 3 := ⟨⟨_, rfl⟩, by decide +kernel, by decide +kernel⟩
set_option maxHeartbeats 4000000 in
set_option maxRecDepth 100000 in
theorem qX5_isIn (l : Launch) (D : va_G) (cI cB : ClassId) (v : Int32) (a : Int32) (b : Int32)  : jSi D cI cB l yX5_isIn wsX5_isIn 0 [.int v, .int a, .int b] ([] : va_W) (fun r => r = b1 (a ≤ v ∧ v ≤ b)) := by
  refine jSi.of (cc := cX5_isIn) (maxL := 3) (ret := (some .boolean)) okX5_isIn (Nat.le_of_ble_eq_true rfl) ?_
  intro p e s m below meth c ls hx hb hr hts hown hlk hml hP hK hl
  replace hown : s.vm.findClass RX5 = some m.cls := hown
  replace hl : lv_has ls 3 [(0, .int v), (1, .int a), (2, .int b)] := hl
  refine lv_iload_n hx hb dX5_isIn_0 rfl (lv_at hl 0 rfl) ?_
  refine lv_iload_n hx hb dX5_isIn_1 rfl (lv_at hl 1 rfl) ?_
  refine lv_icmp_lt (tgt := 14) hx hb dX5_isIn_2 (by decide) (fun c_2 => ?_) (fun c_2 => ?_)
  · skip
    refine lv_iconst (v := 0) hx hb dX5_isIn_14 (by decide) ?_
    refine rSz hx hb hr hlk (Or.inl rfl) ?_ dX5_isIn_15
    show 0 = _
    simp_all [b1]
  · skip
    refine lv_iload_n hx hb dX5_isIn_5 rfl (lv_at hl 0 rfl) ?_
    refine lv_iload_n hx hb dX5_isIn_6 rfl (lv_at hl 2 rfl) ?_
    refine lv_icmp_gt (tgt := 14) hx hb dX5_isIn_7 (by decide) (fun c_7 => ?_) (fun c_7 => ?_)
    · skip
      refine lv_iconst (v := 0) hx hb dX5_isIn_14 (by decide) ?_
      refine rSz hx hb hr hlk (Or.inl rfl) ?_ dX5_isIn_15
      show 0 = _
      simp_all [b1]
    · skip
      refine lv_iconst (v := 1) hx hb dX5_isIn_10 (by decide) ?_
      refine lv_goto (tgt := 15) hx hb dX5_isIn_11 (by decide) ?_
      refine rSz hx hb hr hlk (Or.inr rfl) ?_ dX5_isIn_15
      show 1 = _
      simp_all [b1]

theorem okX5_bound : jok yX5_bound wsX5_bound cX5_bound 3 (some .int) 3 := ⟨⟨_, rfl⟩, by decide +kernel, by decide +kernel⟩
set_option maxHeartbeats 4000000 in
set_option maxRecDepth 100000 in
theorem qX5_bound (l : Launch) (D : va_G) (cI cB : ClassId) (v : Int32) (a : Int32) (b : Int32)  : jSi D cI cB l yX5_bound wsX5_bound 0 [.int v, .int a, .int b] ([] : va_W) (fun r => r = ob_ v a b) := by
  refine jSi.of (cc := cX5_bound) (maxL := 3) (ret := (some .int)) okX5_bound (Nat.le_of_ble_eq_true rfl) ?_
  intro p e s m below meth c ls hx hb hr hts hown hlk hml hP hK hl
  replace hown : s.vm.findClass RX5 = some m.cls := hown
  replace hl : lv_has ls 3 [(0, .int v), (1, .int a), (2, .int b)] := hl
  refine lv_iload_n hx hb dX5_bound_0 rfl (lv_at hl 0 rfl) ?_
  refine lv_iload_n hx hb dX5_bound_1 rfl (lv_at hl 1 rfl) ?_
  refine lv_icmp_ge (tgt := 10) hx hb dX5_bound_2 (by decide) (fun c_2 => ?_) (fun c_2 => ?_)
  · skip
    refine lv_iload_n hx hb dX5_bound_10 rfl (lv_at hl 0 rfl) ?_
    refine lv_iload_n hx hb dX5_bound_11 rfl (lv_at hl 2 rfl) ?_
    refine lv_icmp_le (tgt := 20) hx hb dX5_bound_12 (by decide) (fun c_12 => ?_) (fun c_12 => ?_)
    · skip
      refine lv_iconst (v := 0) hx hb dX5_bound_20 (by decide) ?_
      refine rSi hx hb hr hlk ?_ dX5_bound_21
      show 0 = _
      simp_all [ob_]
    · skip
      refine lv_bipush (v := (-6)) hx hb dX5_bound_15 (by decide) ?_
      refine lv_goto (tgt := 21) hx hb dX5_bound_17 (by decide) ?_
      refine rSi hx hb hr hlk ?_ dX5_bound_21
      show (-6) = _
      simp_all [ob_]
  · skip
    refine lv_bipush (v := (-4)) hx hb dX5_bound_5 (by decide) ?_
    refine lv_goto (tgt := 21) hx hb dX5_bound_7 (by decide) ?_
    refine rSi hx hb hr hlk ?_ dX5_bound_21
    show (-4) = _
    simp_all [ob_]

theorem okX5_held : jok yX5_held wsX5_held cX5_held 3 (some .int) 3 := ⟨⟨_, rfl⟩, by decide +kernel, by decide +kernel⟩
set_option maxHeartbeats 4000000 in
set_option maxRecDepth 100000 in
theorem qX5_held (l : Launch) (D : va_G) (cI cB : ClassId) (v : Int32) (a : Int32) (b : Int32)  : jSi D cI cB l yX5_held wsX5_held 0 [.int v, .int a, .int b] ([] : va_W) (fun r => r = he_ v a b) := by
  refine jSi.of (cc := cX5_held) (maxL := 3) (ret := (some .int)) okX5_held (Nat.le_of_ble_eq_true rfl) ?_
  intro p e s m below meth c ls hx hb hr hts hown hlk hml hP hK hl
  replace hown : s.vm.findClass RX5 = some m.cls := hown
  replace hl : lv_has ls 3 [(0, .int v), (1, .int a), (2, .int b)] := hl
  refine lv_iload_n hx hb dX5_held_0 rfl (lv_at hl 0 rfl) ?_
  refine lv_iload_n hx hb dX5_held_1 rfl (lv_at hl 1 rfl) ?_
  refine lv_icmp_ge (tgt := 9) hx hb dX5_held_2 (by decide) (fun c_2 => ?_) (fun c_2 => ?_)
  · skip
    refine lv_iload_n hx hb dX5_held_9 rfl (lv_at hl 0 rfl) ?_
    refine lv_iload_n hx hb dX5_held_10 rfl (lv_at hl 2 rfl) ?_
    refine lv_icmp_le (tgt := 18) hx hb dX5_held_11 (by decide) (fun c_11 => ?_) (fun c_11 => ?_)
    · skip
      refine lv_iload_n hx hb dX5_held_18 rfl (lv_at hl 0 rfl) ?_
      refine rSi hx hb hr hlk ?_ dX5_held_19
      show v = _
      simp_all [he_]
    · skip
      refine lv_iload_n hx hb dX5_held_14 rfl (lv_at hl 2 rfl) ?_
      refine lv_goto (tgt := 19) hx hb dX5_held_15 (by decide) ?_
      refine rSi hx hb hr hlk ?_ dX5_held_19
      show b = _
      simp_all [he_]
  · skip
    refine lv_iload_n hx hb dX5_held_5 rfl (lv_at hl 1 rfl) ?_
    refine lv_goto (tgt := 19) hx hb dX5_held_6 (by decide) ?_
    refine rSi hx hb hr hlk ?_ dX5_held_19
    show a = _
    simp_all [he_]

theorem okX5_has : jok yX5_has wsX5_has cX5_has 2 (some .boolean) 2 := ⟨⟨_, rfl⟩, by decide +kernel, by decide +kernel⟩
set_option maxHeartbeats 4000000 in
set_option maxRecDepth 100000 in
theorem qX5_has (l : Launch) (D : va_G) (cI cB : ClassId) (q : Int32) (k : Nat)  : jSi D cI cB l yX5_has wsX5_has 0 [.int q, .int (nI k)] ([] : va_W) (fun r => r = b1 (qb_ q k = 1)) := by
  refine jSi.of (cc := cX5_has) (maxL := 2) (ret := (some .boolean)) okX5_has (Nat.le_of_ble_eq_true rfl) ?_
  intro p e s m below meth c ls hx hb hr hts hown hlk hml hP hK hl
  replace hown : s.vm.findClass RX5 = some m.cls := hown
  replace hl : lv_has ls 2 [(0, .int q), (1, .int (nI k))] := hl
  refine lv_iload_n hx hb dX5_has_0 rfl (lv_at hl 0 rfl) ?_
  refine lv_iload_n hx hb dX5_has_1 rfl (lv_at hl 1 rfl) ?_
  refine lv_ishr hx hb dX5_has_2 ?_
  refine lv_iconst (v := 1) hx hb dX5_has_3 (by decide) ?_
  refine lv_iand hx hb dX5_has_4 ?_
  refine lv_iconst (v := 1) hx hb dX5_has_5 (by decide) ?_
  refine lv_icmp_ne (tgt := 13) hx hb dX5_has_6 (by decide) (fun c_6 => ?_) (fun c_6 => ?_)
  · skip
    refine lv_iconst (v := 0) hx hb dX5_has_13 (by decide) ?_
    refine rSz hx hb hr hlk (Or.inl rfl) ?_ dX5_has_14
    show 0 = _
    first | exact (b1_t (by assumption)).symm | exact (b1_f (by assumption)).symm
  · skip
    refine lv_iconst (v := 1) hx hb dX5_has_9 (by decide) ?_
    refine lv_goto (tgt := 14) hx hb dX5_has_10 (by decide) ?_
    refine rSz hx hb hr hlk (Or.inr rfl) ?_ dX5_has_14
    show 1 = _
    first | exact (b1_t (by assumption)).symm | exact (b1_f (by assumption)).symm

theorem okX5_far : jok yX5_far wsX5_far cX5_far 2 (some .int) 2 := ⟨⟨_, rfl⟩, by decide +kernel, by decide +kernel⟩
set_option maxHeartbeats 4000000 in
set_option maxRecDepth 100000 in
theorem qX5_far (l : Launch) (D : va_G) (cI cB : ClassId) (a : Int32) (b : Int32)  : jSi D cI cB l yX5_far wsX5_far 0 [.int a, .int b] ([] : va_W) (fun r => r = fr_ a b) := by
  refine jSi.of (cc := cX5_far) (maxL := 2) (ret := (some .int)) okX5_far (Nat.le_of_ble_eq_true rfl) ?_
  intro p e s m below meth c ls hx hb hr hts hown hlk hml hP hK hl
  replace hown : s.vm.findClass RX5 = some m.cls := hown
  replace hl : lv_has ls 2 [(0, .int a), (1, .int b)] := hl
  refine lv_iload_n hx hb dX5_far_0 rfl (lv_at hl 0 rfl) ?_
  refine lv_iload_n hx hb dX5_far_1 rfl (lv_at hl 1 rfl) ?_
  refine lv_icmp_le (tgt := 11) hx hb dX5_far_2 (by decide) (fun c_2 => ?_) (fun c_2 => ?_)
  · skip
    refine lv_iload_n hx hb dX5_far_11 rfl (lv_at hl 1 rfl) ?_
    refine lv_iload_n hx hb dX5_far_12 rfl (lv_at hl 0 rfl) ?_
    refine lv_isub hx hb dX5_far_13 ?_
    refine rSi hx hb hr hlk ?_ dX5_far_14
    show (b - a) = _
    simp_all [fr_]
  · skip
    refine lv_iload_n hx hb dX5_far_5 rfl (lv_at hl 0 rfl) ?_
    refine lv_iload_n hx hb dX5_far_6 rfl (lv_at hl 1 rfl) ?_
    refine lv_isub hx hb dX5_far_7 ?_
    refine lv_goto (tgt := 14) hx hb dX5_far_8 (by decide) ?_
    refine rSi hx hb hr hlk ?_ dX5_far_14
    show (a - b) = _
    simp_all [fr_]

theorem okX5_isPlace : jok yX5_isPlace wsX5_isPlace cX5_isPlace 1 (some .boolean) 1 := ⟨⟨_, rfl⟩, by decide +kernel, by decide +kernel⟩
set_option maxHeartbeats 4000000 in
set_option maxRecDepth 100000 in
theorem qX5_isPlace (l : Launch) (D : va_G) (cI cB : ClassId) (v : Int32)  : jSi D cI cB l yX5_isPlace wsX5_isPlace 0 [.int v] ([] : va_W) (fun r => r = b1 (0 ≤ v ∧ v ≤ 30)) := by
  refine jSi.of (cc := cX5_isPlace) (maxL := 1) (ret := (some .boolean)) okX5_isPlace (Nat.le_of_ble_eq_true rfl) ?_
  intro p e s m below meth c ls hx hb hr hts hown hlk hml hP hK hl
  replace hown : s.vm.findClass RX5 = some m.cls := hown
  replace hl : lv_has ls 1 [(0, .int v)] := hl
  refine lv_iload_n hx hb dX5_isPlace_0 rfl (lv_at hl 0 rfl) ?_
  refine lv_if_lt (tgt := 14) hx hb dX5_isPlace_1 (by decide) (fun c_1 => ?_) (fun c_1 => ?_)
  · skip
    refine lv_iconst (v := 0) hx hb dX5_isPlace_14 (by decide) ?_
    refine rSz hx hb hr hlk (Or.inl rfl) ?_ dX5_isPlace_15
    show 0 = _
    simp_all [b1]
  · skip
    refine lv_iload_n hx hb dX5_isPlace_4 rfl (lv_at hl 0 rfl) ?_
    refine lv_bipush (v := 30) hx hb dX5_isPlace_5 (by decide) ?_
    refine lv_icmp_gt (tgt := 14) hx hb dX5_isPlace_7 (by decide) (fun c_7 => ?_) (fun c_7 => ?_)
    · skip
      refine lv_iconst (v := 0) hx hb dX5_isPlace_14 (by decide) ?_
      refine rSz hx hb hr hlk (Or.inl rfl) ?_ dX5_isPlace_15
      show 0 = _
      simp_all [b1]
    · skip
      refine lv_iconst (v := 1) hx hb dX5_isPlace_10 (by decide) ?_
      refine lv_goto (tgt := 15) hx hb dX5_isPlace_11 (by decide) ?_
      refine rSz hx hb hr hlk (Or.inr rfl) ?_ dX5_isPlace_15
      show 1 = _
      simp_all [b1]

theorem okX5_notHours : jok yX5_notHours wsX5_notHours cX5_notHours 1 (some .int) 1 := ⟨⟨_, rfl⟩, by decide +kernel, by decide +kernel⟩
set_option maxHeartbeats 4000000 in
set_option maxRecDepth 100000 in
theorem qX5_notHours (l : Launch) (D : va_G) (cI cB : ClassId) (v : Int32)  : jSi D cI cB l yX5_notHours wsX5_notHours 1 [.int v] ([] : va_W) (fun r => r = ob_ v 0 99) := by
  refine jSi.of (cc := cX5_notHours) (maxL := 1) (ret := (some .int)) okX5_notHours (Nat.le_of_ble_eq_true rfl) ?_
  intro p e s m below meth c ls hx hb hr hts hown hlk hml hP hK hl
  replace hown : s.vm.findClass RX5 = some m.cls := hown
  replace hl : lv_has ls 1 [(0, .int v)] := hl
  refine lv_iload_n hx hb dX5_notHours_0 rfl (lv_at hl 0 rfl) ?_
  refine lv_iconst (v := 0) hx hb dX5_notHours_1 (by decide) ?_
  refine lv_bipush (v := 99) hx hb dX5_notHours_2 (by decide) ?_
  refine kSiS hx hb hml hown hts hK hP gX5_notHours_X5_bound okX5_bound (qX5_bound l D cI cB v 0 99 ) [] rfl (by decide) hl.1 rfl rfl (by decide) dX5_notHours_4 (by decide) (fun r_1 hr_2 => ?_)
  replace hr_2 : r_1 = ob_ v 0 99 := hr_2
  subst hr_2
  refine rSi hx hb hr hlk ?_ dX5_notHours_7
  show (ob_ v 0 99) = _
  rfl

theorem okX5_hushed : jok yX5_hushed wsX5_hushed cX5_hushed 3 (some .int) 3 := ⟨⟨_, rfl⟩, by decide +kernel, by decide +kernel⟩
set_option maxHeartbeats 4000000 in
set_option maxRecDepth 100000 in
theorem qX5_hushed (l : Launch) (D : va_G) (cI cB : ClassId) (q : Int32) (k : Nat) (a : Int32)  : jSi D cI cB l yX5_hushed wsX5_hushed 0 [.int q, .int (nI k), .int a] ([] : va_W) (fun r => r = sq_ (a = 0) q k) := by
  refine jSi.of (cc := cX5_hushed) (maxL := 3) (ret := (some .int)) okX5_hushed (Nat.le_of_ble_eq_true rfl) ?_
  intro p e s m below meth c ls hx hb hr hts hown hlk hml hP hK hl
  replace hown : s.vm.findClass RX5 = some m.cls := hown
  replace hl : lv_has ls 3 [(0, .int q), (1, .int (nI k)), (2, .int a)] := hl
  refine lv_iload_n hx hb dX5_hushed_0 rfl (lv_at hl 2 rfl) ?_
  refine lv_if_ne (tgt := 12) hx hb dX5_hushed_1 (by decide) (fun c_1 => ?_) (fun c_1 => ?_)
  · skip
    refine lv_iload_n hx hb dX5_hushed_12 rfl (lv_at hl 0 rfl) ?_
    refine lv_iconst (v := 1) hx hb dX5_hushed_13 (by decide) ?_
    refine lv_iload_n hx hb dX5_hushed_14 rfl (lv_at hl 1 rfl) ?_
    refine lv_ishl hx hb dX5_hushed_15 ?_
    refine lv_iconst (v := (-1)) hx hb dX5_hushed_16 (by decide) ?_
    refine lv_ixor hx hb dX5_hushed_17 ?_
    refine lv_iand hx hb dX5_hushed_18 ?_
    refine rSi hx hb hr hlk ?_ dX5_hushed_19
    show (q &&& ((1 <<< ((nI k) &&& 31)) ^^^ (-1))) = _
    unfold sq_; first | rw [if_pos (by assumption)] | rw [if_neg (by assumption)]
  · skip
    refine lv_iload_n hx hb dX5_hushed_4 rfl (lv_at hl 0 rfl) ?_
    refine lv_iconst (v := 1) hx hb dX5_hushed_5 (by decide) ?_
    refine lv_iload_n hx hb dX5_hushed_6 rfl (lv_at hl 1 rfl) ?_
    refine lv_ishl hx hb dX5_hushed_7 ?_
    refine lv_ior hx hb dX5_hushed_8 ?_
    refine lv_goto (tgt := 19) hx hb dX5_hushed_9 (by decide) ?_
    refine rSi hx hb hr hlk ?_ dX5_hushed_19
    show (q ||| (1 <<< ((nI k) &&& 31))) = _
    unfold sq_; first | rw [if_pos (by assumption)] | rw [if_neg (by assumption)]

theorem okX5_isShore : jok yX5_isShore wsX5_isShore cX5_isShore 2 (some .boolean) 1 := ⟨⟨_, rfl⟩, by decide +kernel, by decide +kernel⟩
set_option maxHeartbeats 4000000 in
set_option maxRecDepth 100000 in
theorem qX5_isShore (l : Launch) (D : va_G) (cI cB : ClassId) (r : Nat → Nat) (B : BayT) (M : MT) (a : Int32) (hn7 : sn_ B ≤ 7) : jSi D cI cB l yX5_isShore wsX5_isShore 0 [.ref (r 0), .int a] (mW cI r B M) (fun r => r = b1 (0 ≤ a ∧ a < nI (sn_ B))) := by
  refine jSi.of (cc := cX5_isShore) (maxL := 2) (ret := (some .boolean)) okX5_isShore (Nat.le_of_ble_eq_true rfl) ?_
  intro p e s m below meth c ls hx hb hr hts hown hlk hml hP hK hl
  replace hown : s.vm.findClass RX5 = some m.cls := hown
  replace hl : lv_has ls 2 [(0, .ref (r 0)), (1, .int a)] := hl
  have hinX5 : ∀ w ∈ wsX50, w ∈ wsX5_isShore := by decide +kernel
  refine lv_iload_n hx hb dX5_isShore_0 rfl (lv_at hl 1 rfl) ?_
  refine lv_if_lt (tgt := 16) hx hb dX5_isShore_1 (by decide) (fun c_1 => ?_) (fun c_1 => ?_)
  · skip
    refine lv_iconst (v := 0) hx hb dX5_isShore_16 (by decide) ?_
    refine rSz hx hb hr hlk (Or.inl rfl) ?_ dX5_isShore_17
    show 0 = _
    simp_all [b1]
  · skip
    refine lv_iload_n hx hb dX5_isShore_4 rfl (lv_at hl 1 rfl) ?_
    refine lv_aload_n hx hb dX5_isShore_5 rfl (lv_at hl 0 rfl) ?_
    refine va_get (ci := 5) (C := RX5) (T := TX5) (N := 33) hx hb hts hinX5 hown hK.1 hP 0 rfl rfl 6 (by decide) (hts _ (List.mem_of_getElem? (i := 1) rfl)) (fun _ h9 => h9) rfl dX5_isShore_6 ?_
    refine lv_icmp_ge (tgt := 16) hx hb dX5_isShore_9 (by decide) (fun c_9 => ?_) (fun c_9 => ?_)
    · skip
      refine lv_iconst (v := 0) hx hb dX5_isShore_16 (by decide) ?_
      refine rSz hx hb hr hlk (Or.inl rfl) ?_ dX5_isShore_17
      show 0 = _
      simp_all [b1]
    · skip
      refine lv_iconst (v := 1) hx hb dX5_isShore_12 (by decide) ?_
      refine lv_goto (tgt := 17) hx hb dX5_isShore_13 (by decide) ?_
      refine rSz hx hb hr hlk (Or.inr rfl) ?_ dX5_isShore_17
      show 1 = _
      simp_all [b1]

theorem okX5_shoreAt : jok yX5_shoreAt wsX5_shoreAt cX5_shoreAt 3 (some .int) 1 := ⟨⟨_, rfl⟩, by decide +kernel, by decide +kernel⟩
set_option maxHeartbeats 4000000 in
set_option maxRecDepth 100000 in
theorem qX5_shoreAt (l : Launch) (D : va_G) (cI cB : ClassId) (r : Nat → Nat) (B : BayT) (M : MT) (v : Int32) (hn7 : sn_ B ≤ 7) : jSi D cI cB l yX5_shoreAt wsX5_shoreAt 0 [.ref (r 0), .int v] (mW cI r B M) (fun r => r = oI_ (sa_ B v)) := by
  refine jSi.of (cc := cX5_shoreAt) (maxL := 3) (ret := (some .int)) okX5_shoreAt (Nat.le_of_ble_eq_true rfl) ?_
  intro p e s m below meth c ls hx hb hr hts hown hlk hml hP hK hl
  replace hown : s.vm.findClass RX5 = some m.cls := hown
  replace hl : lv_has ls 3 [(0, .ref (r 0)), (1, .int v)] := hl
  have hinX5 : ∀ w ∈ wsX50, w ∈ wsX5_shoreAt := by decide +kernel
  refine lv_iconst (v := 0) hx hb dX5_shoreAt_0 (by decide) ?_
  refine lv_istore_n (lv' := [(2, .int 0), (0, .ref (r 0)), (1, .int v)]) hx hb dX5_shoreAt_1 rfl hl (by decide) rfl (fun ls hl => ?_)
  have lp_2 : ∀ (fu_2 : Nat) (i : Nat) (x2_2 : Int32) , (x2_2 = nI i) → (i ≤ sn_ B) → (at_ (pl_ B) v (sn_ B - i) i = sa_ B v) → sn_ B - i < fu_2 → ∀ ls : Array Slot, lv_has ls 3 [(2, .int x2_2), (0, .ref (r 0)), (1, .int v)] → W p l e (jR 0) s m ([.ref (r 0), .int v] : List Value).toArray below meth c s.heap [] 0 0 (MQ below (vp_Si (fun r => r = oI_ (sa_ B v))) ([.ref (r 0), .int v] : List Value).toArray s 0 0 (fun _ => False)) (F0 m 2 ls []) := by
    intro fu_2
    induction fu_2 with
    | zero => intro i x2_2 hx2_2 hi hre hfu; exact absurd hfu (Nat.not_lt_zero _)
    | succ fu_2 ih_2 =>
      intro i x2_2 hx2_2 hi hre hfu_2 ls hl
      subst hx2_2
      replace hl : lv_has ls 3 [(2, .int (nI i)), (0, .ref (r 0)), (1, .int v)] := hl
      refine lv_iload_n hx hb dX5_shoreAt_2 rfl (lv_at hl 0 rfl) ?_
      refine lv_aload_n hx hb dX5_shoreAt_3 rfl (lv_at hl 1 rfl) ?_
      refine va_get (ci := 5) (C := RX5) (T := TX5) (N := 33) hx hb hts hinX5 hown hK.1 hP 0 rfl rfl 6 (by decide) (hts _ (List.mem_of_getElem? (i := 1) rfl)) (fun _ h9 => h9) rfl dX5_shoreAt_4 ?_
      refine lv_icmp_ge (tgt := 28) hx hb dX5_shoreAt_7 (by decide) (fun c_7 => ?_) (fun c_7 => ?_)
      · replace c_7 : nI (sn_ B) ≤ nI i := c_7
        rw [jle (by omega) (by omega)] at c_7
        refine lv_bipush (v := (-9)) hx hb dX5_shoreAt_28 (by decide) ?_
        refine rSi hx hb hr hlk ?_ dX5_shoreAt_30
        show (-9) = _
        rw [at_0 (by omega)] at hre; rw [← hre]; rfl
      · replace c_7 : ¬ nI (sn_ B) ≤ nI i := c_7
        rw [jle (by omega) (by omega)] at c_7
        refine lv_aload_n hx hb dX5_shoreAt_10 rfl (lv_at hl 1 rfl) ?_
        refine va_get (ci := 5) (C := RX5) (T := TX5) (N := 33) hx hb hts hinX5 hown hK.1 hP 0 rfl rfl 3 (by decide) (hts _ (List.mem_of_getElem? (i := 2) rfl)) (fun _ h9 => h9) rfl dX5_shoreAt_11 ?_
        refine lv_iload_n hx hb dX5_shoreAt_14 rfl (lv_at hl 0 rfl) ?_
        refine jald hx hb hK.1 hP 4 0 i rfl rfl rfl (by omega) (Nat.le_of_ble_eq_true rfl) dX5_shoreAt_15 ?_
        refine lv_iload_n hx hb dX5_shoreAt_16 rfl (lv_at hl 2 rfl) ?_
        refine lv_icmp_ne (tgt := 22) hx hb dX5_shoreAt_17 (by decide) (fun c_17 => ?_) (fun c_17 => ?_)
        · skip
          refine lv_iinc (v := (nI i) + 1) (lv' := [(2, .int ((nI i) + 1)), (0, .ref (r 0)), (1, .int v)]) hx hb dX5_shoreAt_22 hl (k := 0) rfl (by first | rfl | decide) (by decide) rfl (fun ls hl => ?_)
          refine lv_goto (tgt := 2) hx hb dX5_shoreAt_25 (by decide) ?_
          exact ih_2 (i + 1) ((nI i) + 1)  (by first | rfl | exact nI_1 _) (by omega) (by rw [at_s (by omega), if_neg c_17] at hre; exact hre) (by omega) ls (lv_sub hl [0, 1, 2] rfl)
        · skip
          refine lv_iload_n hx hb dX5_shoreAt_20 rfl (lv_at hl 0 rfl) ?_
          refine rSi hx hb hr hlk ?_ dX5_shoreAt_21
          show (nI i) = _
          rw [at_s (by omega), if_pos c_17] at hre; rw [← hre]; rfl
  exact lp_2 ((sn_ B) + 1) 0 0  (by first | rfl | exact nI_0.symm) (by omega) (by rfl) (by omega) ls (lv_sub hl [0, 1, 2] rfl)

theorem okX5_holder : jok yX5_holder wsX5_holder cX5_holder 1 (some .int) 0 := ⟨⟨_, rfl⟩, by decide +kernel, by decide +kernel⟩
set_option maxHeartbeats 4000000 in
set_option maxRecDepth 100000 in
theorem qX5_holder (l : Launch) (D : va_G) (cI cB : ClassId) (r : Nat → Nat) (B : BayT) (M : MT) (hn7 : sn_ B ≤ 7) : jSi D cI cB l yX5_holder wsX5_holder 1 [.ref (r 0)] (mW cI r B M) (fun r => r = oI_ (ow_ B)) := by
  refine jSi.of (cc := cX5_holder) (maxL := 1) (ret := (some .int)) okX5_holder (Nat.le_of_ble_eq_true rfl) ?_
  intro p e s m below meth c ls hx hb hr hts hown hlk hml hP hK hl
  replace hown : s.vm.findClass RX5 = some m.cls := hown
  replace hl : lv_has ls 1 [(0, .ref (r 0))] := hl
  have hinX5 : ∀ w ∈ wsX50, w ∈ wsX5_holder := by decide +kernel
  refine lv_aload_n hx hb dX5_holder_0 rfl (lv_at hl 0 rfl) ?_
  refine lv_aload_n hx hb dX5_holder_1 rfl (lv_at hl 0 rfl) ?_
  refine va_get (ci := 5) (C := RX5) (T := TX5) (N := 33) hx hb hts hinX5 hown hK.1 hP 0 rfl rfl 8 (by decide) (hts _ (List.mem_of_getElem? (i := 1) rfl)) (fun _ h9 => h9) rfl dX5_holder_2 ?_
  refine kSiV hx hb hml hown hts hK hP gX5_holder_X5_shoreAt okX5_shoreAt (qX5_shoreAt l D cI cB r B M (il_ B) (by show sn_ B ≤ 7; omega)) [0, 1, 2, 3, 4, 5, 6, 7, 8, 9, 10, 11, 12, 13, 14, 15] rfl rfl rfl rfl (by decide) hl.1 rfl rfl (by decide) dX5_holder_5 (by decide) (fun r_1 hr_2 => ?_)
  replace hr_2 : r_1 = oI_ (sa_ B (il_ B)) := hr_2
  subst hr_2
  refine rSi hx hb hr hlk ?_ dX5_holder_8
  show (oI_ (sa_ B (il_ B))) = _
  rfl

theorem okX5_loudOf : jok yX5_loudOf wsX5_loudOf cX5_loudOf 4 (some .int) 2 := ⟨⟨_, rfl⟩, by decide +kernel, by decide +kernel⟩
set_option maxHeartbeats 4000000 in
set_option maxRecDepth 100000 in
theorem qX5_loudOf (l : Launch) (D : va_G) (cI cB : ClassId) (r : Nat → Nat) (B : BayT) (M : MT) (k : Nat) (h : Int32) (hk : k < 7) (hkd : 0 ≤ kd_ B k ∧ kd_ B k ≤ 5) : jSi D cI cB l yX5_loudOf wsX5_loudOf 1 [.ref (r 0), .int (nI k), .int h] (mW cI r B M) (fun r => r = ld_ (kd_ B k) (fg_ B k) h) := by
  refine jSi.of (cc := cX5_loudOf) (maxL := 4) (ret := (some .int)) okX5_loudOf (Nat.le_of_ble_eq_true rfl) ?_
  intro p e s m below meth c ls hx hb hr hts hown hlk hml hP hK hl
  replace hown : s.vm.findClass RX5 = some m.cls := hown
  replace hl : lv_has ls 4 [(0, .ref (r 0)), (1, .int (nI k)), (2, .int h)] := hl
  have hinX5 : ∀ w ∈ wsX50, w ∈ wsX5_loudOf := by decide +kernel
  refine lv_iload_n hx hb dX5_loudOf_0 rfl (lv_at hl 2 rfl) ?_
  refine lv_iconst (v := 2) hx hb dX5_loudOf_1 (by decide) ?_
  refine lv_irem hx hb dX5_loudOf_2 (by decide) ?_
  refine lv_if_ne (tgt := 17) hx hb dX5_loudOf_3 (by decide) (fun c_3 => ?_) (fun c_3 => ?_)
  · skip
    refine lv_iconst (v := 0) hx hb dX5_loudOf_17 (by decide) ?_
    refine lv_istore_n (lv' := [(3, .int 0), (0, .ref (r 0)), (1, .int (nI k)), (2, .int h)]) hx hb dX5_loudOf_18 rfl hl (by decide) rfl (fun ls hl => ?_)
    refine lv_aload_n hx hb dX5_loudOf_19 rfl (lv_at hl 1 rfl) ?_
    refine va_get (ci := 5) (C := RX5) (T := TX5) (N := 33) hx hb hts hinX5 hown hK.1 hP 0 rfl rfl 1 (by decide) (hts _ (List.mem_of_getElem? (i := 2) rfl)) (fun _ h9 => h9) rfl dX5_loudOf_20 ?_
    refine lv_iload_n hx hb dX5_loudOf_23 rfl (lv_at hl 2 rfl) ?_
    refine jald hx hb hK.1 hP 2 0 k rfl rfl rfl (by omega) (Nat.le_of_ble_eq_true rfl) dX5_loudOf_24 ?_
    by_cases c_25_1 : (kd_ B) k = 1
    · refine lv_tableIn (off := 35) (tgt := 60) hx hb dX5_loudOf_25 (by rw [c_25_1]; decide) (by rw [c_25_1]; decide) (by rw [c_25_1]; rfl) (by decide) ?_
      refine lv_iload_n hx hb dX5_loudOf_60 rfl (lv_at hl 0 rfl) ?_
      refine rSi hx hb hr hlk ?_ dX5_loudOf_61
      show 0 = _
      first | (simp_all [ld_]; done) | (have e0 : kd_ B k = 0 := kd_z hkd (by assumption) (by assumption) (by assumption) (by assumption) (by assumption); simp_all [ld_])
    by_cases c_25_2 : (kd_ B) k = 2
    · refine lv_tableIn (off := 37) (tgt := 62) hx hb dX5_loudOf_25 (by rw [c_25_2]; decide) (by rw [c_25_2]; decide) (by rw [c_25_2]; rfl) (by decide) ?_
      refine lv_iconst (v := 4) hx hb dX5_loudOf_62 (by decide) ?_
      refine rSi hx hb hr hlk ?_ dX5_loudOf_63
      show 4 = _
      first | (simp_all [ld_]; done) | (have e0 : kd_ B k = 0 := kd_z hkd (by assumption) (by assumption) (by assumption) (by assumption) (by assumption); simp_all [ld_])
    by_cases c_25_3 : (kd_ B) k = 3
    · refine lv_tableIn (off := 39) (tgt := 64) hx hb dX5_loudOf_25 (by rw [c_25_3]; decide) (by rw [c_25_3]; decide) (by rw [c_25_3]; rfl) (by decide) ?_
      refine lv_iload_n hx hb dX5_loudOf_64 rfl (lv_at hl 3 rfl) ?_
      refine lv_bipush (v := 9) hx hb dX5_loudOf_65 (by decide) ?_
      refine lv_bipush (v := 11) hx hb dX5_loudOf_67 (by decide) ?_
      refine kSiS hx hb hml hown hts hK hP gX5_loudOf_X5_isIn okX5_isIn (qX5_isIn l D cI cB h 9 11 ) [] rfl (by decide) hl.1 rfl rfl (by decide) dX5_loudOf_69 (by decide) (fun r_1 hr_2 => ?_)
      replace hr_2 : r_1 = b1 (9 ≤ h ∧ h ≤ 11) := hr_2
      subst hr_2
      refine lv_if_ne (tgt := 86) hx hb dX5_loudOf_72 (by decide) (fun c_72 => ?_) (fun c_72 => ?_)
      · replace c_72 := b1_n c_72
        refine lv_iconst (v := 2) hx hb dX5_loudOf_86 (by decide) ?_
        refine lv_iload_n hx hb dX5_loudOf_87 rfl (lv_at hl 0 rfl) ?_
        refine lv_imul hx hb dX5_loudOf_88 ?_
        refine lv_goto (tgt := 93) hx hb dX5_loudOf_89 (by decide) ?_
        refine rSi hx hb hr hlk ?_ dX5_loudOf_93
        show (2 * 0) = _
        first | (simp_all [ld_]; done) | (have e0 : kd_ B k = 0 := kd_z hkd (by assumption) (by assumption) (by assumption) (by assumption) (by assumption); simp_all [ld_])
      · replace c_72 := b1_z c_72
        refine lv_iload_n hx hb dX5_loudOf_75 rfl (lv_at hl 3 rfl) ?_
        refine lv_bipush (v := 18) hx hb dX5_loudOf_76 (by decide) ?_
        refine lv_bipush (v := 20) hx hb dX5_loudOf_78 (by decide) ?_
        refine kSiS hx hb hml hown hts hK hP gX5_loudOf_X5_isIn okX5_isIn (qX5_isIn l D cI cB h 18 20 ) [] rfl (by decide) hl.1 rfl rfl (by decide) dX5_loudOf_80 (by decide) (fun r_3 hr_4 => ?_)
        replace hr_4 : r_3 = b1 (18 ≤ h ∧ h ≤ 20) := hr_4
        subst hr_4
        refine lv_if_eq (tgt := 92) hx hb dX5_loudOf_83 (by decide) (fun c_83 => ?_) (fun c_83 => ?_)
        · replace c_83 := b1_z c_83
          refine lv_iload_n hx hb dX5_loudOf_92 rfl (lv_at hl 0 rfl) ?_
          refine rSi hx hb hr hlk ?_ dX5_loudOf_93
          show 0 = _
          first | (simp_all [ld_]; done) | (have e0 : kd_ B k = 0 := kd_z hkd (by assumption) (by assumption) (by assumption) (by assumption) (by assumption); simp_all [ld_])
        · replace c_83 := b1_n c_83
          refine lv_iconst (v := 2) hx hb dX5_loudOf_86 (by decide) ?_
          refine lv_iload_n hx hb dX5_loudOf_87 rfl (lv_at hl 0 rfl) ?_
          refine lv_imul hx hb dX5_loudOf_88 ?_
          refine lv_goto (tgt := 93) hx hb dX5_loudOf_89 (by decide) ?_
          refine rSi hx hb hr hlk ?_ dX5_loudOf_93
          show (2 * 0) = _
          first | (simp_all [ld_]; done) | (have e0 : kd_ B k = 0 := kd_z hkd (by assumption) (by assumption) (by assumption) (by assumption) (by assumption); simp_all [ld_])
    by_cases c_25_4 : (kd_ B) k = 4
    · refine lv_tableIn (off := 69) (tgt := 94) hx hb dX5_loudOf_25 (by rw [c_25_4]; decide) (by rw [c_25_4]; decide) (by rw [c_25_4]; rfl) (by decide) ?_
      refine lv_iload_n hx hb dX5_loudOf_94 rfl (lv_at hl 3 rfl) ?_
      refine lv_aload_n hx hb dX5_loudOf_95 rfl (lv_at hl 1 rfl) ?_
      refine va_get (ci := 5) (C := RX5) (T := TX5) (N := 33) hx hb hts hinX5 hown hK.1 hP 0 rfl rfl 2 (by decide) (hts _ (List.mem_of_getElem? (i := 1) rfl)) (fun _ h9 => h9) rfl dX5_loudOf_96 ?_
      refine lv_iload_n hx hb dX5_loudOf_99 rfl (lv_at hl 2 rfl) ?_
      refine jald hx hb hK.1 hP 3 0 k rfl rfl rfl (by omega) (Nat.le_of_ble_eq_true rfl) dX5_loudOf_100 ?_
      refine lv_icmp_eq (tgt := 117) hx hb dX5_loudOf_101 (by decide) (fun c_101 => ?_) (fun c_101 => ?_)
      · skip
        refine lv_bipush (v := 30) hx hb dX5_loudOf_117 (by decide) ?_
        refine lv_goto (tgt := 123) hx hb dX5_loudOf_119 (by decide) ?_
        refine rSi hx hb hr hlk ?_ dX5_loudOf_123
        show 30 = _
        first | (simp_all [ld_]; done) | (have e0 : kd_ B k = 0 := kd_z hkd (by assumption) (by assumption) (by assumption) (by assumption) (by assumption); simp_all [ld_])
      · skip
        refine lv_iload_n hx hb dX5_loudOf_104 rfl (lv_at hl 3 rfl) ?_
        refine lv_aload_n hx hb dX5_loudOf_105 rfl (lv_at hl 1 rfl) ?_
        refine va_get (ci := 5) (C := RX5) (T := TX5) (N := 33) hx hb hts hinX5 hown hK.1 hP 0 rfl rfl 2 (by decide) (hts _ (List.mem_of_getElem? (i := 1) rfl)) (fun _ h9 => h9) rfl dX5_loudOf_106 ?_
        refine lv_iload_n hx hb dX5_loudOf_109 rfl (lv_at hl 2 rfl) ?_
        refine jald hx hb hK.1 hP 3 0 k rfl rfl rfl (by omega) (Nat.le_of_ble_eq_true rfl) dX5_loudOf_110 ?_
        refine lv_bipush (v := 12) hx hb dX5_loudOf_111 (by decide) ?_
        refine lv_iadd hx hb dX5_loudOf_113 ?_
        refine lv_icmp_ne (tgt := 122) hx hb dX5_loudOf_114 (by decide) (fun c_114 => ?_) (fun c_114 => ?_)
        · skip
          refine lv_iconst (v := 0) hx hb dX5_loudOf_122 (by decide) ?_
          refine rSi hx hb hr hlk ?_ dX5_loudOf_123
          show 0 = _
          first | (simp_all [ld_]; done) | (have e0 : kd_ B k = 0 := kd_z hkd (by assumption) (by assumption) (by assumption) (by assumption) (by assumption); simp_all [ld_])
        · skip
          refine lv_bipush (v := 30) hx hb dX5_loudOf_117 (by decide) ?_
          refine lv_goto (tgt := 123) hx hb dX5_loudOf_119 (by decide) ?_
          refine rSi hx hb hr hlk ?_ dX5_loudOf_123
          show 30 = _
          first | (simp_all [ld_]; done) | (have e0 : kd_ B k = 0 := kd_z hkd (by assumption) (by assumption) (by assumption) (by assumption) (by assumption); simp_all [ld_])
    by_cases c_25_5 : (kd_ B) k = 5
    · refine lv_tableIn (off := 99) (tgt := 124) hx hb dX5_loudOf_25 (by rw [c_25_5]; decide) (by rw [c_25_5]; decide) (by rw [c_25_5]; rfl) (by decide) ?_
      refine lv_iconst (v := 1) hx hb dX5_loudOf_124 (by decide) ?_
      refine rSi hx hb hr hlk ?_ dX5_loudOf_125
      show 1 = _
      first | (simp_all [ld_]; done) | (have e0 : kd_ B k = 0 := kd_z hkd (by assumption) (by assumption) (by assumption) (by assumption) (by assumption); simp_all [ld_])
    refine lv_tableOut (tgt := 126) hx hb dX5_loudOf_25 (by have t0 := lv_neT c_25_1 (a := 1) (by decide); have t1 := lv_neT c_25_2 (a := 2) (by decide); have t2 := lv_neT c_25_3 (a := 3) (by decide); have t3 := lv_neT c_25_4 (a := 4) (by decide); have t4 := lv_neT c_25_5 (a := 5) (by decide); omega) (by decide) ?_
    refine lv_aload_n hx hb dX5_loudOf_126 rfl (lv_at hl 1 rfl) ?_
    refine va_get (ci := 5) (C := RX5) (T := TX5) (N := 33) hx hb hts hinX5 hown hK.1 hP 0 rfl rfl 2 (by decide) (hts _ (List.mem_of_getElem? (i := 1) rfl)) (fun _ h9 => h9) rfl dX5_loudOf_127 ?_
    refine lv_iload_n hx hb dX5_loudOf_130 rfl (lv_at hl 2 rfl) ?_
    refine jald hx hb hK.1 hP 3 0 k rfl rfl rfl (by omega) (Nat.le_of_ble_eq_true rfl) dX5_loudOf_131 ?_
    refine rSi hx hb hr hlk ?_ dX5_loudOf_132
    show ((fg_ B) k) = _
    first | (simp_all [ld_]; done) | (have e0 : kd_ B k = 0 := kd_z hkd (by assumption) (by assumption) (by assumption) (by assumption) (by assumption); simp_all [ld_])
  · skip
    have jn_19 : ∀  (x3_19 : Int32) , (x3_19 = dr_ (fg_ B k) h) → ∀ ls : Array Slot, lv_has ls 4 [(3, .int x3_19), (0, .ref (r 0)), (1, .int (nI k)), (2, .int h)] → W p l e (jR 1) s m ([.ref (r 0), .int (nI k), .int h] : List Value).toArray below meth c s.heap [] 0 0 (MQ below (vp_Si (fun r => r = ld_ (kd_ B k) (fg_ B k) h)) ([.ref (r 0), .int (nI k), .int h] : List Value).toArray s 0 0 (fun _ => False)) (F0 m 19 ls []) := by
        intro x3_19 hx3_19 ls hl
        subst hx3_19
        replace hl : lv_has ls 4 [(3, .int (dr_ (fg_ B k) h)), (0, .ref (r 0)), (1, .int (nI k)), (2, .int h)] := hl
        refine lv_aload_n hx hb dX5_loudOf_19 rfl (lv_at hl 1 rfl) ?_
        refine va_get (ci := 5) (C := RX5) (T := TX5) (N := 33) hx hb hts hinX5 hown hK.1 hP 0 rfl rfl 1 (by decide) (hts _ (List.mem_of_getElem? (i := 2) rfl)) (fun _ h9 => h9) rfl dX5_loudOf_20 ?_
        refine lv_iload_n hx hb dX5_loudOf_23 rfl (lv_at hl 2 rfl) ?_
        refine jald hx hb hK.1 hP 2 0 k rfl rfl rfl (by omega) (Nat.le_of_ble_eq_true rfl) dX5_loudOf_24 ?_
        by_cases c_25_1 : (kd_ B) k = 1
        · refine lv_tableIn (off := 35) (tgt := 60) hx hb dX5_loudOf_25 (by rw [c_25_1]; decide) (by rw [c_25_1]; decide) (by rw [c_25_1]; rfl) (by decide) ?_
          refine lv_iload_n hx hb dX5_loudOf_60 rfl (lv_at hl 0 rfl) ?_
          refine rSi hx hb hr hlk ?_ dX5_loudOf_61
          show (dr_ (fg_ B k) h) = _
          first | (simp_all [ld_]; done) | (have e0 : kd_ B k = 0 := kd_z hkd (by assumption) (by assumption) (by assumption) (by assumption) (by assumption); simp_all [ld_])
        by_cases c_25_2 : (kd_ B) k = 2
        · refine lv_tableIn (off := 37) (tgt := 62) hx hb dX5_loudOf_25 (by rw [c_25_2]; decide) (by rw [c_25_2]; decide) (by rw [c_25_2]; rfl) (by decide) ?_
          refine lv_iconst (v := 4) hx hb dX5_loudOf_62 (by decide) ?_
          refine rSi hx hb hr hlk ?_ dX5_loudOf_63
          show 4 = _
          first | (simp_all [ld_]; done) | (have e0 : kd_ B k = 0 := kd_z hkd (by assumption) (by assumption) (by assumption) (by assumption) (by assumption); simp_all [ld_])
        by_cases c_25_3 : (kd_ B) k = 3
        · refine lv_tableIn (off := 39) (tgt := 64) hx hb dX5_loudOf_25 (by rw [c_25_3]; decide) (by rw [c_25_3]; decide) (by rw [c_25_3]; rfl) (by decide) ?_
          refine lv_iload_n hx hb dX5_loudOf_64 rfl (lv_at hl 3 rfl) ?_
          refine lv_bipush (v := 9) hx hb dX5_loudOf_65 (by decide) ?_
          refine lv_bipush (v := 11) hx hb dX5_loudOf_67 (by decide) ?_
          refine kSiS hx hb hml hown hts hK hP gX5_loudOf_X5_isIn okX5_isIn (qX5_isIn l D cI cB h 9 11 ) [] rfl (by decide) hl.1 rfl rfl (by decide) dX5_loudOf_69 (by decide) (fun r_5 hr_6 => ?_)
          replace hr_6 : r_5 = b1 (9 ≤ h ∧ h ≤ 11) := hr_6
          subst hr_6
          refine lv_if_ne (tgt := 86) hx hb dX5_loudOf_72 (by decide) (fun c_72_7 => ?_) (fun c_72_7 => ?_)
          · replace c_72_7 := b1_n c_72_7
            refine lv_iconst (v := 2) hx hb dX5_loudOf_86 (by decide) ?_
            refine lv_iload_n hx hb dX5_loudOf_87 rfl (lv_at hl 0 rfl) ?_
            refine lv_imul hx hb dX5_loudOf_88 ?_
            refine lv_goto (tgt := 93) hx hb dX5_loudOf_89 (by decide) ?_
            refine rSi hx hb hr hlk ?_ dX5_loudOf_93
            show (2 * (dr_ (fg_ B k) h)) = _
            first | (simp_all [ld_]; done) | (have e0 : kd_ B k = 0 := kd_z hkd (by assumption) (by assumption) (by assumption) (by assumption) (by assumption); simp_all [ld_])
          · replace c_72_7 := b1_z c_72_7
            refine lv_iload_n hx hb dX5_loudOf_75 rfl (lv_at hl 3 rfl) ?_
            refine lv_bipush (v := 18) hx hb dX5_loudOf_76 (by decide) ?_
            refine lv_bipush (v := 20) hx hb dX5_loudOf_78 (by decide) ?_
            refine kSiS hx hb hml hown hts hK hP gX5_loudOf_X5_isIn okX5_isIn (qX5_isIn l D cI cB h 18 20 ) [] rfl (by decide) hl.1 rfl rfl (by decide) dX5_loudOf_80 (by decide) (fun r_8 hr_9 => ?_)
            replace hr_9 : r_8 = b1 (18 ≤ h ∧ h ≤ 20) := hr_9
            subst hr_9
            refine lv_if_eq (tgt := 92) hx hb dX5_loudOf_83 (by decide) (fun c_83_10 => ?_) (fun c_83_10 => ?_)
            · replace c_83_10 := b1_z c_83_10
              refine lv_iload_n hx hb dX5_loudOf_92 rfl (lv_at hl 0 rfl) ?_
              refine rSi hx hb hr hlk ?_ dX5_loudOf_93
              show (dr_ (fg_ B k) h) = _
              first | (simp_all [ld_]; done) | (have e0 : kd_ B k = 0 := kd_z hkd (by assumption) (by assumption) (by assumption) (by assumption) (by assumption); simp_all [ld_])
            · replace c_83_10 := b1_n c_83_10
              refine lv_iconst (v := 2) hx hb dX5_loudOf_86 (by decide) ?_
              refine lv_iload_n hx hb dX5_loudOf_87 rfl (lv_at hl 0 rfl) ?_
              refine lv_imul hx hb dX5_loudOf_88 ?_
              refine lv_goto (tgt := 93) hx hb dX5_loudOf_89 (by decide) ?_
              refine rSi hx hb hr hlk ?_ dX5_loudOf_93
              show (2 * (dr_ (fg_ B k) h)) = _
              first | (simp_all [ld_]; done) | (have e0 : kd_ B k = 0 := kd_z hkd (by assumption) (by assumption) (by assumption) (by assumption) (by assumption); simp_all [ld_])
        by_cases c_25_4 : (kd_ B) k = 4
        · refine lv_tableIn (off := 69) (tgt := 94) hx hb dX5_loudOf_25 (by rw [c_25_4]; decide) (by rw [c_25_4]; decide) (by rw [c_25_4]; rfl) (by decide) ?_
          refine lv_iload_n hx hb dX5_loudOf_94 rfl (lv_at hl 3 rfl) ?_
          refine lv_aload_n hx hb dX5_loudOf_95 rfl (lv_at hl 1 rfl) ?_
          refine va_get (ci := 5) (C := RX5) (T := TX5) (N := 33) hx hb hts hinX5 hown hK.1 hP 0 rfl rfl 2 (by decide) (hts _ (List.mem_of_getElem? (i := 1) rfl)) (fun _ h9 => h9) rfl dX5_loudOf_96 ?_
          refine lv_iload_n hx hb dX5_loudOf_99 rfl (lv_at hl 2 rfl) ?_
          refine jald hx hb hK.1 hP 3 0 k rfl rfl rfl (by omega) (Nat.le_of_ble_eq_true rfl) dX5_loudOf_100 ?_
          refine lv_icmp_eq (tgt := 117) hx hb dX5_loudOf_101 (by decide) (fun c_101_11 => ?_) (fun c_101_11 => ?_)
          · skip
            refine lv_bipush (v := 30) hx hb dX5_loudOf_117 (by decide) ?_
            refine lv_goto (tgt := 123) hx hb dX5_loudOf_119 (by decide) ?_
            refine rSi hx hb hr hlk ?_ dX5_loudOf_123
            show 30 = _
            first | (simp_all [ld_]; done) | (have e0 : kd_ B k = 0 := kd_z hkd (by assumption) (by assumption) (by assumption) (by assumption) (by assumption); simp_all [ld_])
          · skip
            refine lv_iload_n hx hb dX5_loudOf_104 rfl (lv_at hl 3 rfl) ?_
            refine lv_aload_n hx hb dX5_loudOf_105 rfl (lv_at hl 1 rfl) ?_
            refine va_get (ci := 5) (C := RX5) (T := TX5) (N := 33) hx hb hts hinX5 hown hK.1 hP 0 rfl rfl 2 (by decide) (hts _ (List.mem_of_getElem? (i := 1) rfl)) (fun _ h9 => h9) rfl dX5_loudOf_106 ?_
            refine lv_iload_n hx hb dX5_loudOf_109 rfl (lv_at hl 2 rfl) ?_
            refine jald hx hb hK.1 hP 3 0 k rfl rfl rfl (by omega) (Nat.le_of_ble_eq_true rfl) dX5_loudOf_110 ?_
            refine lv_bipush (v := 12) hx hb dX5_loudOf_111 (by decide) ?_
            refine lv_iadd hx hb dX5_loudOf_113 ?_
            refine lv_icmp_ne (tgt := 122) hx hb dX5_loudOf_114 (by decide) (fun c_114_12 => ?_) (fun c_114_12 => ?_)
            · skip
              refine lv_iconst (v := 0) hx hb dX5_loudOf_122 (by decide) ?_
              refine rSi hx hb hr hlk ?_ dX5_loudOf_123
              show 0 = _
              first | (simp_all [ld_]; done) | (have e0 : kd_ B k = 0 := kd_z hkd (by assumption) (by assumption) (by assumption) (by assumption) (by assumption); simp_all [ld_])
            · skip
              refine lv_bipush (v := 30) hx hb dX5_loudOf_117 (by decide) ?_
              refine lv_goto (tgt := 123) hx hb dX5_loudOf_119 (by decide) ?_
              refine rSi hx hb hr hlk ?_ dX5_loudOf_123
              show 30 = _
              first | (simp_all [ld_]; done) | (have e0 : kd_ B k = 0 := kd_z hkd (by assumption) (by assumption) (by assumption) (by assumption) (by assumption); simp_all [ld_])
        by_cases c_25_5 : (kd_ B) k = 5
        · refine lv_tableIn (off := 99) (tgt := 124) hx hb dX5_loudOf_25 (by rw [c_25_5]; decide) (by rw [c_25_5]; decide) (by rw [c_25_5]; rfl) (by decide) ?_
          refine lv_iconst (v := 1) hx hb dX5_loudOf_124 (by decide) ?_
          refine rSi hx hb hr hlk ?_ dX5_loudOf_125
          show 1 = _
          first | (simp_all [ld_]; done) | (have e0 : kd_ B k = 0 := kd_z hkd (by assumption) (by assumption) (by assumption) (by assumption) (by assumption); simp_all [ld_])
        refine lv_tableOut (tgt := 126) hx hb dX5_loudOf_25 (by have t0 := lv_neT c_25_1 (a := 1) (by decide); have t1 := lv_neT c_25_2 (a := 2) (by decide); have t2 := lv_neT c_25_3 (a := 3) (by decide); have t3 := lv_neT c_25_4 (a := 4) (by decide); have t4 := lv_neT c_25_5 (a := 5) (by decide); omega) (by decide) ?_
        refine lv_aload_n hx hb dX5_loudOf_126 rfl (lv_at hl 1 rfl) ?_
        refine va_get (ci := 5) (C := RX5) (T := TX5) (N := 33) hx hb hts hinX5 hown hK.1 hP 0 rfl rfl 2 (by decide) (hts _ (List.mem_of_getElem? (i := 1) rfl)) (fun _ h9 => h9) rfl dX5_loudOf_127 ?_
        refine lv_iload_n hx hb dX5_loudOf_130 rfl (lv_at hl 2 rfl) ?_
        refine jald hx hb hK.1 hP 3 0 k rfl rfl rfl (by omega) (Nat.le_of_ble_eq_true rfl) dX5_loudOf_131 ?_
        refine rSi hx hb hr hlk ?_ dX5_loudOf_132
        show ((fg_ B) k) = _
        first | (simp_all [ld_]; done) | (have e0 : kd_ B k = 0 := kd_z hkd (by assumption) (by assumption) (by assumption) (by assumption) (by assumption); simp_all [ld_])
    refine lv_aload_n hx hb dX5_loudOf_6 rfl (lv_at hl 0 rfl) ?_
    refine va_get (ci := 5) (C := RX5) (T := TX5) (N := 33) hx hb hts hinX5 hown hK.1 hP 0 rfl rfl 2 (by decide) (hts _ (List.mem_of_getElem? (i := 1) rfl)) (fun _ h9 => h9) rfl dX5_loudOf_7 ?_
    refine lv_iload_n hx hb dX5_loudOf_10 rfl (lv_at hl 1 rfl) ?_
    refine jald hx hb hK.1 hP 3 0 k rfl rfl rfl (by omega) (Nat.le_of_ble_eq_true rfl) dX5_loudOf_11 ?_
    refine lv_iconst (v := 3) hx hb dX5_loudOf_12 (by decide) ?_
    refine lv_iadd hx hb dX5_loudOf_13 ?_
    refine lv_goto (tgt := 18) hx hb dX5_loudOf_14 (by decide) ?_
    refine lv_istore_n (lv' := [(3, .int (((fg_ B) k) + 3)), (0, .ref (r 0)), (1, .int (nI k)), (2, .int h)]) hx hb dX5_loudOf_18 rfl hl (by decide) rfl (fun ls hl => ?_)
    exact jn_19  (((fg_ B) k) + 3)  (by unfold dr_; first | rw [if_pos (by assumption)] | rw [if_neg (by assumption)])   ls (lv_sub hl [0, 1, 2, 3] rfl)

theorem okX5_costsOf : jok yX5_costsOf wsX5_costsOf cX5_costsOf 2 (some .int) 1 := ⟨⟨_, rfl⟩, by decide +kernel, by decide +kernel⟩
set_option maxHeartbeats 4000000 in
set_option maxRecDepth 100000 in
theorem qX5_costsOf (l : Launch) (D : va_G) (cI cB : ClassId) (r : Nat → Nat) (B : BayT) (M : MT) (k : Nat) (hk : k < 7) : jSi D cI cB l yX5_costsOf wsX5_costsOf 0 [.ref (r 0), .int (nI k)] (mW cI r B M) (fun r => r = co_ (kd_ B k) (fg_ B k)) := by
  refine jSi.of (cc := cX5_costsOf) (maxL := 2) (ret := (some .int)) okX5_costsOf (Nat.le_of_ble_eq_true rfl) ?_
  intro p e s m below meth c ls hx hb hr hts hown hlk hml hP hK hl
  replace hown : s.vm.findClass RX5 = some m.cls := hown
  replace hl : lv_has ls 2 [(0, .ref (r 0)), (1, .int (nI k))] := hl
  have hinX5 : ∀ w ∈ wsX50, w ∈ wsX5_costsOf := by decide +kernel
  refine lv_aload_n hx hb dX5_costsOf_0 rfl (lv_at hl 0 rfl) ?_
  refine va_get (ci := 5) (C := RX5) (T := TX5) (N := 33) hx hb hts hinX5 hown hK.1 hP 0 rfl rfl 1 (by decide) (hts _ (List.mem_of_getElem? (i := 1) rfl)) (fun _ h9 => h9) rfl dX5_costsOf_1 ?_
  refine lv_iload_n hx hb dX5_costsOf_4 rfl (lv_at hl 1 rfl) ?_
  refine jald hx hb hK.1 hP 2 0 k rfl rfl rfl (by omega) (Nat.le_of_ble_eq_true rfl) dX5_costsOf_5 ?_
  refine lv_iconst (v := 4) hx hb dX5_costsOf_6 (by decide) ?_
  refine lv_icmp_ne (tgt := 14) hx hb dX5_costsOf_7 (by decide) (fun c_7 => ?_) (fun c_7 => ?_)
  · skip
    refine lv_aload_n hx hb dX5_costsOf_14 rfl (lv_at hl 0 rfl) ?_
    refine va_get (ci := 5) (C := RX5) (T := TX5) (N := 33) hx hb hts hinX5 hown hK.1 hP 0 rfl rfl 1 (by decide) (hts _ (List.mem_of_getElem? (i := 1) rfl)) (fun _ h9 => h9) rfl dX5_costsOf_15 ?_
    refine lv_iload_n hx hb dX5_costsOf_18 rfl (lv_at hl 1 rfl) ?_
    refine jald hx hb hK.1 hP 2 0 k rfl rfl rfl (by omega) (Nat.le_of_ble_eq_true rfl) dX5_costsOf_19 ?_
    refine lv_iconst (v := 1) hx hb dX5_costsOf_20 (by decide) ?_
    refine lv_icmp_eq (tgt := 34) hx hb dX5_costsOf_21 (by decide) (fun c_21 => ?_) (fun c_21 => ?_)
    · skip
      refine lv_aload_n hx hb dX5_costsOf_34 rfl (lv_at hl 0 rfl) ?_
      refine va_get (ci := 5) (C := RX5) (T := TX5) (N := 33) hx hb hts hinX5 hown hK.1 hP 0 rfl rfl 2 (by decide) (hts _ (List.mem_of_getElem? (i := 2) rfl)) (fun _ h9 => h9) rfl dX5_costsOf_35 ?_
      refine lv_iload_n hx hb dX5_costsOf_38 rfl (lv_at hl 1 rfl) ?_
      refine jald hx hb hK.1 hP 3 0 k rfl rfl rfl (by omega) (Nat.le_of_ble_eq_true rfl) dX5_costsOf_39 ?_
      refine lv_bipush (v := 7) hx hb dX5_costsOf_40 (by decide) ?_
      refine lv_icmp_lt (tgt := 49) hx hb dX5_costsOf_42 (by decide) (fun c_42 => ?_) (fun c_42 => ?_)
      · skip
        refine lv_iconst (v := 0) hx hb dX5_costsOf_49 (by decide) ?_
        refine rSi hx hb hr hlk ?_ dX5_costsOf_50
        show 0 = _
        simp_all [co_]
      · skip
        refine lv_iconst (v := 1) hx hb dX5_costsOf_45 (by decide) ?_
        refine lv_goto (tgt := 50) hx hb dX5_costsOf_46 (by decide) ?_
        refine rSi hx hb hr hlk ?_ dX5_costsOf_50
        show 1 = _
        simp_all [co_]
    · skip
      refine lv_aload_n hx hb dX5_costsOf_24 rfl (lv_at hl 0 rfl) ?_
      refine va_get (ci := 5) (C := RX5) (T := TX5) (N := 33) hx hb hts hinX5 hown hK.1 hP 0 rfl rfl 1 (by decide) (hts _ (List.mem_of_getElem? (i := 1) rfl)) (fun _ h9 => h9) rfl dX5_costsOf_25 ?_
      refine lv_iload_n hx hb dX5_costsOf_28 rfl (lv_at hl 1 rfl) ?_
      refine jald hx hb hK.1 hP 2 0 k rfl rfl rfl (by omega) (Nat.le_of_ble_eq_true rfl) dX5_costsOf_29 ?_
      refine lv_iconst (v := 3) hx hb dX5_costsOf_30 (by decide) ?_
      refine lv_icmp_ne (tgt := 49) hx hb dX5_costsOf_31 (by decide) (fun c_31 => ?_) (fun c_31 => ?_)
      · skip
        refine lv_iconst (v := 0) hx hb dX5_costsOf_49 (by decide) ?_
        refine rSi hx hb hr hlk ?_ dX5_costsOf_50
        show 0 = _
        simp_all [co_]
      · skip
        refine lv_aload_n hx hb dX5_costsOf_34 rfl (lv_at hl 0 rfl) ?_
        refine va_get (ci := 5) (C := RX5) (T := TX5) (N := 33) hx hb hts hinX5 hown hK.1 hP 0 rfl rfl 2 (by decide) (hts _ (List.mem_of_getElem? (i := 2) rfl)) (fun _ h9 => h9) rfl dX5_costsOf_35 ?_
        refine lv_iload_n hx hb dX5_costsOf_38 rfl (lv_at hl 1 rfl) ?_
        refine jald hx hb hK.1 hP 3 0 k rfl rfl rfl (by omega) (Nat.le_of_ble_eq_true rfl) dX5_costsOf_39 ?_
        refine lv_bipush (v := 7) hx hb dX5_costsOf_40 (by decide) ?_
        refine lv_icmp_lt (tgt := 49) hx hb dX5_costsOf_42 (by decide) (fun c_42_1 => ?_) (fun c_42_1 => ?_)
        · skip
          refine lv_iconst (v := 0) hx hb dX5_costsOf_49 (by decide) ?_
          refine rSi hx hb hr hlk ?_ dX5_costsOf_50
          show 0 = _
          simp_all [co_]
        · skip
          refine lv_iconst (v := 1) hx hb dX5_costsOf_45 (by decide) ?_
          refine lv_goto (tgt := 50) hx hb dX5_costsOf_46 (by decide) ?_
          refine rSi hx hb hr hlk ?_ dX5_costsOf_50
          show 1 = _
          simp_all [co_]
  · skip
    refine lv_iconst (v := 5) hx hb dX5_costsOf_10 (by decide) ?_
    refine lv_goto (tgt := 50) hx hb dX5_costsOf_11 (by decide) ?_
    refine rSi hx hb hr hlk ?_ dX5_costsOf_50
    show 5 = _
    simp_all [co_]

theorem okX5_noiseOf : jok yX5_noiseOf wsX5_noiseOf cX5_noiseOf 3 (some .int) 2 := ⟨⟨_, rfl⟩, by decide +kernel, by decide +kernel⟩
set_option maxHeartbeats 4000000 in
set_option maxRecDepth 100000 in
theorem qX5_noiseOf (l : Launch) (D : va_G) (cI cB : ClassId) (r : Nat → Nat) (B : BayT) (M : MT) (k : Nat) (h : Int32) (hk : k < 7) (hkd : 0 ≤ kd_ B k ∧ kd_ B k ≤ 5) : jSi D cI cB l yX5_noiseOf wsX5_noiseOf 2 [.ref (r 0), .int (nI k), .int h] (mW cI r B M) (fun r => r = no_ B k h) := by
  refine jSi.of (cc := cX5_noiseOf) (maxL := 3) (ret := (some .int)) okX5_noiseOf (Nat.le_of_ble_eq_true rfl) ?_
  intro p e s m below meth c ls hx hb hr hts hown hlk hml hP hK hl
  replace hown : s.vm.findClass RX5 = some m.cls := hown
  replace hl : lv_has ls 3 [(0, .ref (r 0)), (1, .int (nI k)), (2, .int h)] := hl
  have hinX5 : ∀ w ∈ wsX50, w ∈ wsX5_noiseOf := by decide +kernel
  refine lv_aload_n hx hb dX5_noiseOf_0 rfl (lv_at hl 0 rfl) ?_
  refine va_get (ci := 5) (C := RX5) (T := TX5) (N := 33) hx hb hts hinX5 hown hK.1 hP 0 rfl rfl 7 (by decide) (hts _ (List.mem_of_getElem? (i := 1) rfl)) (fun _ h9 => h9) rfl dX5_noiseOf_1 ?_
  refine lv_iload_n hx hb dX5_noiseOf_4 rfl (lv_at hl 1 rfl) ?_
  refine kSiS hx hb hml hown hts hK hP gX5_noiseOf_X5_has okX5_has (qX5_has l D cI cB (qt_ B) k ) [] rfl (by decide) hl.1 rfl rfl (by decide) dX5_noiseOf_5 (by decide) (fun r_1 hr_2 => ?_)
  replace hr_2 : r_1 = b1 (qb_ (qt_ B) k = 1) := hr_2
  subst hr_2
  refine lv_if_ne (tgt := 38) hx hb dX5_noiseOf_8 (by decide) (fun c_8 => ?_) (fun c_8 => ?_)
  · replace c_8 := b1_n c_8
    refine lv_iconst (v := 0) hx hb dX5_noiseOf_38 (by decide) ?_
    refine lv_goto (tgt := 48) hx hb dX5_noiseOf_39 (by decide) ?_
    refine rSi hx hb hr hlk ?_ dX5_noiseOf_48
    show 0 = _
    simp [no_, *]
  · replace c_8 := b1_z c_8
    refine lv_aload_n hx hb dX5_noiseOf_11 rfl (lv_at hl 0 rfl) ?_
    refine va_get (ci := 5) (C := RX5) (T := TX5) (N := 33) hx hb hts hinX5 hown hK.1 hP 0 rfl rfl 4 (by decide) (hts _ (List.mem_of_getElem? (i := 2) rfl)) (fun _ h9 => h9) rfl dX5_noiseOf_12 ?_
    refine lv_iload_n hx hb dX5_noiseOf_15 rfl (lv_at hl 1 rfl) ?_
    refine jald hx hb hK.1 hP 5 0 k rfl rfl rfl (by omega) (Nat.le_of_ble_eq_true rfl) dX5_noiseOf_16 ?_
    refine lv_aload_n hx hb dX5_noiseOf_17 rfl (lv_at hl 0 rfl) ?_
    refine lv_iload_n hx hb dX5_noiseOf_18 rfl (lv_at hl 1 rfl) ?_
    refine kSiV hx hb hml hown hts hK hP gX5_noiseOf_X5_costsOf okX5_costsOf (qX5_costsOf l D cI cB r B M k (by omega)) [0, 1, 2, 3, 4, 5, 6, 7, 8, 9, 10, 11, 12, 13, 14, 15] rfl rfl rfl rfl (by decide) hl.1 rfl rfl (by decide) dX5_noiseOf_19 (by decide) (fun r_3 hr_4 => ?_)
    replace hr_4 : r_3 = co_ (kd_ B k) (fg_ B k) := hr_4
    subst hr_4
    refine lv_icmp_lt (tgt := 38) hx hb dX5_noiseOf_22 (by decide) (fun c_22 => ?_) (fun c_22 => ?_)
    · skip
      refine lv_iconst (v := 0) hx hb dX5_noiseOf_38 (by decide) ?_
      refine lv_goto (tgt := 48) hx hb dX5_noiseOf_39 (by decide) ?_
      refine rSi hx hb hr hlk ?_ dX5_noiseOf_48
      show 0 = _
      simp [no_, *]
    · skip
      refine lv_aload_n hx hb dX5_noiseOf_25 rfl (lv_at hl 0 rfl) ?_
      refine va_get (ci := 5) (C := RX5) (T := TX5) (N := 33) hx hb hts hinX5 hown hK.1 hP 0 rfl rfl 3 (by decide) (hts _ (List.mem_of_getElem? (i := 3) rfl)) (fun _ h9 => h9) rfl dX5_noiseOf_26 ?_
      refine lv_iload_n hx hb dX5_noiseOf_29 rfl (lv_at hl 1 rfl) ?_
      refine jald hx hb hK.1 hP 4 0 k rfl rfl rfl (by omega) (Nat.le_of_ble_eq_true rfl) dX5_noiseOf_30 ?_
      refine lv_aload_n hx hb dX5_noiseOf_31 rfl (lv_at hl 0 rfl) ?_
      refine va_get (ci := 5) (C := RX5) (T := TX5) (N := 33) hx hb hts hinX5 hown hK.1 hP 0 rfl rfl 8 (by decide) (hts _ (List.mem_of_getElem? (i := 4) rfl)) (fun _ h9 => h9) rfl dX5_noiseOf_32 ?_
      refine lv_icmp_ne (tgt := 42) hx hb dX5_noiseOf_35 (by decide) (fun c_35 => ?_) (fun c_35 => ?_)
      · skip
        refine lv_aload_n hx hb dX5_noiseOf_42 rfl (lv_at hl 0 rfl) ?_
        refine lv_iload_n hx hb dX5_noiseOf_43 rfl (lv_at hl 1 rfl) ?_
        refine lv_iload_n hx hb dX5_noiseOf_44 rfl (lv_at hl 2 rfl) ?_
        refine kSiV hx hb hml hown hts hK hP gX5_noiseOf_X5_loudOf okX5_loudOf (qX5_loudOf l D cI cB r B M k h (by omega) (by omega)) [0, 1, 2, 3, 4, 5, 6, 7, 8, 9, 10, 11, 12, 13, 14, 15] rfl rfl rfl rfl (by decide) hl.1 rfl rfl (by decide) dX5_noiseOf_45 (by decide) (fun r_5 hr_6 => ?_)
        replace hr_6 : r_5 = ld_ (kd_ B k) (fg_ B k) h := hr_6
        subst hr_6
        refine rSi hx hb hr hlk ?_ dX5_noiseOf_48
        show (ld_ (kd_ B k) (fg_ B k) h) = _
        simp [no_, *]
      · skip
        refine lv_iconst (v := 0) hx hb dX5_noiseOf_38 (by decide) ?_
        refine lv_goto (tgt := 48) hx hb dX5_noiseOf_39 (by decide) ?_
        refine rSi hx hb hr hlk ?_ dX5_noiseOf_48
        show 0 = _
        simp [no_, *]

theorem okX5_isLouder : jok yX5_isLouder wsX5_isLouder cX5_isLouder 5 (some .boolean) 3 := ⟨⟨_, rfl⟩, by decide +kernel, by decide +kernel⟩
set_option maxHeartbeats 4000000 in
set_option maxRecDepth 100000 in
theorem qX5_isLouder (l : Launch) (D : va_G) (cI cB : ClassId) (r : Nat → Nat) (B : BayT) (M : MT) (k : Nat) (t : Nat) (h : Int32) (hI : bI_ B) (hk : k < sn_ B) (ht : t < sn_ B) : jSi D cI cB l yX5_isLouder wsX5_isLouder 3 [.ref (r 0), .int (nI k), .int (nI t), .int h] (mW cI r B M) (fun r => r = b1 (no_ B t h < no_ B k h ∨ (no_ B k h = no_ B t h ∧ di_ B k < di_ B t))) := by
  refine jSi.of (cc := cX5_isLouder) (maxL := 5) (ret := (some .boolean)) okX5_isLouder (Nat.le_of_ble_eq_true rfl) ?_
  intro p e s m below meth c ls hx hb hr hts hown hlk hml hP hK hl
  replace hown : s.vm.findClass RX5 = some m.cls := hown
  replace hl : lv_has ls 5 [(0, .ref (r 0)), (1, .int (nI k)), (2, .int (nI t)), (3, .int h)] := hl
  have hn7 := hI.1
  have zk := hI.2.1 k hk
  have zt := hI.2.1 t ht
  have il := hI.2.2.2.2.1
  have hlou := louder_eq (h := h) hI hk ht
  have hinX5 : ∀ w ∈ wsX50, w ∈ wsX5_isLouder := by decide +kernel
  refine lv_aload_n hx hb dX5_isLouder_0 rfl (lv_at hl 0 rfl) ?_
  refine lv_iload_n hx hb dX5_isLouder_1 rfl (lv_at hl 1 rfl) ?_
  refine lv_iload_n hx hb dX5_isLouder_2 rfl (lv_at hl 3 rfl) ?_
  refine kSiV hx hb hml hown hts hK hP gX5_isLouder_X5_noiseOf okX5_noiseOf (qX5_noiseOf l D cI cB r B M k h (by omega) zk.1) [0, 1, 2, 3, 4, 5, 6, 7, 8, 9, 10, 11, 12, 13, 14, 15] rfl rfl rfl rfl (by decide) hl.1 rfl rfl (by decide) dX5_isLouder_3 (by decide) (fun r_1 hr_2 => ?_)
  replace hr_2 : r_1 = no_ B k h := hr_2
  subst hr_2
  refine lv_aload_n hx hb dX5_isLouder_6 rfl (lv_at hl 0 rfl) ?_
  refine lv_iload_n hx hb dX5_isLouder_7 rfl (lv_at hl 2 rfl) ?_
  refine lv_iload_n hx hb dX5_isLouder_8 rfl (lv_at hl 3 rfl) ?_
  refine kSiV hx hb hml hown hts hK hP gX5_isLouder_X5_noiseOf okX5_noiseOf (qX5_noiseOf l D cI cB r B M t h (by omega) zt.1) [0, 1, 2, 3, 4, 5, 6, 7, 8, 9, 10, 11, 12, 13, 14, 15] rfl rfl rfl rfl (by decide) hl.1 rfl rfl (by decide) dX5_isLouder_9 (by decide) (fun r_3 hr_4 => ?_)
  replace hr_4 : r_3 = no_ B t h := hr_4
  subst hr_4
  refine lv_isub hx hb dX5_isLouder_12 ?_
  refine lv_istore (lv' := [(4, .int ((no_ B k h) - (no_ B t h))), (0, .ref (r 0)), (1, .int (nI k)), (2, .int (nI t)), (3, .int h)]) hx hb dX5_isLouder_13 hl (by decide) rfl (fun ls hl => ?_)
  refine lv_iload hx hb dX5_isLouder_15 (lv_at hl 0 rfl) ?_
  refine lv_if_gt (tgt := 54) hx hb dX5_isLouder_17 (by decide) (fun c_17 => ?_) (fun c_17 => ?_)
  · skip
    refine lv_iconst (v := 1) hx hb dX5_isLouder_54 (by decide) ?_
    refine lv_goto (tgt := 59) hx hb dX5_isLouder_55 (by decide) ?_
    refine rSz hx hb hr hlk (Or.inr rfl) ?_ dX5_isLouder_59
    show 1 = _
    simp only [hlou]; simp_all [b1]
  · skip
    refine lv_iload hx hb dX5_isLouder_20 (lv_at hl 0 rfl) ?_
    refine lv_if_ne (tgt := 58) hx hb dX5_isLouder_22 (by decide) (fun c_22 => ?_) (fun c_22 => ?_)
    · skip
      refine lv_iconst (v := 0) hx hb dX5_isLouder_58 (by decide) ?_
      refine rSz hx hb hr hlk (Or.inl rfl) ?_ dX5_isLouder_59
      show 0 = _
      simp only [hlou]; simp_all [b1]
    · skip
      refine lv_aload_n hx hb dX5_isLouder_25 rfl (lv_at hl 1 rfl) ?_
      refine va_get (ci := 5) (C := RX5) (T := TX5) (N := 33) hx hb hts hinX5 hown hK.1 hP 0 rfl rfl 3 (by decide) (hts _ (List.mem_of_getElem? (i := 1) rfl)) (fun _ h9 => h9) rfl dX5_isLouder_26 ?_
      refine lv_iload_n hx hb dX5_isLouder_29 rfl (lv_at hl 2 rfl) ?_
      refine jald hx hb hK.1 hP 4 0 k rfl rfl rfl (by omega) (Nat.le_of_ble_eq_true rfl) dX5_isLouder_30 ?_
      refine lv_aload_n hx hb dX5_isLouder_31 rfl (lv_at hl 1 rfl) ?_
      refine va_get (ci := 5) (C := RX5) (T := TX5) (N := 33) hx hb hts hinX5 hown hK.1 hP 0 rfl rfl 8 (by decide) (hts _ (List.mem_of_getElem? (i := 2) rfl)) (fun _ h9 => h9) rfl dX5_isLouder_32 ?_
      refine kSiS hx hb hml hown hts hK hP gX5_isLouder_X5_far okX5_far (qX5_far l D cI cB ((pl_ B) k) (il_ B) ) [] rfl (by decide) hl.1 rfl rfl (by decide) dX5_isLouder_35 (by decide) (fun r_5 hr_6 => ?_)
      replace hr_6 : r_5 = fr_ ((pl_ B) k) (il_ B) := hr_6
      subst hr_6
      refine lv_aload_n hx hb dX5_isLouder_38 rfl (lv_at hl 1 rfl) ?_
      refine va_get (ci := 5) (C := RX5) (T := TX5) (N := 33) hx hb hts hinX5 hown hK.1 hP 0 rfl rfl 3 (by decide) (hts _ (List.mem_of_getElem? (i := 1) rfl)) (fun _ h9 => h9) rfl dX5_isLouder_39 ?_
      refine lv_iload_n hx hb dX5_isLouder_42 rfl (lv_at hl 3 rfl) ?_
      refine jald hx hb hK.1 hP 4 0 t rfl rfl rfl (by omega) (Nat.le_of_ble_eq_true rfl) dX5_isLouder_43 ?_
      refine lv_aload_n hx hb dX5_isLouder_44 rfl (lv_at hl 1 rfl) ?_
      refine va_get (ci := 5) (C := RX5) (T := TX5) (N := 33) hx hb hts hinX5 hown hK.1 hP 0 rfl rfl 8 (by decide) (hts _ (List.mem_of_getElem? (i := 2) rfl)) (fun _ h9 => h9) rfl dX5_isLouder_45 ?_
      refine kSiS hx hb hml hown hts hK hP gX5_isLouder_X5_far okX5_far (qX5_far l D cI cB ((pl_ B) t) (il_ B) ) [] rfl (by decide) hl.1 rfl rfl (by decide) dX5_isLouder_48 (by decide) (fun r_7 hr_8 => ?_)
      replace hr_8 : r_7 = fr_ ((pl_ B) t) (il_ B) := hr_8
      subst hr_8
      refine lv_icmp_ge (tgt := 58) hx hb dX5_isLouder_51 (by decide) (fun c_51 => ?_) (fun c_51 => ?_)
      · skip
        refine lv_iconst (v := 0) hx hb dX5_isLouder_58 (by decide) ?_
        refine rSz hx hb hr hlk (Or.inl rfl) ?_ dX5_isLouder_59
        show 0 = _
        simp only [hlou]; simp_all [b1]
      · skip
        refine lv_iconst (v := 1) hx hb dX5_isLouder_54 (by decide) ?_
        refine lv_goto (tgt := 59) hx hb dX5_isLouder_55 (by decide) ?_
        refine rSz hx hb hr hlk (Or.inr rfl) ?_ dX5_isLouder_59
        show 1 = _
        simp only [hlou]; simp_all [b1]

theorem okX5_loudestAt : jok yX5_loudestAt wsX5_loudestAt cX5_loudestAt 4 (some .int) 1 := ⟨⟨_, rfl⟩, by decide +kernel, by decide +kernel⟩
set_option maxHeartbeats 4000000 in
set_option maxRecDepth 100000 in
theorem qX5_loudestAt (l : Launch) (D : va_G) (cI cB : ClassId) (r : Nat → Nat) (B : BayT) (M : MT) (h : Int32) (hI : bI_ B) : jSi D cI cB l yX5_loudestAt wsX5_loudestAt 4 [.ref (r 0), .int h] (mW cI r B M) (fun r => r = oI_ (lt_ B h)) := by
  refine jSi.of (cc := cX5_loudestAt) (maxL := 4) (ret := (some .int)) okX5_loudestAt (Nat.le_of_ble_eq_true rfl) ?_
  intro p e s m below meth c ls hx hb hr hts hown hlk hml hP hK hl
  replace hown : s.vm.findClass RX5 = some m.cls := hown
  replace hl : lv_has ls 4 [(0, .ref (r 0)), (1, .int h)] := hl
  have hn7 := hI.1
  have hinX5 : ∀ w ∈ wsX50, w ∈ wsX5_loudestAt := by decide +kernel
  refine lv_bipush (v := (-9)) hx hb dX5_loudestAt_0 (by decide) ?_
  refine lv_istore_n (lv' := [(2, .int (-9)), (0, .ref (r 0)), (1, .int h)]) hx hb dX5_loudestAt_2 rfl hl (by decide) rfl (fun ls hl => ?_)
  refine lv_iconst (v := 0) hx hb dX5_loudestAt_3 (by decide) ?_
  refine lv_istore_n (lv' := [(3, .int 0), (2, .int (-9)), (0, .ref (r 0)), (1, .int h)]) hx hb dX5_loudestAt_4 rfl hl (by decide) rfl (fun ls hl => ?_)
  have lp_5 : ∀ (fu_5 : Nat) (i : Nat) (x2_5 : Int32) (x3_5 : Int32) , (x2_5 = oI_ (lo_ B h i)) → (x3_5 = nI i) → (i ≤ sn_ B) → sn_ B - i < fu_5 → ∀ ls : Array Slot, lv_has ls 4 [(3, .int x3_5), (2, .int x2_5), (0, .ref (r 0)), (1, .int h)] → W p l e (jR 4) s m ([.ref (r 0), .int h] : List Value).toArray below meth c s.heap [] 0 0 (MQ below (vp_Si (fun r => r = oI_ (lt_ B h))) ([.ref (r 0), .int h] : List Value).toArray s 0 0 (fun _ => False)) (F0 m 5 ls []) := by
    intro fu_5
    induction fu_5 with
    | zero => intro i x2_5 x3_5 hx2_5 hx3_5 hi hfu; exact absurd hfu (Nat.not_lt_zero _)
    | succ fu_5 ih_5 =>
      intro i x2_5 x3_5 hx2_5 hx3_5 hi hfu_5 ls hl
      subst hx2_5
      subst hx3_5
      replace hl : lv_has ls 4 [(3, .int (nI i)), (2, .int (oI_ (lo_ B h i))), (0, .ref (r 0)), (1, .int h)] := hl
      rcases hL : lo_ B h i with _ | t
      · rw [hL] at hl
        replace hl : lv_has ls 4 [(3, .int (nI i)), (2, .int (-9)), (0, .ref (r 0)), (1, .int h)] := hl
        refine lv_iload_n hx hb dX5_loudestAt_5 rfl (lv_at hl 0 rfl) ?_
        refine lv_aload_n hx hb dX5_loudestAt_6 rfl (lv_at hl 2 rfl) ?_
        refine va_get (ci := 5) (C := RX5) (T := TX5) (N := 33) hx hb hts hinX5 hown hK.1 hP 0 rfl rfl 6 (by decide) (hts _ (List.mem_of_getElem? (i := 1) rfl)) (fun _ h9 => h9) rfl dX5_loudestAt_7 ?_
        refine lv_icmp_ge (tgt := 44) hx hb dX5_loudestAt_10 (by decide) (fun c_10 => ?_) (fun c_10 => ?_)
        · replace c_10 : nI (sn_ B) ≤ nI i := c_10
          rw [jle (by omega) (by omega)] at c_10
          refine lv_iload_n hx hb dX5_loudestAt_44 rfl (lv_at hl 1 rfl) ?_
          refine rSi hx hb hr hlk ?_ dX5_loudestAt_45
          show (-9) = _
          have e9 : i = sn_ B := by omega
          rw [e9] at hL; unfold lt_; rw [hL]; rfl
        · replace c_10 : ¬ nI (sn_ B) ≤ nI i := c_10
          rw [jle (by omega) (by omega)] at c_10
          refine lv_aload_n hx hb dX5_loudestAt_13 rfl (lv_at hl 2 rfl) ?_
          refine lv_iload_n hx hb dX5_loudestAt_14 rfl (lv_at hl 0 rfl) ?_
          refine lv_iload_n hx hb dX5_loudestAt_15 rfl (lv_at hl 3 rfl) ?_
          refine kSiV hx hb hml hown hts hK hP gX5_loudestAt_X5_noiseOf okX5_noiseOf (qX5_noiseOf l D cI cB r B M i h (by omega) (hI.2.1 i (by omega)).1) [0, 1, 2, 3, 4, 5, 6, 7, 8, 9, 10, 11, 12, 13, 14, 15] rfl rfl rfl rfl (by decide) hl.1 rfl rfl (by decide) dX5_loudestAt_16 (by decide) (fun r_1 hr_2 => ?_)
          replace hr_2 : r_1 = no_ B i h := hr_2
          subst hr_2
          refine lv_if_le (tgt := 38) hx hb dX5_loudestAt_19 (by decide) (fun c_19 => ?_) (fun c_19 => ?_)
          · skip
            refine lv_iinc (v := (nI i) + 1) (lv' := [(3, .int ((nI i) + 1)), (2, .int (-9)), (0, .ref (r 0)), (1, .int h)]) hx hb dX5_loudestAt_38 hl (k := 0) rfl (by first | rfl | decide) (by decide) rfl (fun ls hl => ?_)
            refine lv_goto (tgt := 5) hx hb dX5_loudestAt_41 (by decide) ?_
            exact ih_5 (i + 1) (-9) ((nI i) + 1)  (by first | (simp [lo_, hL, oI_, Int32.not_le.mp c_19]; done) | (simp only [lo_, hL]; rw [if_neg c_19]; rfl) | (simp only [lo_, hL]; rw [if_pos c_33]; rfl) | (simp only [lo_, hL]; rw [if_neg c_33]; rfl) | (simp only [lo_, hL]; rw [if_neg (lo_no c_19 ht.2)]; rfl) | (simp only [lo_, hL]; rw [if_neg (Int32.not_lt.mpr c_19)]; rfl)) (by first | rfl | exact nI_1 _) (by omega) (by omega) ls (lv_sub hl [0, 1, 2, 3] rfl)
          · skip
            refine lv_iload_n hx hb dX5_loudestAt_22 rfl (lv_at hl 1 rfl) ?_
            refine lv_if_lt (tgt := 36) hx hb dX5_loudestAt_23 (by decide) (fun _ => ?_) (fun q => absurd q (by decide))
            refine lv_iload_n hx hb dX5_loudestAt_36 rfl (lv_at hl 0 rfl) ?_
            refine lv_istore_n (lv' := [(2, .int (nI i)), (3, .int (nI i)), (0, .ref (r 0)), (1, .int h)]) hx hb dX5_loudestAt_37 rfl hl (by decide) rfl (fun ls hl => ?_)
            refine lv_iinc (v := (nI i) + 1) (lv' := [(3, .int ((nI i) + 1)), (2, .int (nI i)), (0, .ref (r 0)), (1, .int h)]) hx hb dX5_loudestAt_38 hl (k := 1) rfl (by first | rfl | decide) (by decide) rfl (fun ls hl => ?_)
            refine lv_goto (tgt := 5) hx hb dX5_loudestAt_41 (by decide) ?_
            exact ih_5 (i + 1) (nI i) ((nI i) + 1)  (by first | (simp [lo_, hL, oI_, Int32.not_le.mp c_19]; done) | (simp only [lo_, hL]; rw [if_neg c_19]; rfl) | (simp only [lo_, hL]; rw [if_pos c_33]; rfl) | (simp only [lo_, hL]; rw [if_neg c_33]; rfl) | (simp only [lo_, hL]; rw [if_neg (lo_no c_19 ht.2)]; rfl) | (simp only [lo_, hL]; rw [if_neg (Int32.not_lt.mpr c_19)]; rfl)) (by first | rfl | exact nI_1 _) (by omega) (by omega) ls (lv_sub hl [0, 1, 2, 3] rfl)
      · rw [hL] at hl
        replace hl : lv_has ls 4 [(3, .int (nI i)), (2, .int (nI t)), (0, .ref (r 0)), (1, .int h)] := hl
        have ht := lo_lt _ _ hL
        have ht1 := ht.1
        refine lv_iload_n hx hb dX5_loudestAt_5 rfl (lv_at hl 0 rfl) ?_
        refine lv_aload_n hx hb dX5_loudestAt_6 rfl (lv_at hl 2 rfl) ?_
        refine va_get (ci := 5) (C := RX5) (T := TX5) (N := 33) hx hb hts hinX5 hown hK.1 hP 0 rfl rfl 6 (by decide) (hts _ (List.mem_of_getElem? (i := 1) rfl)) (fun _ h9 => h9) rfl dX5_loudestAt_7 ?_
        refine lv_icmp_ge (tgt := 44) hx hb dX5_loudestAt_10 (by decide) (fun c_10_3 => ?_) (fun c_10_3 => ?_)
        · replace c_10_3 : nI (sn_ B) ≤ nI i := c_10_3
          rw [jle (by omega) (by omega)] at c_10_3
          refine lv_iload_n hx hb dX5_loudestAt_44 rfl (lv_at hl 1 rfl) ?_
          refine rSi hx hb hr hlk ?_ dX5_loudestAt_45
          show (nI t) = _
          have e9 : i = sn_ B := by omega
          rw [e9] at hL; unfold lt_; rw [hL]; rfl
        · replace c_10_3 : ¬ nI (sn_ B) ≤ nI i := c_10_3
          rw [jle (by omega) (by omega)] at c_10_3
          refine lv_aload_n hx hb dX5_loudestAt_13 rfl (lv_at hl 2 rfl) ?_
          refine lv_iload_n hx hb dX5_loudestAt_14 rfl (lv_at hl 0 rfl) ?_
          refine lv_iload_n hx hb dX5_loudestAt_15 rfl (lv_at hl 3 rfl) ?_
          refine kSiV hx hb hml hown hts hK hP gX5_loudestAt_X5_noiseOf okX5_noiseOf (qX5_noiseOf l D cI cB r B M i h (by omega) (hI.2.1 i (by omega)).1) [0, 1, 2, 3, 4, 5, 6, 7, 8, 9, 10, 11, 12, 13, 14, 15] rfl rfl rfl rfl (by decide) hl.1 rfl rfl (by decide) dX5_loudestAt_16 (by decide) (fun r_4 hr_5 => ?_)
          replace hr_5 : r_4 = no_ B i h := hr_5
          subst hr_5
          refine lv_if_le (tgt := 38) hx hb dX5_loudestAt_19 (by decide) (fun c_19_6 => ?_) (fun c_19_6 => ?_)
          · skip
            refine lv_iinc (v := (nI i) + 1) (lv' := [(3, .int ((nI i) + 1)), (2, .int (nI t)), (0, .ref (r 0)), (1, .int h)]) hx hb dX5_loudestAt_38 hl (k := 0) rfl (by first | rfl | decide) (by decide) rfl (fun ls hl => ?_)
            refine lv_goto (tgt := 5) hx hb dX5_loudestAt_41 (by decide) ?_
            exact ih_5 (i + 1) (nI t) ((nI i) + 1)  (by first | (simp [lo_, hL, oI_, Int32.not_le.mp c_19]; done) | (simp only [lo_, hL]; rw [if_neg c_19]; rfl) | (simp only [lo_, hL]; rw [if_pos c_33]; rfl) | (simp only [lo_, hL]; rw [if_neg c_33]; rfl) | (simp only [lo_, hL]; rw [if_neg (lo_no c_19 ht.2)]; rfl) | (simp only [lo_, hL]; rw [if_neg (Int32.not_lt.mpr c_19)]; rfl)) (by first | rfl | exact nI_1 _) (by omega) (by omega) ls (lv_sub hl [0, 1, 2, 3] rfl)
          · skip
            refine lv_iload_n hx hb dX5_loudestAt_22 rfl (lv_at hl 1 rfl) ?_
            refine lv_if_lt (tgt := 36) hx hb dX5_loudestAt_23 (by decide) (fun q => absurd q (nI_pos (by omega))) (fun _ => ?_)
            refine lv_aload_n hx hb dX5_loudestAt_26 rfl (lv_at hl 2 rfl) ?_
            refine lv_iload_n hx hb dX5_loudestAt_27 rfl (lv_at hl 0 rfl) ?_
            refine lv_iload_n hx hb dX5_loudestAt_28 rfl (lv_at hl 1 rfl) ?_
            refine lv_iload_n hx hb dX5_loudestAt_29 rfl (lv_at hl 3 rfl) ?_
            refine kSiV hx hb hml hown hts hK hP gX5_loudestAt_X5_isLouder okX5_isLouder (qX5_isLouder l D cI cB r B M i t h hI (by omega) (by omega)) [0, 1, 2, 3, 4, 5, 6, 7, 8, 9, 10, 11, 12, 13, 14, 15] rfl rfl rfl rfl (by decide) hl.1 rfl rfl (by decide) dX5_loudestAt_30 (by decide) (fun r_8 hr_9 => ?_)
            replace hr_9 : r_8 = b1 (no_ B t h < no_ B i h ∨ (no_ B i h = no_ B t h ∧ di_ B i < di_ B t)) := hr_9
            subst hr_9
            refine lv_if_eq (tgt := 38) hx hb dX5_loudestAt_33 (by decide) (fun c_33 => ?_) (fun c_33 => ?_)
            · replace c_33 := b1_z c_33
              refine lv_iinc (v := (nI i) + 1) (lv' := [(3, .int ((nI i) + 1)), (2, .int (nI t)), (0, .ref (r 0)), (1, .int h)]) hx hb dX5_loudestAt_38 hl (k := 0) rfl (by first | rfl | decide) (by decide) rfl (fun ls hl => ?_)
              refine lv_goto (tgt := 5) hx hb dX5_loudestAt_41 (by decide) ?_
              exact ih_5 (i + 1) (nI t) ((nI i) + 1)  (by first | (simp [lo_, hL, oI_, Int32.not_le.mp c_19]; done) | (simp only [lo_, hL]; rw [if_neg c_19]; rfl) | (simp only [lo_, hL]; rw [if_pos c_33]; rfl) | (simp only [lo_, hL]; rw [if_neg c_33]; rfl) | (simp only [lo_, hL]; rw [if_neg (lo_no c_19 ht.2)]; rfl) | (simp only [lo_, hL]; rw [if_neg (Int32.not_lt.mpr c_19)]; rfl)) (by first | rfl | exact nI_1 _) (by omega) (by omega) ls (lv_sub hl [0, 1, 2, 3] rfl)
            · replace c_33 := b1_n c_33
              refine lv_iload_n hx hb dX5_loudestAt_36 rfl (lv_at hl 0 rfl) ?_
              refine lv_istore_n (lv' := [(2, .int (nI i)), (3, .int (nI i)), (0, .ref (r 0)), (1, .int h)]) hx hb dX5_loudestAt_37 rfl hl (by decide) rfl (fun ls hl => ?_)
              refine lv_iinc (v := (nI i) + 1) (lv' := [(3, .int ((nI i) + 1)), (2, .int (nI i)), (0, .ref (r 0)), (1, .int h)]) hx hb dX5_loudestAt_38 hl (k := 1) rfl (by first | rfl | decide) (by decide) rfl (fun ls hl => ?_)
              refine lv_goto (tgt := 5) hx hb dX5_loudestAt_41 (by decide) ?_
              exact ih_5 (i + 1) (nI i) ((nI i) + 1)  (by first | (simp [lo_, hL, oI_, Int32.not_le.mp c_19]; done) | (simp only [lo_, hL]; rw [if_neg c_19]; rfl) | (simp only [lo_, hL]; rw [if_pos c_33]; rfl) | (simp only [lo_, hL]; rw [if_neg c_33]; rfl) | (simp only [lo_, hL]; rw [if_neg (lo_no c_19 ht.2)]; rfl) | (simp only [lo_, hL]; rw [if_neg (Int32.not_lt.mpr c_19)]; rfl)) (by first | rfl | exact nI_1 _) (by omega) (by omega) ls (lv_sub hl [0, 1, 2, 3] rfl)
  exact lp_5 ((sn_ B) + 1) 0 (-9) 0  (by first | rfl | exact nI_0.symm) (by first | rfl | exact nI_0.symm) (by omega) (by omega) ls (lv_sub hl [0, 1, 2, 3] rfl)

theorem okX5_allNoise : jok yX5_allNoise wsX5_allNoise cX5_allNoise 4 (some .int) 1 := ⟨⟨_, rfl⟩, by decide +kernel, by decide +kernel⟩
set_option maxHeartbeats 4000000 in
set_option maxRecDepth 100000 in
theorem qX5_allNoise (l : Launch) (D : va_G) (cI cB : ClassId) (r : Nat → Nat) (B : BayT) (M : MT) (h : Int32) (hI : bI_ B) : jSi D cI cB l yX5_allNoise wsX5_allNoise 3 [.ref (r 0), .int h] (mW cI r B M) (fun r => r = an_ B h) := by
  refine jSi.of (cc := cX5_allNoise) (maxL := 4) (ret := (some .int)) okX5_allNoise (Nat.le_of_ble_eq_true rfl) ?_
  intro p e s m below meth c ls hx hb hr hts hown hlk hml hP hK hl
  replace hown : s.vm.findClass RX5 = some m.cls := hown
  replace hl : lv_has ls 4 [(0, .ref (r 0)), (1, .int h)] := hl
  have hn7 := hI.1
  have hinX5 : ∀ w ∈ wsX50, w ∈ wsX5_allNoise := by decide +kernel
  refine lv_iconst (v := 0) hx hb dX5_allNoise_0 (by decide) ?_
  refine lv_istore_n (lv' := [(2, .int 0), (0, .ref (r 0)), (1, .int h)]) hx hb dX5_allNoise_1 rfl hl (by decide) rfl (fun ls hl => ?_)
  refine lv_iconst (v := 0) hx hb dX5_allNoise_2 (by decide) ?_
  refine lv_istore_n (lv' := [(3, .int 0), (2, .int 0), (0, .ref (r 0)), (1, .int h)]) hx hb dX5_allNoise_3 rfl hl (by decide) rfl (fun ls hl => ?_)
  have lp_4 : ∀ (fu_4 : Nat) (i : Nat) (x2_4 : Int32) (x3_4 : Int32) , (x2_4 = su_ (fun j => no_ B j h) i) → (x3_4 = nI i) → (i ≤ sn_ B) → sn_ B - i < fu_4 → ∀ ls : Array Slot, lv_has ls 4 [(3, .int x3_4), (2, .int x2_4), (0, .ref (r 0)), (1, .int h)] → W p l e (jR 3) s m ([.ref (r 0), .int h] : List Value).toArray below meth c s.heap [] 0 0 (MQ below (vp_Si (fun r => r = an_ B h)) ([.ref (r 0), .int h] : List Value).toArray s 0 0 (fun _ => False)) (F0 m 4 ls []) := by
    intro fu_4
    induction fu_4 with
    | zero => intro i x2_4 x3_4 hx2_4 hx3_4 hi hfu; exact absurd hfu (Nat.not_lt_zero _)
    | succ fu_4 ih_4 =>
      intro i x2_4 x3_4 hx2_4 hx3_4 hi hfu_4 ls hl
      subst hx2_4
      subst hx3_4
      replace hl : lv_has ls 4 [(3, .int (nI i)), (2, .int (su_ (fun j => no_ B j h) i)), (0, .ref (r 0)), (1, .int h)] := hl
      refine lv_iload_n hx hb dX5_allNoise_4 rfl (lv_at hl 0 rfl) ?_
      refine lv_aload_n hx hb dX5_allNoise_5 rfl (lv_at hl 2 rfl) ?_
      refine va_get (ci := 5) (C := RX5) (T := TX5) (N := 33) hx hb hts hinX5 hown hK.1 hP 0 rfl rfl 6 (by decide) (hts _ (List.mem_of_getElem? (i := 1) rfl)) (fun _ h9 => h9) rfl dX5_allNoise_6 ?_
      refine lv_icmp_ge (tgt := 27) hx hb dX5_allNoise_9 (by decide) (fun c_9 => ?_) (fun c_9 => ?_)
      · replace c_9 : nI (sn_ B) ≤ nI i := c_9
        rw [jle (by omega) (by omega)] at c_9
        refine lv_iload_n hx hb dX5_allNoise_27 rfl (lv_at hl 1 rfl) ?_
        refine rSi hx hb hr hlk ?_ dX5_allNoise_28
        show (su_ (fun j => no_ B j h) i) = _
        have e9 : i = sn_ B := by omega
        rw [e9]; rfl
      · replace c_9 : ¬ nI (sn_ B) ≤ nI i := c_9
        rw [jle (by omega) (by omega)] at c_9
        refine lv_iload_n hx hb dX5_allNoise_12 rfl (lv_at hl 1 rfl) ?_
        refine lv_aload_n hx hb dX5_allNoise_13 rfl (lv_at hl 2 rfl) ?_
        refine lv_iload_n hx hb dX5_allNoise_14 rfl (lv_at hl 0 rfl) ?_
        refine lv_iload_n hx hb dX5_allNoise_15 rfl (lv_at hl 3 rfl) ?_
        refine kSiV hx hb hml hown hts hK hP gX5_allNoise_X5_noiseOf okX5_noiseOf (qX5_noiseOf l D cI cB r B M i h (by omega) (hI.2.1 i (by omega)).1) [0, 1, 2, 3, 4, 5, 6, 7, 8, 9, 10, 11, 12, 13, 14, 15] rfl rfl rfl rfl (by decide) hl.1 rfl rfl (by decide) dX5_allNoise_16 (by decide) (fun r_1 hr_2 => ?_)
        replace hr_2 : r_1 = no_ B i h := hr_2
        subst hr_2
        refine lv_iadd hx hb dX5_allNoise_19 ?_
        refine lv_istore_n (lv' := [(2, .int ((su_ (fun j => no_ B j h) i) + (no_ B i h))), (3, .int (nI i)), (0, .ref (r 0)), (1, .int h)]) hx hb dX5_allNoise_20 rfl hl (by decide) rfl (fun ls hl => ?_)
        refine lv_iinc (v := (nI i) + 1) (lv' := [(3, .int ((nI i) + 1)), (2, .int ((su_ (fun j => no_ B j h) i) + (no_ B i h))), (0, .ref (r 0)), (1, .int h)]) hx hb dX5_allNoise_21 hl (k := 1) rfl (by first | rfl | decide) (by decide) rfl (fun ls hl => ?_)
        refine lv_goto (tgt := 4) hx hb dX5_allNoise_24 (by decide) ?_
        exact ih_4 (i + 1) ((su_ (fun j => no_ B j h) i) + (no_ B i h)) ((nI i) + 1)  (by first | rfl | exact nI_1 _) (by first | rfl | exact nI_1 _) (by omega) (by omega) ls (lv_sub hl [0, 1, 2, 3] rfl)
  exact lp_4 ((sn_ B) + 1) 0 0 0  (by first | rfl | exact nI_0.symm) (by first | rfl | exact nI_0.symm) (by omega) (by omega) ls (lv_sub hl [0, 1, 2, 3] rfl)

theorem okX5_drifts : jok yX5_drifts wsX5_drifts cX5_drifts 6 none 2 := ⟨⟨_, rfl⟩, by decide +kernel, by decide +kernel⟩
set_option maxHeartbeats 4000000 in
set_option maxRecDepth 100000 in
theorem qX5_drifts (l : Launch) (D : va_G) (cI cB : ClassId) (r : Nat → Nat) (B : BayT) (M : MT) (k : Nat) (z : Prop) (iz : Decidable z) (h1 : 0 ≤ pl_ B k ∧ pl_ B k ≤ 30) (h2 : 0 ≤ il_ B ∧ il_ B ≤ 30) (h3 : 1 ≤ pa_ B ∧ pa_ B ≤ 5) : jMv D cI cB l yX5_drifts wsX5_drifts 1 [.ref (r 0), .int (pl_ B k), .int (b1 z)] (mW cI r B M) (S := BayT) (fun u => u = ui_ B (if z then aw_ B k else tw_ B k)) (fun u => mW cI r u M) := by
  refine jMv.of (cc := cX5_drifts) (maxL := 6) (ret := none) okX5_drifts (Nat.le_of_ble_eq_true rfl) ?_
  intro p e s m below meth c ls A hx hb hr hts hown hlk hml hP hK hD hA hS hl
  replace hown : s.vm.findClass RX5 = some m.cls := hown
  replace hl : lv_has ls 6 [(0, .ref (r 0)), (1, .int (pl_ B k)), (2, .int (b1 z))] := hl
  have hinX5 : ∀ w ∈ wsX50, w ∈ wsX5_drifts := by decide +kernel
  refine lv_iload_n hx hb dX5_drifts_0 rfl (lv_at hl 1 rfl) ?_
  refine lv_aload_n hx hb dX5_drifts_1 rfl (lv_at hl 0 rfl) ?_
  refine va_get (ci := 5) (C := RX5) (T := TX5) (N := 33) hx hb hts hinX5 hown hK.1 hP 0 rfl rfl 8 (by decide) (hts _ (List.mem_of_getElem? (i := 1) rfl)) (fun _ h9 => h9) rfl dX5_drifts_2 ?_
  refine kSiS hx hb hml hown hts hK hP gX5_drifts_X5_far okX5_far (qX5_far l D cI cB (pl_ B k) (il_ B) ) [] rfl (by decide) hl.1 rfl rfl (by decide) dX5_drifts_5 (by decide) (fun r_1 hr_2 => ?_)
  replace hr_2 : r_1 = fr_ (pl_ B k) (il_ B) := hr_2
  subst hr_2
  refine lv_istore_n (lv' := [(3, .int (fr_ (pl_ B k) (il_ B))), (0, .ref (r 0)), (1, .int (pl_ B k)), (2, .int (b1 z))]) hx hb dX5_drifts_8 rfl hl (by decide) rfl (fun ls hl => ?_)
  refine lv_iload_n hx hb dX5_drifts_9 rfl (lv_at hl 3 rfl) ?_
  refine lv_if_eq (tgt := 20) hx hb dX5_drifts_10 (by decide) (fun c_10 => ?_) (fun c_10 => ?_)
  · replace c_10 := b1_z c_10
    refine lv_aload_n hx hb dX5_drifts_20 rfl (lv_at hl 1 rfl) ?_
    refine va_get (ci := 5) (C := RX5) (T := TX5) (N := 33) hx hb hts hinX5 hown hK.1 hP 0 rfl rfl 9 (by decide) (hts _ (List.mem_of_getElem? (i := 2) rfl)) (fun _ h9 => h9) rfl dX5_drifts_21 ?_
    refine lv_iload_n hx hb dX5_drifts_24 rfl (lv_at hl 0 rfl) ?_
    refine lv_icmp_ge (tgt := 35) hx hb dX5_drifts_25 (by decide) (fun c_25 => ?_) (fun c_25 => ?_)
    · skip
      refine lv_iload_n hx hb dX5_drifts_35 rfl (lv_at hl 0 rfl) ?_
      refine lv_istore (lv' := [(4, .int (fr_ (pl_ B k) (il_ B))), (3, .int (fr_ (pl_ B k) (il_ B))), (0, .ref (r 0)), (1, .int (pl_ B k)), (2, .int (b1 z))]) hx hb dX5_drifts_36 hl (by decide) rfl (fun ls hl => ?_)
      refine lv_iload_n hx hb dX5_drifts_38 rfl (lv_at hl 4 rfl) ?_
      refine lv_if_eq (tgt := 58) hx hb dX5_drifts_39 (by decide) (fun c_39 => ?_) (fun c_39 => ?_)
      · replace c_39 := b1_z c_39
        refine lv_iload_n hx hb dX5_drifts_58 rfl (lv_at hl 3 rfl) ?_
        refine lv_aload_n hx hb dX5_drifts_59 rfl (lv_at hl 2 rfl) ?_
        refine va_get (ci := 5) (C := RX5) (T := TX5) (N := 33) hx hb hts hinX5 hown hK.1 hP 0 rfl rfl 8 (by decide) (hts _ (List.mem_of_getElem? (i := 1) rfl)) (fun _ h9 => h9) rfl dX5_drifts_60 ?_
        refine lv_icmp_le (tgt := 70) hx hb dX5_drifts_63 (by decide) (fun c_63 => ?_) (fun c_63 => ?_)
        · skip
          refine lv_iconst (v := 0) hx hb dX5_drifts_70 (by decide) ?_
          refine lv_istore (lv' := [(5, .int 0), (4, .int (fr_ (pl_ B k) (il_ B))), (3, .int (fr_ (pl_ B k) (il_ B))), (0, .ref (r 0)), (1, .int (pl_ B k)), (2, .int (b1 z))]) hx hb dX5_drifts_71 hl (by decide) rfl (fun ls hl => ?_)
          refine lv_aload_n hx hb dX5_drifts_73 rfl (lv_at hl 3 rfl) ?_
          refine lv_iload hx hb dX5_drifts_74 (lv_at hl 0 rfl) ?_
          refine lv_if_eq (tgt := 89) hx hb dX5_drifts_76 (by decide) (fun _ => ?_) (fun q => absurd q (by decide))
          refine lv_aload_n hx hb dX5_drifts_89 rfl (lv_at hl 3 rfl) ?_
          refine va_get (ci := 5) (C := RX5) (T := TX5) (N := 33) hx hb hts hinX5 hown hK.1 hP 0 rfl rfl 8 (by decide) (hts _ (List.mem_of_getElem? (i := 1) rfl)) (fun _ h9 => h9) rfl dX5_drifts_90 ?_
          refine lv_iload hx hb dX5_drifts_93 (lv_at hl 1 rfl) ?_
          refine lv_isub hx hb dX5_drifts_95 ?_
          refine lv_iconst (v := 0) hx hb dX5_drifts_96 (by decide) ?_
          refine lv_bipush (v := 30) hx hb dX5_drifts_97 (by decide) ?_
          refine kSiS hx hb hml hown hts hK hP gX5_drifts_X5_held okX5_held (qX5_held l D cI cB ((il_ B) - (fr_ (pl_ B k) (il_ B))) 0 30 ) [] rfl (by decide) hl.1 rfl rfl (by decide) dX5_drifts_99 (by decide) (fun r_3 hr_4 => ?_)
          replace hr_4 : r_3 = he_ ((il_ B) - (fr_ (pl_ B k) (il_ B))) 0 30 := hr_4
          subst hr_4
          refine va_put (ci := 5) (ty := .int) (C := RX5) (T := TX5) (N := 33) hx hb hts hinX5 tyX5 tyX5_ok nmX5 hown hK.1 hP hD hS 0 rfl rfl 8 (by decide) (hts _ (List.mem_of_getElem? (i := 1) rfl)) (fun _ h9 => h9) rfl (by decide +kernel) (rfl) (rfl) (Nat.le_of_ble_eq_true rfl) dX5_drifts_102 (fun H locs hP hD hS => ?_)
          replace hP : va_P D vwCl (mW cI r (mkB (kd_ B) (fg_ B) (pl_ B) (pw_ B) (jy_ B) (qt_ B) (sn_ B) (he_ ((il_ B) - (fr_ (pl_ B k) (il_ B))) 0 30) (pa_ B) (ho_ B) (dy_ B)) M) H := hP
          replace hD : va_D A (mW cI r (mkB (kd_ B) (fg_ B) (pl_ B) (pw_ B) (jy_ B) (qt_ B) (sn_ B) (he_ ((il_ B) - (fr_ (pl_ B k) (il_ B))) 0 30) (pa_ B) (ho_ B) (dy_ B)) M) := hD
          refine rMv hx hb hr hlk hS (mkB (kd_ B) (fg_ B) (pl_ B) (pw_ B) (jy_ B) (qt_ B) (sn_ B) (he_ ((il_ B) - (fr_ (pl_ B k) (il_ B))) 0 30) (pa_ B) (ho_ B) (dy_ B)) hP ?_ dX5_drifts_105
          show (mkB (kd_ B) (fg_ B) (pl_ B) (pw_ B) (jy_ B) (qt_ B) (sn_ B) (he_ ((il_ B) - (fr_ (pl_ B k) (il_ B))) 0 30) (pa_ B) (ho_ B) (dy_ B)) = _
          refine drift_u ?_
          first | rw [if_pos (by assumption), ← aw_eq h1 h2 h3] | rw [if_neg (by assumption), ← tw_eq h1 h2 h3]
          simp_all
        · skip
          refine lv_iconst (v := 1) hx hb dX5_drifts_66 (by decide) ?_
          refine lv_goto (tgt := 71) hx hb dX5_drifts_67 (by decide) ?_
          refine lv_istore (lv' := [(5, .int 1), (4, .int (fr_ (pl_ B k) (il_ B))), (3, .int (fr_ (pl_ B k) (il_ B))), (0, .ref (r 0)), (1, .int (pl_ B k)), (2, .int (b1 z))]) hx hb dX5_drifts_71 hl (by decide) rfl (fun ls hl => ?_)
          refine lv_aload_n hx hb dX5_drifts_73 rfl (lv_at hl 3 rfl) ?_
          refine lv_iload hx hb dX5_drifts_74 (lv_at hl 0 rfl) ?_
          refine lv_if_eq (tgt := 89) hx hb dX5_drifts_76 (by decide) (fun q => absurd q (by decide)) (fun _ => ?_)
          refine lv_aload_n hx hb dX5_drifts_79 rfl (lv_at hl 3 rfl) ?_
          refine va_get (ci := 5) (C := RX5) (T := TX5) (N := 33) hx hb hts hinX5 hown hK.1 hP 0 rfl rfl 8 (by decide) (hts _ (List.mem_of_getElem? (i := 1) rfl)) (fun _ h9 => h9) rfl dX5_drifts_80 ?_
          refine lv_iload hx hb dX5_drifts_83 (lv_at hl 1 rfl) ?_
          refine lv_iadd hx hb dX5_drifts_85 ?_
          refine lv_goto (tgt := 96) hx hb dX5_drifts_86 (by decide) ?_
          refine lv_iconst (v := 0) hx hb dX5_drifts_96 (by decide) ?_
          refine lv_bipush (v := 30) hx hb dX5_drifts_97 (by decide) ?_
          refine kSiS hx hb hml hown hts hK hP gX5_drifts_X5_held okX5_held (qX5_held l D cI cB ((il_ B) + (fr_ (pl_ B k) (il_ B))) 0 30 ) [] rfl (by decide) hl.1 rfl rfl (by decide) dX5_drifts_99 (by decide) (fun r_6 hr_7 => ?_)
          replace hr_7 : r_6 = he_ ((il_ B) + (fr_ (pl_ B k) (il_ B))) 0 30 := hr_7
          subst hr_7
          refine va_put (ci := 5) (ty := .int) (C := RX5) (T := TX5) (N := 33) hx hb hts hinX5 tyX5 tyX5_ok nmX5 hown hK.1 hP hD hS 0 rfl rfl 8 (by decide) (hts _ (List.mem_of_getElem? (i := 1) rfl)) (fun _ h9 => h9) rfl (by decide +kernel) (rfl) (rfl) (Nat.le_of_ble_eq_true rfl) dX5_drifts_102 (fun H locs hP hD hS => ?_)
          replace hP : va_P D vwCl (mW cI r (mkB (kd_ B) (fg_ B) (pl_ B) (pw_ B) (jy_ B) (qt_ B) (sn_ B) (he_ ((il_ B) + (fr_ (pl_ B k) (il_ B))) 0 30) (pa_ B) (ho_ B) (dy_ B)) M) H := hP
          replace hD : va_D A (mW cI r (mkB (kd_ B) (fg_ B) (pl_ B) (pw_ B) (jy_ B) (qt_ B) (sn_ B) (he_ ((il_ B) + (fr_ (pl_ B k) (il_ B))) 0 30) (pa_ B) (ho_ B) (dy_ B)) M) := hD
          refine rMv hx hb hr hlk hS (mkB (kd_ B) (fg_ B) (pl_ B) (pw_ B) (jy_ B) (qt_ B) (sn_ B) (he_ ((il_ B) + (fr_ (pl_ B k) (il_ B))) 0 30) (pa_ B) (ho_ B) (dy_ B)) hP ?_ dX5_drifts_105
          show (mkB (kd_ B) (fg_ B) (pl_ B) (pw_ B) (jy_ B) (qt_ B) (sn_ B) (he_ ((il_ B) + (fr_ (pl_ B k) (il_ B))) 0 30) (pa_ B) (ho_ B) (dy_ B)) = _
          refine drift_u ?_
          first | rw [if_pos (by assumption), ← aw_eq h1 h2 h3] | rw [if_neg (by assumption), ← tw_eq h1 h2 h3]
          simp_all
      · replace c_39 := b1_n c_39
        refine lv_iload_n hx hb dX5_drifts_42 rfl (lv_at hl 3 rfl) ?_
        refine lv_aload_n hx hb dX5_drifts_43 rfl (lv_at hl 2 rfl) ?_
        refine va_get (ci := 5) (C := RX5) (T := TX5) (N := 33) hx hb hts hinX5 hown hK.1 hP 0 rfl rfl 8 (by decide) (hts _ (List.mem_of_getElem? (i := 1) rfl)) (fun _ h9 => h9) rfl dX5_drifts_44 ?_
        refine lv_icmp_ge (tgt := 54) hx hb dX5_drifts_47 (by decide) (fun c_47 => ?_) (fun c_47 => ?_)
        · skip
          refine lv_iconst (v := 0) hx hb dX5_drifts_54 (by decide) ?_
          refine lv_goto (tgt := 71) hx hb dX5_drifts_55 (by decide) ?_
          refine lv_istore (lv' := [(5, .int 0), (4, .int (fr_ (pl_ B k) (il_ B))), (3, .int (fr_ (pl_ B k) (il_ B))), (0, .ref (r 0)), (1, .int (pl_ B k)), (2, .int (b1 z))]) hx hb dX5_drifts_71 hl (by decide) rfl (fun ls hl => ?_)
          refine lv_aload_n hx hb dX5_drifts_73 rfl (lv_at hl 3 rfl) ?_
          refine lv_iload hx hb dX5_drifts_74 (lv_at hl 0 rfl) ?_
          refine lv_if_eq (tgt := 89) hx hb dX5_drifts_76 (by decide) (fun _ => ?_) (fun q => absurd q (by decide))
          refine lv_aload_n hx hb dX5_drifts_89 rfl (lv_at hl 3 rfl) ?_
          refine va_get (ci := 5) (C := RX5) (T := TX5) (N := 33) hx hb hts hinX5 hown hK.1 hP 0 rfl rfl 8 (by decide) (hts _ (List.mem_of_getElem? (i := 1) rfl)) (fun _ h9 => h9) rfl dX5_drifts_90 ?_
          refine lv_iload hx hb dX5_drifts_93 (lv_at hl 1 rfl) ?_
          refine lv_isub hx hb dX5_drifts_95 ?_
          refine lv_iconst (v := 0) hx hb dX5_drifts_96 (by decide) ?_
          refine lv_bipush (v := 30) hx hb dX5_drifts_97 (by decide) ?_
          refine kSiS hx hb hml hown hts hK hP gX5_drifts_X5_held okX5_held (qX5_held l D cI cB ((il_ B) - (fr_ (pl_ B k) (il_ B))) 0 30 ) [] rfl (by decide) hl.1 rfl rfl (by decide) dX5_drifts_99 (by decide) (fun r_9 hr_10 => ?_)
          replace hr_10 : r_9 = he_ ((il_ B) - (fr_ (pl_ B k) (il_ B))) 0 30 := hr_10
          subst hr_10
          refine va_put (ci := 5) (ty := .int) (C := RX5) (T := TX5) (N := 33) hx hb hts hinX5 tyX5 tyX5_ok nmX5 hown hK.1 hP hD hS 0 rfl rfl 8 (by decide) (hts _ (List.mem_of_getElem? (i := 1) rfl)) (fun _ h9 => h9) rfl (by decide +kernel) (rfl) (rfl) (Nat.le_of_ble_eq_true rfl) dX5_drifts_102 (fun H locs hP hD hS => ?_)
          replace hP : va_P D vwCl (mW cI r (mkB (kd_ B) (fg_ B) (pl_ B) (pw_ B) (jy_ B) (qt_ B) (sn_ B) (he_ ((il_ B) - (fr_ (pl_ B k) (il_ B))) 0 30) (pa_ B) (ho_ B) (dy_ B)) M) H := hP
          replace hD : va_D A (mW cI r (mkB (kd_ B) (fg_ B) (pl_ B) (pw_ B) (jy_ B) (qt_ B) (sn_ B) (he_ ((il_ B) - (fr_ (pl_ B k) (il_ B))) 0 30) (pa_ B) (ho_ B) (dy_ B)) M) := hD
          refine rMv hx hb hr hlk hS (mkB (kd_ B) (fg_ B) (pl_ B) (pw_ B) (jy_ B) (qt_ B) (sn_ B) (he_ ((il_ B) - (fr_ (pl_ B k) (il_ B))) 0 30) (pa_ B) (ho_ B) (dy_ B)) hP ?_ dX5_drifts_105
          show (mkB (kd_ B) (fg_ B) (pl_ B) (pw_ B) (jy_ B) (qt_ B) (sn_ B) (he_ ((il_ B) - (fr_ (pl_ B k) (il_ B))) 0 30) (pa_ B) (ho_ B) (dy_ B)) = _
          refine drift_u ?_
          first | rw [if_pos (by assumption), ← aw_eq h1 h2 h3] | rw [if_neg (by assumption), ← tw_eq h1 h2 h3]
          simp_all
        · skip
          refine lv_iconst (v := 1) hx hb dX5_drifts_50 (by decide) ?_
          refine lv_goto (tgt := 71) hx hb dX5_drifts_51 (by decide) ?_
          refine lv_istore (lv' := [(5, .int 1), (4, .int (fr_ (pl_ B k) (il_ B))), (3, .int (fr_ (pl_ B k) (il_ B))), (0, .ref (r 0)), (1, .int (pl_ B k)), (2, .int (b1 z))]) hx hb dX5_drifts_71 hl (by decide) rfl (fun ls hl => ?_)
          refine lv_aload_n hx hb dX5_drifts_73 rfl (lv_at hl 3 rfl) ?_
          refine lv_iload hx hb dX5_drifts_74 (lv_at hl 0 rfl) ?_
          refine lv_if_eq (tgt := 89) hx hb dX5_drifts_76 (by decide) (fun q => absurd q (by decide)) (fun _ => ?_)
          refine lv_aload_n hx hb dX5_drifts_79 rfl (lv_at hl 3 rfl) ?_
          refine va_get (ci := 5) (C := RX5) (T := TX5) (N := 33) hx hb hts hinX5 hown hK.1 hP 0 rfl rfl 8 (by decide) (hts _ (List.mem_of_getElem? (i := 1) rfl)) (fun _ h9 => h9) rfl dX5_drifts_80 ?_
          refine lv_iload hx hb dX5_drifts_83 (lv_at hl 1 rfl) ?_
          refine lv_iadd hx hb dX5_drifts_85 ?_
          refine lv_goto (tgt := 96) hx hb dX5_drifts_86 (by decide) ?_
          refine lv_iconst (v := 0) hx hb dX5_drifts_96 (by decide) ?_
          refine lv_bipush (v := 30) hx hb dX5_drifts_97 (by decide) ?_
          refine kSiS hx hb hml hown hts hK hP gX5_drifts_X5_held okX5_held (qX5_held l D cI cB ((il_ B) + (fr_ (pl_ B k) (il_ B))) 0 30 ) [] rfl (by decide) hl.1 rfl rfl (by decide) dX5_drifts_99 (by decide) (fun r_12 hr_13 => ?_)
          replace hr_13 : r_12 = he_ ((il_ B) + (fr_ (pl_ B k) (il_ B))) 0 30 := hr_13
          subst hr_13
          refine va_put (ci := 5) (ty := .int) (C := RX5) (T := TX5) (N := 33) hx hb hts hinX5 tyX5 tyX5_ok nmX5 hown hK.1 hP hD hS 0 rfl rfl 8 (by decide) (hts _ (List.mem_of_getElem? (i := 1) rfl)) (fun _ h9 => h9) rfl (by decide +kernel) (rfl) (rfl) (Nat.le_of_ble_eq_true rfl) dX5_drifts_102 (fun H locs hP hD hS => ?_)
          replace hP : va_P D vwCl (mW cI r (mkB (kd_ B) (fg_ B) (pl_ B) (pw_ B) (jy_ B) (qt_ B) (sn_ B) (he_ ((il_ B) + (fr_ (pl_ B k) (il_ B))) 0 30) (pa_ B) (ho_ B) (dy_ B)) M) H := hP
          replace hD : va_D A (mW cI r (mkB (kd_ B) (fg_ B) (pl_ B) (pw_ B) (jy_ B) (qt_ B) (sn_ B) (he_ ((il_ B) + (fr_ (pl_ B k) (il_ B))) 0 30) (pa_ B) (ho_ B) (dy_ B)) M) := hD
          refine rMv hx hb hr hlk hS (mkB (kd_ B) (fg_ B) (pl_ B) (pw_ B) (jy_ B) (qt_ B) (sn_ B) (he_ ((il_ B) + (fr_ (pl_ B k) (il_ B))) 0 30) (pa_ B) (ho_ B) (dy_ B)) hP ?_ dX5_drifts_105
          show (mkB (kd_ B) (fg_ B) (pl_ B) (pw_ B) (jy_ B) (qt_ B) (sn_ B) (he_ ((il_ B) + (fr_ (pl_ B k) (il_ B))) 0 30) (pa_ B) (ho_ B) (dy_ B)) = _
          refine drift_u ?_
          first | rw [if_pos (by assumption), ← aw_eq h1 h2 h3] | rw [if_neg (by assumption), ← tw_eq h1 h2 h3]
          simp_all
    · skip
      refine lv_aload_n hx hb dX5_drifts_28 rfl (lv_at hl 1 rfl) ?_
      refine va_get (ci := 5) (C := RX5) (T := TX5) (N := 33) hx hb hts hinX5 hown hK.1 hP 0 rfl rfl 9 (by decide) (hts _ (List.mem_of_getElem? (i := 2) rfl)) (fun _ h9 => h9) rfl dX5_drifts_29 ?_
      refine lv_goto (tgt := 36) hx hb dX5_drifts_32 (by decide) ?_
      refine lv_istore (lv' := [(4, .int (pa_ B)), (3, .int (fr_ (pl_ B k) (il_ B))), (0, .ref (r 0)), (1, .int (pl_ B k)), (2, .int (b1 z))]) hx hb dX5_drifts_36 hl (by decide) rfl (fun ls hl => ?_)
      refine lv_iload_n hx hb dX5_drifts_38 rfl (lv_at hl 4 rfl) ?_
      refine lv_if_eq (tgt := 58) hx hb dX5_drifts_39 (by decide) (fun c_39_14 => ?_) (fun c_39_14 => ?_)
      · replace c_39_14 := b1_z c_39_14
        refine lv_iload_n hx hb dX5_drifts_58 rfl (lv_at hl 3 rfl) ?_
        refine lv_aload_n hx hb dX5_drifts_59 rfl (lv_at hl 2 rfl) ?_
        refine va_get (ci := 5) (C := RX5) (T := TX5) (N := 33) hx hb hts hinX5 hown hK.1 hP 0 rfl rfl 8 (by decide) (hts _ (List.mem_of_getElem? (i := 1) rfl)) (fun _ h9 => h9) rfl dX5_drifts_60 ?_
        refine lv_icmp_le (tgt := 70) hx hb dX5_drifts_63 (by decide) (fun c_63_15 => ?_) (fun c_63_15 => ?_)
        · skip
          refine lv_iconst (v := 0) hx hb dX5_drifts_70 (by decide) ?_
          refine lv_istore (lv' := [(5, .int 0), (4, .int (pa_ B)), (3, .int (fr_ (pl_ B k) (il_ B))), (0, .ref (r 0)), (1, .int (pl_ B k)), (2, .int (b1 z))]) hx hb dX5_drifts_71 hl (by decide) rfl (fun ls hl => ?_)
          refine lv_aload_n hx hb dX5_drifts_73 rfl (lv_at hl 3 rfl) ?_
          refine lv_iload hx hb dX5_drifts_74 (lv_at hl 0 rfl) ?_
          refine lv_if_eq (tgt := 89) hx hb dX5_drifts_76 (by decide) (fun _ => ?_) (fun q => absurd q (by decide))
          refine lv_aload_n hx hb dX5_drifts_89 rfl (lv_at hl 3 rfl) ?_
          refine va_get (ci := 5) (C := RX5) (T := TX5) (N := 33) hx hb hts hinX5 hown hK.1 hP 0 rfl rfl 8 (by decide) (hts _ (List.mem_of_getElem? (i := 1) rfl)) (fun _ h9 => h9) rfl dX5_drifts_90 ?_
          refine lv_iload hx hb dX5_drifts_93 (lv_at hl 1 rfl) ?_
          refine lv_isub hx hb dX5_drifts_95 ?_
          refine lv_iconst (v := 0) hx hb dX5_drifts_96 (by decide) ?_
          refine lv_bipush (v := 30) hx hb dX5_drifts_97 (by decide) ?_
          refine kSiS hx hb hml hown hts hK hP gX5_drifts_X5_held okX5_held (qX5_held l D cI cB ((il_ B) - (pa_ B)) 0 30 ) [] rfl (by decide) hl.1 rfl rfl (by decide) dX5_drifts_99 (by decide) (fun r_17 hr_18 => ?_)
          replace hr_18 : r_17 = he_ ((il_ B) - (pa_ B)) 0 30 := hr_18
          subst hr_18
          refine va_put (ci := 5) (ty := .int) (C := RX5) (T := TX5) (N := 33) hx hb hts hinX5 tyX5 tyX5_ok nmX5 hown hK.1 hP hD hS 0 rfl rfl 8 (by decide) (hts _ (List.mem_of_getElem? (i := 1) rfl)) (fun _ h9 => h9) rfl (by decide +kernel) (rfl) (rfl) (Nat.le_of_ble_eq_true rfl) dX5_drifts_102 (fun H locs hP hD hS => ?_)
          replace hP : va_P D vwCl (mW cI r (mkB (kd_ B) (fg_ B) (pl_ B) (pw_ B) (jy_ B) (qt_ B) (sn_ B) (he_ ((il_ B) - (pa_ B)) 0 30) (pa_ B) (ho_ B) (dy_ B)) M) H := hP
          replace hD : va_D A (mW cI r (mkB (kd_ B) (fg_ B) (pl_ B) (pw_ B) (jy_ B) (qt_ B) (sn_ B) (he_ ((il_ B) - (pa_ B)) 0 30) (pa_ B) (ho_ B) (dy_ B)) M) := hD
          refine rMv hx hb hr hlk hS (mkB (kd_ B) (fg_ B) (pl_ B) (pw_ B) (jy_ B) (qt_ B) (sn_ B) (he_ ((il_ B) - (pa_ B)) 0 30) (pa_ B) (ho_ B) (dy_ B)) hP ?_ dX5_drifts_105
          show (mkB (kd_ B) (fg_ B) (pl_ B) (pw_ B) (jy_ B) (qt_ B) (sn_ B) (he_ ((il_ B) - (pa_ B)) 0 30) (pa_ B) (ho_ B) (dy_ B)) = _
          refine drift_u ?_
          first | rw [if_pos (by assumption), ← aw_eq h1 h2 h3] | rw [if_neg (by assumption), ← tw_eq h1 h2 h3]
          simp_all
        · skip
          refine lv_iconst (v := 1) hx hb dX5_drifts_66 (by decide) ?_
          refine lv_goto (tgt := 71) hx hb dX5_drifts_67 (by decide) ?_
          refine lv_istore (lv' := [(5, .int 1), (4, .int (pa_ B)), (3, .int (fr_ (pl_ B k) (il_ B))), (0, .ref (r 0)), (1, .int (pl_ B k)), (2, .int (b1 z))]) hx hb dX5_drifts_71 hl (by decide) rfl (fun ls hl => ?_)
          refine lv_aload_n hx hb dX5_drifts_73 rfl (lv_at hl 3 rfl) ?_
          refine lv_iload hx hb dX5_drifts_74 (lv_at hl 0 rfl) ?_
          refine lv_if_eq (tgt := 89) hx hb dX5_drifts_76 (by decide) (fun q => absurd q (by decide)) (fun _ => ?_)
          refine lv_aload_n hx hb dX5_drifts_79 rfl (lv_at hl 3 rfl) ?_
          refine va_get (ci := 5) (C := RX5) (T := TX5) (N := 33) hx hb hts hinX5 hown hK.1 hP 0 rfl rfl 8 (by decide) (hts _ (List.mem_of_getElem? (i := 1) rfl)) (fun _ h9 => h9) rfl dX5_drifts_80 ?_
          refine lv_iload hx hb dX5_drifts_83 (lv_at hl 1 rfl) ?_
          refine lv_iadd hx hb dX5_drifts_85 ?_
          refine lv_goto (tgt := 96) hx hb dX5_drifts_86 (by decide) ?_
          refine lv_iconst (v := 0) hx hb dX5_drifts_96 (by decide) ?_
          refine lv_bipush (v := 30) hx hb dX5_drifts_97 (by decide) ?_
          refine kSiS hx hb hml hown hts hK hP gX5_drifts_X5_held okX5_held (qX5_held l D cI cB ((il_ B) + (pa_ B)) 0 30 ) [] rfl (by decide) hl.1 rfl rfl (by decide) dX5_drifts_99 (by decide) (fun r_20 hr_21 => ?_)
          replace hr_21 : r_20 = he_ ((il_ B) + (pa_ B)) 0 30 := hr_21
          subst hr_21
          refine va_put (ci := 5) (ty := .int) (C := RX5) (T := TX5) (N := 33) hx hb hts hinX5 tyX5 tyX5_ok nmX5 hown hK.1 hP hD hS 0 rfl rfl 8 (by decide) (hts _ (List.mem_of_getElem? (i := 1) rfl)) (fun _ h9 => h9) rfl (by decide +kernel) (rfl) (rfl) (Nat.le_of_ble_eq_true rfl) dX5_drifts_102 (fun H locs hP hD hS => ?_)
          replace hP : va_P D vwCl (mW cI r (mkB (kd_ B) (fg_ B) (pl_ B) (pw_ B) (jy_ B) (qt_ B) (sn_ B) (he_ ((il_ B) + (pa_ B)) 0 30) (pa_ B) (ho_ B) (dy_ B)) M) H := hP
          replace hD : va_D A (mW cI r (mkB (kd_ B) (fg_ B) (pl_ B) (pw_ B) (jy_ B) (qt_ B) (sn_ B) (he_ ((il_ B) + (pa_ B)) 0 30) (pa_ B) (ho_ B) (dy_ B)) M) := hD
          refine rMv hx hb hr hlk hS (mkB (kd_ B) (fg_ B) (pl_ B) (pw_ B) (jy_ B) (qt_ B) (sn_ B) (he_ ((il_ B) + (pa_ B)) 0 30) (pa_ B) (ho_ B) (dy_ B)) hP ?_ dX5_drifts_105
          show (mkB (kd_ B) (fg_ B) (pl_ B) (pw_ B) (jy_ B) (qt_ B) (sn_ B) (he_ ((il_ B) + (pa_ B)) 0 30) (pa_ B) (ho_ B) (dy_ B)) = _
          refine drift_u ?_
          first | rw [if_pos (by assumption), ← aw_eq h1 h2 h3] | rw [if_neg (by assumption), ← tw_eq h1 h2 h3]
          simp_all
      · replace c_39_14 := b1_n c_39_14
        refine lv_iload_n hx hb dX5_drifts_42 rfl (lv_at hl 3 rfl) ?_
        refine lv_aload_n hx hb dX5_drifts_43 rfl (lv_at hl 2 rfl) ?_
        refine va_get (ci := 5) (C := RX5) (T := TX5) (N := 33) hx hb hts hinX5 hown hK.1 hP 0 rfl rfl 8 (by decide) (hts _ (List.mem_of_getElem? (i := 1) rfl)) (fun _ h9 => h9) rfl dX5_drifts_44 ?_
        refine lv_icmp_ge (tgt := 54) hx hb dX5_drifts_47 (by decide) (fun c_47_22 => ?_) (fun c_47_22 => ?_)
        · skip
          refine lv_iconst (v := 0) hx hb dX5_drifts_54 (by decide) ?_
          refine lv_goto (tgt := 71) hx hb dX5_drifts_55 (by decide) ?_
          refine lv_istore (lv' := [(5, .int 0), (4, .int (pa_ B)), (3, .int (fr_ (pl_ B k) (il_ B))), (0, .ref (r 0)), (1, .int (pl_ B k)), (2, .int (b1 z))]) hx hb dX5_drifts_71 hl (by decide) rfl (fun ls hl => ?_)
          refine lv_aload_n hx hb dX5_drifts_73 rfl (lv_at hl 3 rfl) ?_
          refine lv_iload hx hb dX5_drifts_74 (lv_at hl 0 rfl) ?_
          refine lv_if_eq (tgt := 89) hx hb dX5_drifts_76 (by decide) (fun _ => ?_) (fun q => absurd q (by decide))
          refine lv_aload_n hx hb dX5_drifts_89 rfl (lv_at hl 3 rfl) ?_
          refine va_get (ci := 5) (C := RX5) (T := TX5) (N := 33) hx hb hts hinX5 hown hK.1 hP 0 rfl rfl 8 (by decide) (hts _ (List.mem_of_getElem? (i := 1) rfl)) (fun _ h9 => h9) rfl dX5_drifts_90 ?_
          refine lv_iload hx hb dX5_drifts_93 (lv_at hl 1 rfl) ?_
          refine lv_isub hx hb dX5_drifts_95 ?_
          refine lv_iconst (v := 0) hx hb dX5_drifts_96 (by decide) ?_
          refine lv_bipush (v := 30) hx hb dX5_drifts_97 (by decide) ?_
          refine kSiS hx hb hml hown hts hK hP gX5_drifts_X5_held okX5_held (qX5_held l D cI cB ((il_ B) - (pa_ B)) 0 30 ) [] rfl (by decide) hl.1 rfl rfl (by decide) dX5_drifts_99 (by decide) (fun r_24 hr_25 => ?_)
          replace hr_25 : r_24 = he_ ((il_ B) - (pa_ B)) 0 30 := hr_25
          subst hr_25
          refine va_put (ci := 5) (ty := .int) (C := RX5) (T := TX5) (N := 33) hx hb hts hinX5 tyX5 tyX5_ok nmX5 hown hK.1 hP hD hS 0 rfl rfl 8 (by decide) (hts _ (List.mem_of_getElem? (i := 1) rfl)) (fun _ h9 => h9) rfl (by decide +kernel) (rfl) (rfl) (Nat.le_of_ble_eq_true rfl) dX5_drifts_102 (fun H locs hP hD hS => ?_)
          replace hP : va_P D vwCl (mW cI r (mkB (kd_ B) (fg_ B) (pl_ B) (pw_ B) (jy_ B) (qt_ B) (sn_ B) (he_ ((il_ B) - (pa_ B)) 0 30) (pa_ B) (ho_ B) (dy_ B)) M) H := hP
          replace hD : va_D A (mW cI r (mkB (kd_ B) (fg_ B) (pl_ B) (pw_ B) (jy_ B) (qt_ B) (sn_ B) (he_ ((il_ B) - (pa_ B)) 0 30) (pa_ B) (ho_ B) (dy_ B)) M) := hD
          refine rMv hx hb hr hlk hS (mkB (kd_ B) (fg_ B) (pl_ B) (pw_ B) (jy_ B) (qt_ B) (sn_ B) (he_ ((il_ B) - (pa_ B)) 0 30) (pa_ B) (ho_ B) (dy_ B)) hP ?_ dX5_drifts_105
          show (mkB (kd_ B) (fg_ B) (pl_ B) (pw_ B) (jy_ B) (qt_ B) (sn_ B) (he_ ((il_ B) - (pa_ B)) 0 30) (pa_ B) (ho_ B) (dy_ B)) = _
          refine drift_u ?_
          first | rw [if_pos (by assumption), ← aw_eq h1 h2 h3] | rw [if_neg (by assumption), ← tw_eq h1 h2 h3]
          simp_all
        · skip
          refine lv_iconst (v := 1) hx hb dX5_drifts_50 (by decide) ?_
          refine lv_goto (tgt := 71) hx hb dX5_drifts_51 (by decide) ?_
          refine lv_istore (lv' := [(5, .int 1), (4, .int (pa_ B)), (3, .int (fr_ (pl_ B k) (il_ B))), (0, .ref (r 0)), (1, .int (pl_ B k)), (2, .int (b1 z))]) hx hb dX5_drifts_71 hl (by decide) rfl (fun ls hl => ?_)
          refine lv_aload_n hx hb dX5_drifts_73 rfl (lv_at hl 3 rfl) ?_
          refine lv_iload hx hb dX5_drifts_74 (lv_at hl 0 rfl) ?_
          refine lv_if_eq (tgt := 89) hx hb dX5_drifts_76 (by decide) (fun q => absurd q (by decide)) (fun _ => ?_)
          refine lv_aload_n hx hb dX5_drifts_79 rfl (lv_at hl 3 rfl) ?_
          refine va_get (ci := 5) (C := RX5) (T := TX5) (N := 33) hx hb hts hinX5 hown hK.1 hP 0 rfl rfl 8 (by decide) (hts _ (List.mem_of_getElem? (i := 1) rfl)) (fun _ h9 => h9) rfl dX5_drifts_80 ?_
          refine lv_iload hx hb dX5_drifts_83 (lv_at hl 1 rfl) ?_
          refine lv_iadd hx hb dX5_drifts_85 ?_
          refine lv_goto (tgt := 96) hx hb dX5_drifts_86 (by decide) ?_
          refine lv_iconst (v := 0) hx hb dX5_drifts_96 (by decide) ?_
          refine lv_bipush (v := 30) hx hb dX5_drifts_97 (by decide) ?_
          refine kSiS hx hb hml hown hts hK hP gX5_drifts_X5_held okX5_held (qX5_held l D cI cB ((il_ B) + (pa_ B)) 0 30 ) [] rfl (by decide) hl.1 rfl rfl (by decide) dX5_drifts_99 (by decide) (fun r_27 hr_28 => ?_)
          replace hr_28 : r_27 = he_ ((il_ B) + (pa_ B)) 0 30 := hr_28
          subst hr_28
          refine va_put (ci := 5) (ty := .int) (C := RX5) (T := TX5) (N := 33) hx hb hts hinX5 tyX5 tyX5_ok nmX5 hown hK.1 hP hD hS 0 rfl rfl 8 (by decide) (hts _ (List.mem_of_getElem? (i := 1) rfl)) (fun _ h9 => h9) rfl (by decide +kernel) (rfl) (rfl) (Nat.le_of_ble_eq_true rfl) dX5_drifts_102 (fun H locs hP hD hS => ?_)
          replace hP : va_P D vwCl (mW cI r (mkB (kd_ B) (fg_ B) (pl_ B) (pw_ B) (jy_ B) (qt_ B) (sn_ B) (he_ ((il_ B) + (pa_ B)) 0 30) (pa_ B) (ho_ B) (dy_ B)) M) H := hP
          replace hD : va_D A (mW cI r (mkB (kd_ B) (fg_ B) (pl_ B) (pw_ B) (jy_ B) (qt_ B) (sn_ B) (he_ ((il_ B) + (pa_ B)) 0 30) (pa_ B) (ho_ B) (dy_ B)) M) := hD
          refine rMv hx hb hr hlk hS (mkB (kd_ B) (fg_ B) (pl_ B) (pw_ B) (jy_ B) (qt_ B) (sn_ B) (he_ ((il_ B) + (pa_ B)) 0 30) (pa_ B) (ho_ B) (dy_ B)) hP ?_ dX5_drifts_105
          show (mkB (kd_ B) (fg_ B) (pl_ B) (pw_ B) (jy_ B) (qt_ B) (sn_ B) (he_ ((il_ B) + (pa_ B)) 0 30) (pa_ B) (ho_ B) (dy_ B)) = _
          refine drift_u ?_
          first | rw [if_pos (by assumption), ← aw_eq h1 h2 h3] | rw [if_neg (by assumption), ← tw_eq h1 h2 h3]
          simp_all
  · replace c_10 := b1_n c_10
    refine lv_aload_n hx hb dX5_drifts_13 rfl (lv_at hl 1 rfl) ?_
    refine va_get (ci := 5) (C := RX5) (T := TX5) (N := 33) hx hb hts hinX5 hown hK.1 hP 0 rfl rfl 9 (by decide) (hts _ (List.mem_of_getElem? (i := 2) rfl)) (fun _ h9 => h9) rfl dX5_drifts_14 ?_
    refine lv_goto (tgt := 36) hx hb dX5_drifts_17 (by decide) ?_
    refine lv_istore (lv' := [(4, .int (pa_ B)), (3, .int (fr_ (pl_ B k) (il_ B))), (0, .ref (r 0)), (1, .int (pl_ B k)), (2, .int (b1 z))]) hx hb dX5_drifts_36 hl (by decide) rfl (fun ls hl => ?_)
    refine lv_iload_n hx hb dX5_drifts_38 rfl (lv_at hl 4 rfl) ?_
    refine lv_if_eq (tgt := 58) hx hb dX5_drifts_39 (by decide) (fun c_39_29 => ?_) (fun c_39_29 => ?_)
    · replace c_39_29 := b1_z c_39_29
      refine lv_iload_n hx hb dX5_drifts_58 rfl (lv_at hl 3 rfl) ?_
      refine lv_aload_n hx hb dX5_drifts_59 rfl (lv_at hl 2 rfl) ?_
      refine va_get (ci := 5) (C := RX5) (T := TX5) (N := 33) hx hb hts hinX5 hown hK.1 hP 0 rfl rfl 8 (by decide) (hts _ (List.mem_of_getElem? (i := 1) rfl)) (fun _ h9 => h9) rfl dX5_drifts_60 ?_
      refine lv_icmp_le (tgt := 70) hx hb dX5_drifts_63 (by decide) (fun c_63_30 => ?_) (fun c_63_30 => ?_)
      · skip
        refine lv_iconst (v := 0) hx hb dX5_drifts_70 (by decide) ?_
        refine lv_istore (lv' := [(5, .int 0), (4, .int (pa_ B)), (3, .int (fr_ (pl_ B k) (il_ B))), (0, .ref (r 0)), (1, .int (pl_ B k)), (2, .int (b1 z))]) hx hb dX5_drifts_71 hl (by decide) rfl (fun ls hl => ?_)
        refine lv_aload_n hx hb dX5_drifts_73 rfl (lv_at hl 3 rfl) ?_
        refine lv_iload hx hb dX5_drifts_74 (lv_at hl 0 rfl) ?_
        refine lv_if_eq (tgt := 89) hx hb dX5_drifts_76 (by decide) (fun _ => ?_) (fun q => absurd q (by decide))
        refine lv_aload_n hx hb dX5_drifts_89 rfl (lv_at hl 3 rfl) ?_
        refine va_get (ci := 5) (C := RX5) (T := TX5) (N := 33) hx hb hts hinX5 hown hK.1 hP 0 rfl rfl 8 (by decide) (hts _ (List.mem_of_getElem? (i := 1) rfl)) (fun _ h9 => h9) rfl dX5_drifts_90 ?_
        refine lv_iload hx hb dX5_drifts_93 (lv_at hl 1 rfl) ?_
        refine lv_isub hx hb dX5_drifts_95 ?_
        refine lv_iconst (v := 0) hx hb dX5_drifts_96 (by decide) ?_
        refine lv_bipush (v := 30) hx hb dX5_drifts_97 (by decide) ?_
        refine kSiS hx hb hml hown hts hK hP gX5_drifts_X5_held okX5_held (qX5_held l D cI cB ((il_ B) - (pa_ B)) 0 30 ) [] rfl (by decide) hl.1 rfl rfl (by decide) dX5_drifts_99 (by decide) (fun r_32 hr_33 => ?_)
        replace hr_33 : r_32 = he_ ((il_ B) - (pa_ B)) 0 30 := hr_33
        subst hr_33
        refine va_put (ci := 5) (ty := .int) (C := RX5) (T := TX5) (N := 33) hx hb hts hinX5 tyX5 tyX5_ok nmX5 hown hK.1 hP hD hS 0 rfl rfl 8 (by decide) (hts _ (List.mem_of_getElem? (i := 1) rfl)) (fun _ h9 => h9) rfl (by decide +kernel) (rfl) (rfl) (Nat.le_of_ble_eq_true rfl) dX5_drifts_102 (fun H locs hP hD hS => ?_)
        replace hP : va_P D vwCl (mW cI r (mkB (kd_ B) (fg_ B) (pl_ B) (pw_ B) (jy_ B) (qt_ B) (sn_ B) (he_ ((il_ B) - (pa_ B)) 0 30) (pa_ B) (ho_ B) (dy_ B)) M) H := hP
        replace hD : va_D A (mW cI r (mkB (kd_ B) (fg_ B) (pl_ B) (pw_ B) (jy_ B) (qt_ B) (sn_ B) (he_ ((il_ B) - (pa_ B)) 0 30) (pa_ B) (ho_ B) (dy_ B)) M) := hD
        refine rMv hx hb hr hlk hS (mkB (kd_ B) (fg_ B) (pl_ B) (pw_ B) (jy_ B) (qt_ B) (sn_ B) (he_ ((il_ B) - (pa_ B)) 0 30) (pa_ B) (ho_ B) (dy_ B)) hP ?_ dX5_drifts_105
        show (mkB (kd_ B) (fg_ B) (pl_ B) (pw_ B) (jy_ B) (qt_ B) (sn_ B) (he_ ((il_ B) - (pa_ B)) 0 30) (pa_ B) (ho_ B) (dy_ B)) = _
        refine drift_u ?_
        first | rw [if_pos (by assumption), ← aw_eq h1 h2 h3] | rw [if_neg (by assumption), ← tw_eq h1 h2 h3]
        simp_all
      · skip
        refine lv_iconst (v := 1) hx hb dX5_drifts_66 (by decide) ?_
        refine lv_goto (tgt := 71) hx hb dX5_drifts_67 (by decide) ?_
        refine lv_istore (lv' := [(5, .int 1), (4, .int (pa_ B)), (3, .int (fr_ (pl_ B k) (il_ B))), (0, .ref (r 0)), (1, .int (pl_ B k)), (2, .int (b1 z))]) hx hb dX5_drifts_71 hl (by decide) rfl (fun ls hl => ?_)
        refine lv_aload_n hx hb dX5_drifts_73 rfl (lv_at hl 3 rfl) ?_
        refine lv_iload hx hb dX5_drifts_74 (lv_at hl 0 rfl) ?_
        refine lv_if_eq (tgt := 89) hx hb dX5_drifts_76 (by decide) (fun q => absurd q (by decide)) (fun _ => ?_)
        refine lv_aload_n hx hb dX5_drifts_79 rfl (lv_at hl 3 rfl) ?_
        refine va_get (ci := 5) (C := RX5) (T := TX5) (N := 33) hx hb hts hinX5 hown hK.1 hP 0 rfl rfl 8 (by decide) (hts _ (List.mem_of_getElem? (i := 1) rfl)) (fun _ h9 => h9) rfl dX5_drifts_80 ?_
        refine lv_iload hx hb dX5_drifts_83 (lv_at hl 1 rfl) ?_
        refine lv_iadd hx hb dX5_drifts_85 ?_
        refine lv_goto (tgt := 96) hx hb dX5_drifts_86 (by decide) ?_
        refine lv_iconst (v := 0) hx hb dX5_drifts_96 (by decide) ?_
        refine lv_bipush (v := 30) hx hb dX5_drifts_97 (by decide) ?_
        refine kSiS hx hb hml hown hts hK hP gX5_drifts_X5_held okX5_held (qX5_held l D cI cB ((il_ B) + (pa_ B)) 0 30 ) [] rfl (by decide) hl.1 rfl rfl (by decide) dX5_drifts_99 (by decide) (fun r_35 hr_36 => ?_)
        replace hr_36 : r_35 = he_ ((il_ B) + (pa_ B)) 0 30 := hr_36
        subst hr_36
        refine va_put (ci := 5) (ty := .int) (C := RX5) (T := TX5) (N := 33) hx hb hts hinX5 tyX5 tyX5_ok nmX5 hown hK.1 hP hD hS 0 rfl rfl 8 (by decide) (hts _ (List.mem_of_getElem? (i := 1) rfl)) (fun _ h9 => h9) rfl (by decide +kernel) (rfl) (rfl) (Nat.le_of_ble_eq_true rfl) dX5_drifts_102 (fun H locs hP hD hS => ?_)
        replace hP : va_P D vwCl (mW cI r (mkB (kd_ B) (fg_ B) (pl_ B) (pw_ B) (jy_ B) (qt_ B) (sn_ B) (he_ ((il_ B) + (pa_ B)) 0 30) (pa_ B) (ho_ B) (dy_ B)) M) H := hP
        replace hD : va_D A (mW cI r (mkB (kd_ B) (fg_ B) (pl_ B) (pw_ B) (jy_ B) (qt_ B) (sn_ B) (he_ ((il_ B) + (pa_ B)) 0 30) (pa_ B) (ho_ B) (dy_ B)) M) := hD
        refine rMv hx hb hr hlk hS (mkB (kd_ B) (fg_ B) (pl_ B) (pw_ B) (jy_ B) (qt_ B) (sn_ B) (he_ ((il_ B) + (pa_ B)) 0 30) (pa_ B) (ho_ B) (dy_ B)) hP ?_ dX5_drifts_105
        show (mkB (kd_ B) (fg_ B) (pl_ B) (pw_ B) (jy_ B) (qt_ B) (sn_ B) (he_ ((il_ B) + (pa_ B)) 0 30) (pa_ B) (ho_ B) (dy_ B)) = _
        refine drift_u ?_
        first | rw [if_pos (by assumption), ← aw_eq h1 h2 h3] | rw [if_neg (by assumption), ← tw_eq h1 h2 h3]
        simp_all
    · replace c_39_29 := b1_n c_39_29
      refine lv_iload_n hx hb dX5_drifts_42 rfl (lv_at hl 3 rfl) ?_
      refine lv_aload_n hx hb dX5_drifts_43 rfl (lv_at hl 2 rfl) ?_
      refine va_get (ci := 5) (C := RX5) (T := TX5) (N := 33) hx hb hts hinX5 hown hK.1 hP 0 rfl rfl 8 (by decide) (hts _ (List.mem_of_getElem? (i := 1) rfl)) (fun _ h9 => h9) rfl dX5_drifts_44 ?_
      refine lv_icmp_ge (tgt := 54) hx hb dX5_drifts_47 (by decide) (fun c_47_37 => ?_) (fun c_47_37 => ?_)
      · skip
        refine lv_iconst (v := 0) hx hb dX5_drifts_54 (by decide) ?_
        refine lv_goto (tgt := 71) hx hb dX5_drifts_55 (by decide) ?_
        refine lv_istore (lv' := [(5, .int 0), (4, .int (pa_ B)), (3, .int (fr_ (pl_ B k) (il_ B))), (0, .ref (r 0)), (1, .int (pl_ B k)), (2, .int (b1 z))]) hx hb dX5_drifts_71 hl (by decide) rfl (fun ls hl => ?_)
        refine lv_aload_n hx hb dX5_drifts_73 rfl (lv_at hl 3 rfl) ?_
        refine lv_iload hx hb dX5_drifts_74 (lv_at hl 0 rfl) ?_
        refine lv_if_eq (tgt := 89) hx hb dX5_drifts_76 (by decide) (fun _ => ?_) (fun q => absurd q (by decide))
        refine lv_aload_n hx hb dX5_drifts_89 rfl (lv_at hl 3 rfl) ?_
        refine va_get (ci := 5) (C := RX5) (T := TX5) (N := 33) hx hb hts hinX5 hown hK.1 hP 0 rfl rfl 8 (by decide) (hts _ (List.mem_of_getElem? (i := 1) rfl)) (fun _ h9 => h9) rfl dX5_drifts_90 ?_
        refine lv_iload hx hb dX5_drifts_93 (lv_at hl 1 rfl) ?_
        refine lv_isub hx hb dX5_drifts_95 ?_
        refine lv_iconst (v := 0) hx hb dX5_drifts_96 (by decide) ?_
        refine lv_bipush (v := 30) hx hb dX5_drifts_97 (by decide) ?_
        refine kSiS hx hb hml hown hts hK hP gX5_drifts_X5_held okX5_held (qX5_held l D cI cB ((il_ B) - (pa_ B)) 0 30 ) [] rfl (by decide) hl.1 rfl rfl (by decide) dX5_drifts_99 (by decide) (fun r_39 hr_40 => ?_)
        replace hr_40 : r_39 = he_ ((il_ B) - (pa_ B)) 0 30 := hr_40
        subst hr_40
        refine va_put (ci := 5) (ty := .int) (C := RX5) (T := TX5) (N := 33) hx hb hts hinX5 tyX5 tyX5_ok nmX5 hown hK.1 hP hD hS 0 rfl rfl 8 (by decide) (hts _ (List.mem_of_getElem? (i := 1) rfl)) (fun _ h9 => h9) rfl (by decide +kernel) (rfl) (rfl) (Nat.le_of_ble_eq_true rfl) dX5_drifts_102 (fun H locs hP hD hS => ?_)
        replace hP : va_P D vwCl (mW cI r (mkB (kd_ B) (fg_ B) (pl_ B) (pw_ B) (jy_ B) (qt_ B) (sn_ B) (he_ ((il_ B) - (pa_ B)) 0 30) (pa_ B) (ho_ B) (dy_ B)) M) H := hP
        replace hD : va_D A (mW cI r (mkB (kd_ B) (fg_ B) (pl_ B) (pw_ B) (jy_ B) (qt_ B) (sn_ B) (he_ ((il_ B) - (pa_ B)) 0 30) (pa_ B) (ho_ B) (dy_ B)) M) := hD
        refine rMv hx hb hr hlk hS (mkB (kd_ B) (fg_ B) (pl_ B) (pw_ B) (jy_ B) (qt_ B) (sn_ B) (he_ ((il_ B) - (pa_ B)) 0 30) (pa_ B) (ho_ B) (dy_ B)) hP ?_ dX5_drifts_105
        show (mkB (kd_ B) (fg_ B) (pl_ B) (pw_ B) (jy_ B) (qt_ B) (sn_ B) (he_ ((il_ B) - (pa_ B)) 0 30) (pa_ B) (ho_ B) (dy_ B)) = _
        refine drift_u ?_
        first | rw [if_pos (by assumption), ← aw_eq h1 h2 h3] | rw [if_neg (by assumption), ← tw_eq h1 h2 h3]
        simp_all
      · skip
        refine lv_iconst (v := 1) hx hb dX5_drifts_50 (by decide) ?_
        refine lv_goto (tgt := 71) hx hb dX5_drifts_51 (by decide) ?_
        refine lv_istore (lv' := [(5, .int 1), (4, .int (pa_ B)), (3, .int (fr_ (pl_ B k) (il_ B))), (0, .ref (r 0)), (1, .int (pl_ B k)), (2, .int (b1 z))]) hx hb dX5_drifts_71 hl (by decide) rfl (fun ls hl => ?_)
        refine lv_aload_n hx hb dX5_drifts_73 rfl (lv_at hl 3 rfl) ?_
        refine lv_iload hx hb dX5_drifts_74 (lv_at hl 0 rfl) ?_
        refine lv_if_eq (tgt := 89) hx hb dX5_drifts_76 (by decide) (fun q => absurd q (by decide)) (fun _ => ?_)
        refine lv_aload_n hx hb dX5_drifts_79 rfl (lv_at hl 3 rfl) ?_
        refine va_get (ci := 5) (C := RX5) (T := TX5) (N := 33) hx hb hts hinX5 hown hK.1 hP 0 rfl rfl 8 (by decide) (hts _ (List.mem_of_getElem? (i := 1) rfl)) (fun _ h9 => h9) rfl dX5_drifts_80 ?_
        refine lv_iload hx hb dX5_drifts_83 (lv_at hl 1 rfl) ?_
        refine lv_iadd hx hb dX5_drifts_85 ?_
        refine lv_goto (tgt := 96) hx hb dX5_drifts_86 (by decide) ?_
        refine lv_iconst (v := 0) hx hb dX5_drifts_96 (by decide) ?_
        refine lv_bipush (v := 30) hx hb dX5_drifts_97 (by decide) ?_
        refine kSiS hx hb hml hown hts hK hP gX5_drifts_X5_held okX5_held (qX5_held l D cI cB ((il_ B) + (pa_ B)) 0 30 ) [] rfl (by decide) hl.1 rfl rfl (by decide) dX5_drifts_99 (by decide) (fun r_42 hr_43 => ?_)
        replace hr_43 : r_42 = he_ ((il_ B) + (pa_ B)) 0 30 := hr_43
        subst hr_43
        refine va_put (ci := 5) (ty := .int) (C := RX5) (T := TX5) (N := 33) hx hb hts hinX5 tyX5 tyX5_ok nmX5 hown hK.1 hP hD hS 0 rfl rfl 8 (by decide) (hts _ (List.mem_of_getElem? (i := 1) rfl)) (fun _ h9 => h9) rfl (by decide +kernel) (rfl) (rfl) (Nat.le_of_ble_eq_true rfl) dX5_drifts_102 (fun H locs hP hD hS => ?_)
        replace hP : va_P D vwCl (mW cI r (mkB (kd_ B) (fg_ B) (pl_ B) (pw_ B) (jy_ B) (qt_ B) (sn_ B) (he_ ((il_ B) + (pa_ B)) 0 30) (pa_ B) (ho_ B) (dy_ B)) M) H := hP
        replace hD : va_D A (mW cI r (mkB (kd_ B) (fg_ B) (pl_ B) (pw_ B) (jy_ B) (qt_ B) (sn_ B) (he_ ((il_ B) + (pa_ B)) 0 30) (pa_ B) (ho_ B) (dy_ B)) M) := hD
        refine rMv hx hb hr hlk hS (mkB (kd_ B) (fg_ B) (pl_ B) (pw_ B) (jy_ B) (qt_ B) (sn_ B) (he_ ((il_ B) + (pa_ B)) 0 30) (pa_ B) (ho_ B) (dy_ B)) hP ?_ dX5_drifts_105
        show (mkB (kd_ B) (fg_ B) (pl_ B) (pw_ B) (jy_ B) (qt_ B) (sn_ B) (he_ ((il_ B) + (pa_ B)) 0 30) (pa_ B) (ho_ B) (dy_ B)) = _
        refine drift_u ?_
        first | rw [if_pos (by assumption), ← aw_eq h1 h2 h3] | rw [if_neg (by assumption), ← tw_eq h1 h2 h3]
        simp_all
