theorem okX3_keep : jok yX3_keep wsX3_keep cX3_keep 2 none 1 := ⟨⟨_, rfl⟩, by decide +kernel, by decide +kernel⟩
set_option maxHeartbeats 1000000 in
set_option maxRecDepth 100000 in
theorem qX3_keep (l : Launch) (D : va_G) (cI cB : ClassId) (g : Nat → Nat) (la : Nat) (ct : Nat) (j : Nat) (B : BayT) (P : BayT) (hla : la < 8) (hj : j = (la + 1) % 8) (hct : ct ≤ 8) : jMv D cI cB l yX3_keep wsX3_keep 2 [.ref (g 26), .ref (g 4)] (pW cB g la ct ++ bW cI g 4 B ++ bW cI g (28 + 6 * j) P) (S := Unit) (fun u => True) (fun u => pW cB g j (mc8 ct) ++ bW cI g 4 B ++ bW cI g (28 + 6 * j) B) := by
  refine jMv.of (cc := cX3_keep) (maxL := 2) (ret := none) okX3_keep (Nat.le_of_ble_eq_true rfl) ?_
  intro p e s m below meth c ls A hx hb hr hts hown hlk hml hP hK hD hA hS hl
  replace hown : s.vm.findClass RX3 = some m.cls := hown
  replace hl : lv_has ls 2 [(0, .ref (g 26)), (1, .ref (g 4))] := hl
  have hinX3 : ∀ w ∈ wsX30, w ∈ wsX3_keep := by decide +kernel
  refine lv_aload_n hx hb dX3_keep_0 rfl (lv_at hl 0 rfl) ?_
  refine lv_aload_n hx hb dX3_keep_1 rfl (lv_at hl 0 rfl) ?_
  refine va_get (ci := 3) (C := RX3) (T := TX3) (N := 3) hx hb hts hinX3 hown hK.1 hP 0 rfl rfl 1 (by decide) (hts _ (List.mem_of_getElem? (i := 1) rfl)) (fun _ h9 => h9) rfl dX3_keep_2 ?_
  refine lv_iconst (v := 1) hx hb dX3_keep_5 (by decide) ?_
  refine lv_iadd hx hb dX3_keep_6 ?_
  refine lv_bipush (v := 8) hx hb dX3_keep_7 (by decide) ?_
  refine lv_irem hx hb dX3_keep_9 (by decide) ?_
  refine sti (x := ((nI la) + 1) - ((nI la) + 1) / 8 * 8) (y := nI j) (by rw [hj]; exact pk8 hla) ?_
  refine va_put (ci := 3) (ty := .int) (C := RX3) (T := TX3) (N := 3) hx hb hts hinX3 tyX3 tyX3_ok nmX3 hown hK.1 hP hD hS 0 rfl rfl 1 (by decide) (hts _ (List.mem_of_getElem? (i := 1) rfl)) (fun _ h9 => h9) rfl (by decide +kernel) (rfl) (rfl) (Nat.le_of_ble_eq_true rfl) dX3_keep_10 (fun H locs hP hD hS => ?_)
  replace hP : va_P D vwCl (pW cB g j ct ++ bW cI g 4 B ++ bW cI g (28 + 6 * j) P) H := hP
  replace hD : va_D A (pW cB g j ct ++ bW cI g 4 B ++ bW cI g (28 + 6 * j) P) := hD
  refine lv_aload_n hx hb dX3_keep_13 rfl (lv_at hl 0 rfl) ?_
  refine va_get (ci := 3) (C := RX3) (T := TX3) (N := 3) hx hb hts hinX3 hown hK.1 hP 0 rfl rfl 0 (by decide) (hts _ (List.mem_of_getElem? (i := 2) rfl)) (fun _ h9 => h9) rfl dX3_keep_14 ?_
  refine lv_aload_n hx hb dX3_keep_17 rfl (lv_at hl 0 rfl) ?_
  refine va_get (ci := 3) (C := RX3) (T := TX3) (N := 3) hx hb hts hinX3 hown hK.1 hP 0 rfl rfl 1 (by decide) (hts _ (List.mem_of_getElem? (i := 1) rfl)) (fun _ h9 => h9) rfl dX3_keep_18 ?_
  refine jaldq hx hb hK.1 hP 1 1 j rfl rfl rfl (by omega) (Nat.le_of_ble_eq_true rfl) dX3_keep_21 ?_
  refine lv_aload_n hx hb dX3_keep_22 rfl (lv_at hl 1 rfl) ?_
  refine kMvN hx hb hml hown hts hK hP hD hA hS gX3_keep_X0_become_n20 (hK.2 _ (List.mem_of_getElem? (i := 62) rfl)) (hts _ (List.mem_of_getElem? (i := 9) rfl)) (hts _ (List.mem_of_getElem? (i := 8) rfl)) (hts _ (List.mem_of_getElem? (i := 10) rfl)) okX0_become (qX0_become l D cI cB g (28 + 6 * j) 4 P B ) [8, 9, 10, 11, 12, 13, 2, 3, 4, 5, 6, 7] rfl (by decide) (fun _ => rfl) rfl rfl rfl (by decide) hl.1 rfl rfl (Nat.le_of_ble_eq_true rfl) dX3_keep_23 (by decide) (fun u_2 H locs hw_3 hP hD hS => ?_)
  replace hw_3 : u_2 = B := hw_3
  subst u_2
  replace hP : va_P D vwCl (pW cB g j ct ++ bW cI g 4 B ++ bW cI g (28 + 6 * j) B) H := (va_P.m [false, false, true, true, true, true, true, true] [] (va_P.m [false, false, false, false, false, false, false, false, true, true, true, true, true, true] [2, 3, 4, 5, 6, 7] hP))
  replace hD : va_D A (pW cB g j ct ++ bW cI g 4 B ++ bW cI g (28 + 6 * j) B) := (va_D.m [false, false, true, true, true, true, true, true] [] (va_D.m [false, false, false, false, false, false, false, false, true, true, true, true, true, true] [2, 3, 4, 5, 6, 7] hD))
  refine lv_aload_n hx hb dX3_keep_26 rfl (lv_at hl 0 rfl) ?_
  refine lv_bipush (v := 8) hx hb dX3_keep_27 (by decide) ?_
  refine lv_aload_n hx hb dX3_keep_29 rfl (lv_at hl 0 rfl) ?_
  refine va_get (ci := 3) (C := RX3) (T := TX3) (N := 3) hx hb hts hinX3 hown hK.1 hP 0 rfl rfl 2 (by decide) (hts _ (List.mem_of_getElem? (i := 3) rfl)) (fun _ h9 => h9) rfl dX3_keep_30 ?_
  refine lv_iconst (v := 1) hx hb dX3_keep_33 (by decide) ?_
  refine lv_iadd hx hb dX3_keep_34 ?_
  refine va_mmin hx hb (hml.trans hl.1.symm) hown (hts _ (List.mem_of_getElem? (i := 4) rfl)) (hts _ (List.mem_of_getElem? (i := 5) rfl)) (hts _ (List.mem_of_getElem? (i := 6) rfl)) (hts _ (List.mem_of_getElem? (i := 7) rfl)) (by decide) (Nat.le_of_ble_eq_true rfl) (by decide) (by decide) dX3_keep_35 ?_
  refine sti (x := if ((nI ct) + 1) < 8 then ((nI ct) + 1) else 8) (y := nI (mc8 ct)) (pm8 hct) ?_
  refine va_put (ci := 3) (ty := .int) (C := RX3) (T := TX3) (N := 3) hx hb hts hinX3 tyX3 tyX3_ok nmX3 hown hK.1 hP hD hS 0 rfl rfl 2 (by decide) (hts _ (List.mem_of_getElem? (i := 3) rfl)) (fun _ h9 => h9) rfl (by decide +kernel) (rfl) (rfl) (Nat.le_of_ble_eq_true rfl) dX3_keep_38 (fun H locs hP hD hS => ?_)
  replace hP : va_P D vwCl (pW cB g j (mc8 ct) ++ bW cI g 4 B ++ bW cI g (28 + 6 * j) B) H := hP
  replace hD : va_D A (pW cB g j (mc8 ct) ++ bW cI g 4 B ++ bW cI g (28 + 6 * j) B) := hD
  refine rMv hx hb hr hlk hS () hP ?_ dX3_keep_41
  trivial

theorem okX3_takeBack : jok yX3_takeBack wsX3_takeBack cX3_takeBack 2 none 1 := ⟨⟨_, rfl⟩, by decide +kernel, by decide +kernel⟩
set_option maxHeartbeats 1000000 in
set_option maxRecDepth 100000 in
theorem qX3_takeBack (l : Launch) (D : va_G) (cI cB : ClassId) (g : Nat → Nat) (la : Nat) (ct : Nat) (B : BayT) (P : BayT) (hla : la < 8) (hct : ct ≤ 8 ∧ 0 < ct) : jMv D cI cB l yX3_takeBack wsX3_takeBack 2 [.ref (g 26), .ref (g 4)] (pW cB g la ct ++ bW cI g 4 B ++ bW cI g (28 + 6 * la) P) (S := Unit) (fun u => True) (fun u => pW cB g ((la + 7) % 8) (ct - 1) ++ bW cI g 4 P ++ bW cI g (28 + 6 * la) P) := by
  refine jMv.of (cc := cX3_takeBack) (maxL := 2) (ret := none) okX3_takeBack (Nat.le_of_ble_eq_true rfl) ?_
  intro p e s m below meth c ls A hx hb hr hts hown hlk hml hP hK hD hA hS hl
  replace hown : s.vm.findClass RX3 = some m.cls := hown
  replace hl : lv_has ls 2 [(0, .ref (g 26)), (1, .ref (g 4))] := hl
  have hinX3 : ∀ w ∈ wsX30, w ∈ wsX3_takeBack := by decide +kernel
  refine lv_aload_n hx hb dX3_takeBack_0 rfl (lv_at hl 1 rfl) ?_
  refine lv_aload_n hx hb dX3_takeBack_1 rfl (lv_at hl 0 rfl) ?_
  refine va_get (ci := 3) (C := RX3) (T := TX3) (N := 3) hx hb hts hinX3 hown hK.1 hP 0 rfl rfl 0 (by decide) (hts _ (List.mem_of_getElem? (i := 1) rfl)) (fun _ h9 => h9) rfl dX3_takeBack_2 ?_
  refine lv_aload_n hx hb dX3_takeBack_5 rfl (lv_at hl 0 rfl) ?_
  refine va_get (ci := 3) (C := RX3) (T := TX3) (N := 3) hx hb hts hinX3 hown hK.1 hP 0 rfl rfl 1 (by decide) (hts _ (List.mem_of_getElem? (i := 2) rfl)) (fun _ h9 => h9) rfl dX3_takeBack_6 ?_
  refine jaldq hx hb hK.1 hP 1 1 la rfl rfl rfl (by omega) (Nat.le_of_ble_eq_true rfl) dX3_takeBack_9 ?_
  refine kMvN hx hb hml hown hts hK hP hD hA hS gX3_takeBack_X0_become_n20 (hK.2 _ (List.mem_of_getElem? (i := 62) rfl)) (hts _ (List.mem_of_getElem? (i := 5) rfl)) (hts _ (List.mem_of_getElem? (i := 4) rfl)) (hts _ (List.mem_of_getElem? (i := 6) rfl)) okX0_become (qX0_become l D cI cB g 4 (28 + 6 * la) B P ) [2, 3, 4, 5, 6, 7, 8, 9, 10, 11, 12, 13] rfl (by decide) (fun _ => rfl) rfl rfl rfl (by decide) hl.1 rfl rfl (Nat.le_of_ble_eq_true rfl) dX3_takeBack_10 (by decide) (fun u_2 H locs hw_3 hP hD hS => ?_)
  replace hw_3 : u_2 = P := hw_3
  subst u_2
  replace hP : va_P D vwCl (pW cB g la ct ++ bW cI g 4 P ++ bW cI g (28 + 6 * la) P) H := (va_P.m [false, false, true, true, true, true, true, true, true, true, true, true, true, true] [] hP)
  replace hD : va_D A (pW cB g la ct ++ bW cI g 4 P ++ bW cI g (28 + 6 * la) P) := (va_D.m [false, false, true, true, true, true, true, true, true, true, true, true, true, true] [] hD)
  refine lv_aload_n hx hb dX3_takeBack_13 rfl (lv_at hl 0 rfl) ?_
  refine lv_aload_n hx hb dX3_takeBack_14 rfl (lv_at hl 0 rfl) ?_
  refine va_get (ci := 3) (C := RX3) (T := TX3) (N := 3) hx hb hts hinX3 hown hK.1 hP 0 rfl rfl 1 (by decide) (hts _ (List.mem_of_getElem? (i := 2) rfl)) (fun _ h9 => h9) rfl dX3_takeBack_15 ?_
  refine lv_bipush (v := 8) hx hb dX3_takeBack_18 (by decide) ?_
  refine lv_iadd hx hb dX3_takeBack_20 ?_
  refine lv_iconst (v := 1) hx hb dX3_takeBack_21 (by decide) ?_
  refine lv_isub hx hb dX3_takeBack_22 ?_
  refine lv_bipush (v := 8) hx hb dX3_takeBack_23 (by decide) ?_
  refine lv_irem hx hb dX3_takeBack_25 (by decide) ?_
  refine sti (x := (((nI la) + 8) - 1) - (((nI la) + 8) - 1) / 8 * 8) (y := nI ((la + 7) % 8)) (pk7 hla) ?_
  refine va_put (ci := 3) (ty := .int) (C := RX3) (T := TX3) (N := 3) hx hb hts hinX3 tyX3 tyX3_ok nmX3 hown hK.1 hP hD hS 0 rfl rfl 1 (by decide) (hts _ (List.mem_of_getElem? (i := 2) rfl)) (fun _ h9 => h9) rfl (by decide +kernel) (rfl) (rfl) (Nat.le_of_ble_eq_true rfl) dX3_takeBack_26 (fun H locs hP hD hS => ?_)
  replace hP : va_P D vwCl (pW cB g ((la + 7) % 8) ct ++ bW cI g 4 P ++ bW cI g (28 + 6 * la) P) H := hP
  replace hD : va_D A (pW cB g ((la + 7) % 8) ct ++ bW cI g 4 P ++ bW cI g (28 + 6 * la) P) := hD
  refine lv_aload_n hx hb dX3_takeBack_29 rfl (lv_at hl 0 rfl) ?_
  refine lv_dup hx hb dX3_takeBack_30 rfl ?_
  refine va_get (ci := 3) (C := RX3) (T := TX3) (N := 3) hx hb hts hinX3 hown hK.1 hP 0 rfl rfl 2 (by decide) (hts _ (List.mem_of_getElem? (i := 3) rfl)) (fun _ h9 => h9) rfl dX3_takeBack_31 ?_
  refine lv_iconst (v := 1) hx hb dX3_takeBack_34 (by decide) ?_
  refine lv_isub hx hb dX3_takeBack_35 ?_
  refine sti (x := (nI ct) - 1) (y := nI (ct - 1)) (pd1 hct.2) ?_
  refine va_put (ci := 3) (ty := .int) (C := RX3) (T := TX3) (N := 3) hx hb hts hinX3 tyX3 tyX3_ok nmX3 hown hK.1 hP hD hS 0 rfl rfl 2 (by decide) (hts _ (List.mem_of_getElem? (i := 3) rfl)) (fun _ h9 => h9) rfl (by decide +kernel) (rfl) (rfl) (Nat.le_of_ble_eq_true rfl) dX3_takeBack_36 (fun H locs hP hD hS => ?_)
  replace hP : va_P D vwCl (pW cB g ((la + 7) % 8) (ct - 1) ++ bW cI g 4 P ++ bW cI g (28 + 6 * la) P) H := hP
  replace hD : va_D A (pW cB g ((la + 7) % 8) (ct - 1) ++ bW cI g 4 P ++ bW cI g (28 + 6 * la) P) := hD
  refine rMv hx hb hr hlk hS () hP ?_ dX3_takeBack_39
  trivial

theorem okX1_isFull : jok yX1_isFull wsX1_isFull cX1_isFull 1 (some .boolean) 0 := ⟨⟨_, rfl⟩, by decide +kernel, by decide +kernel⟩
set_option maxHeartbeats 1000000 in
set_option maxRecDepth 100000 in
theorem qX1_isFull (l : Launch) (D : va_G) (cI cB : ClassId) (g : Nat → Nat) (L : Nat → Int32) (ln : Nat) (hln : ln ≤ 96) : jSi D cI cB l yX1_isFull wsX1_isFull 0 [.ref (g 18)] (lW cI g L ln) (fun r => r = b1 (96 ≤ ln)) := by
  refine jSi.of (cc := cX1_isFull) (maxL := 1) (ret := (some .boolean)) okX1_isFull (Nat.le_of_ble_eq_true rfl) ?_
  intro p e s m below meth c ls hx hb hr hts hown hlk hml hP hK hl
  replace hown : s.vm.findClass RX1 = some m.cls := hown
  replace hl : lv_has ls 1 [(0, .ref (g 18))] := hl
  have hinX1 : ∀ w ∈ wsX10, w ∈ wsX1_isFull := by decide +kernel
  refine lv_aload_n hx hb dX1_isFull_0 rfl (lv_at hl 0 rfl) ?_
  refine va_get (ci := 1) (C := RX1) (T := TX1) (N := 2) hx hb hts hinX1 hown hK.1 hP 0 rfl rfl 1 (by decide) (hts _ (List.mem_of_getElem? (i := 1) rfl)) (fun _ h9 => h9) rfl dX1_isFull_1 ?_
  refine lv_bipush (v := 96) hx hb dX1_isFull_4 (by decide) ?_
  refine lv_icmp_lt (tgt := 13) hx hb dX1_isFull_6 (by decide) (fun c_6 => ?_) (fun c_6 => ?_)
  · replace c_6 : nI ln < nI 96 := c_6
    rw [jlt (by omega) (by omega)] at c_6
    refine lv_iconst (v := 0) hx hb dX1_isFull_13 (by decide) ?_
    refine rSz hx hb hr hlk (Or.inl rfl) ?_ dX1_isFull_14
    show 0 = _
    first | exact (b1_t (by omega)).symm | exact (b1_f (by omega)).symm
  · replace c_6 : ¬ nI ln < nI 96 := c_6
    rw [jlt (by omega) (by omega)] at c_6
    refine lv_iconst (v := 1) hx hb dX1_isFull_9 (by decide) ?_
    refine lv_goto (tgt := 14) hx hb dX1_isFull_10 (by decide) ?_
    refine rSz hx hb hr hlk (Or.inr rfl) ?_ dX1_isFull_14
    show 1 = _
    first | exact (b1_t (by omega)).symm | exact (b1_f (by omega)).symm

theorem okX1_write : jok yX1_write wsX1_write cX1_write 2 (some .int) 1 := ⟨⟨_, rfl⟩, by decide +kernel, by decide +kernel⟩
set_option maxHeartbeats 1000000 in
set_option maxRecDepth 100000 in
theorem qX1_write (l : Launch) (D : va_G) (cI cB : ClassId) (g : Nat → Nat) (L : Nat → Int32) (ln : Nat) (v : Int32) (hln : ln ≤ 96) (hf : ln < 96) : jMi D cI cB l yX1_write wsX1_write 1 [.ref (g 18), .int v] (lW cI g L ln) (S := Unit) (fun r u => r = nI (ln + 1)) (fun u => lW cI g (upd L ln v) (ln + 1)) := by
  refine jMi.of (cc := cX1_write) (maxL := 2) (ret := (some .int)) okX1_write (Nat.le_of_ble_eq_true rfl) ?_
  intro p e s m below meth c ls A hx hb hr hts hown hlk hml hP hK hD hA hS hl
  replace hown : s.vm.findClass RX1 = some m.cls := hown
  replace hl : lv_has ls 2 [(0, .ref (g 18)), (1, .int v)] := hl
  have hinX1 : ∀ w ∈ wsX10, w ∈ wsX1_write := by decide +kernel
  refine lv_aload_n hx hb dX1_write_0 rfl (lv_at hl 0 rfl) ?_
  refine kSiV hx hb hml hown hts hK hP gX1_write_X1_isFull okX1_isFull (qX1_isFull l D cI cB g L ln (by omega)) [0, 1] rfl rfl rfl rfl (by decide) hl.1 rfl rfl (Nat.le_of_ble_eq_true rfl) dX1_write_1 (by decide) (fun r_1 hr_2 => ?_)
  replace hr_2 : r_1 = b1 (96 ≤ ln) := hr_2
  subst r_1
  refine lv_if_ne (tgt := 27) hx hb dX1_write_4 (by decide) (fun c_4 => ?_) (fun c_4 => ?_)
  · replace c_4 := b1_n c_4
    exact absurd c_4 (by omega)
  · replace c_4 := b1_z c_4
    refine lv_aload_n hx hb dX1_write_7 rfl (lv_at hl 0 rfl) ?_
    refine va_get (ci := 1) (C := RX1) (T := TX1) (N := 2) hx hb hts hinX1 hown hK.1 hP 0 rfl rfl 0 (by decide) (hts _ (List.mem_of_getElem? (i := 1) rfl)) (fun _ h9 => h9) rfl dX1_write_8 ?_
    refine lv_aload_n hx hb dX1_write_11 rfl (lv_at hl 0 rfl) ?_
    refine va_get (ci := 1) (C := RX1) (T := TX1) (N := 2) hx hb hts hinX1 hown hK.1 hP 0 rfl rfl 1 (by decide) (hts _ (List.mem_of_getElem? (i := 2) rfl)) (fun _ h9 => h9) rfl dX1_write_12 ?_
    refine lv_iload_n hx hb dX1_write_15 rfl (lv_at hl 1 rfl) ?_
    refine jast hx hb hK.1 hP hD hS 1 0 ln rfl rfl rfl (by omega) (Nat.le_of_ble_eq_true rfl) dX1_write_16 (fun f_3 ef_3 H locs hP hD hS => ?_)
    replace ef_3 : f_3 = upd L ln v := ef_3
    replace hP : va_P D vwCl (lW cI g f_3 ln) H := hP
    replace hD : va_D A (lW cI g f_3 ln) := hD
    refine lv_aload_n hx hb dX1_write_17 rfl (lv_at hl 0 rfl) ?_
    refine lv_dup hx hb dX1_write_18 rfl ?_
    refine va_get (ci := 1) (C := RX1) (T := TX1) (N := 2) hx hb hts hinX1 hown hK.1 hP 0 rfl rfl 1 (by decide) (hts _ (List.mem_of_getElem? (i := 2) rfl)) (fun _ h9 => h9) rfl dX1_write_19 ?_
    refine lv_iconst (v := 1) hx hb dX1_write_22 (by decide) ?_
    refine lv_iadd hx hb dX1_write_23 ?_
    refine sti (x := (nI ln) + 1) (y := nI (ln + 1)) (nI_1 _) ?_
    refine va_put (ci := 1) (ty := .int) (C := RX1) (T := TX1) (N := 2) hx hb hts hinX1 tyX1 tyX1_ok nmX1 hown hK.1 hP hD hS 0 rfl rfl 1 (by decide) (hts _ (List.mem_of_getElem? (i := 2) rfl)) (fun _ h9 => h9) rfl (by decide +kernel) (rfl) (rfl) (Nat.le_of_ble_eq_true rfl) dX1_write_24 (fun H locs hP hD hS => ?_)
    replace hP : va_P D vwCl (lW cI g f_3 (ln + 1)) H := hP
    replace hD : va_D A (lW cI g f_3 (ln + 1)) := hD
    refine lv_aload_n hx hb dX1_write_27 rfl (lv_at hl 0 rfl) ?_
    refine va_get (ci := 1) (C := RX1) (T := TX1) (N := 2) hx hb hts hinX1 hown hK.1 hP 0 rfl rfl 1 (by decide) (hts _ (List.mem_of_getElem? (i := 2) rfl)) (fun _ h9 => h9) rfl dX1_write_28 ?_
    (try rw [ef_3] at hP); (try rw [ef_3] at hD); (try rw [ef_3] at hl); (try rw [ef_3] at c_4); (try rw [ef_3])
    refine rMi hx hb hr hlk hS () hP ?_ dX1_write_31
    rfl

theorem okX1_letterAt : jok yX1_letterAt wsX1_letterAt cX1_letterAt 2 (some .int) 1 := ⟨⟨_, rfl⟩, by decide +kernel, by decide +kernel⟩
set_option maxHeartbeats 1000000 in
set_option maxRecDepth 100000 in
theorem qX1_letterAt (l : Launch) (D : va_G) (cI cB : ClassId) (g : Nat → Nat) (L : Nat → Int32) (ln : Nat) (i : Nat) (hln : ln ≤ 96) (hi3 : i ≤ 300) : jSi D cI cB l yX1_letterAt wsX1_letterAt 0 [.ref (g 18), .int (nI i)] (lW cI g L ln) (fun r => r = la_ L ln i) := by
  refine jSi.of (cc := cX1_letterAt) (maxL := 2) (ret := (some .int)) okX1_letterAt (Nat.le_of_ble_eq_true rfl) ?_
  intro p e s m below meth c ls hx hb hr hts hown hlk hml hP hK hl
  replace hown : s.vm.findClass RX1 = some m.cls := hown
  replace hl : lv_has ls 2 [(0, .ref (g 18)), (1, .int (nI i))] := hl
  have hinX1 : ∀ w ∈ wsX10, w ∈ wsX1_letterAt := by decide +kernel
  refine lv_iload_n hx hb dX1_letterAt_0 rfl (lv_at hl 1 rfl) ?_
  refine lv_if_lt (tgt := 21) hx hb dX1_letterAt_1 (by decide) (fun q => absurd q (nI_pos (by omega))) (fun _ => ?_)
  refine lv_iload_n hx hb dX1_letterAt_4 rfl (lv_at hl 1 rfl) ?_
  refine lv_aload_n hx hb dX1_letterAt_5 rfl (lv_at hl 0 rfl) ?_
  refine va_get (ci := 1) (C := RX1) (T := TX1) (N := 2) hx hb hts hinX1 hown hK.1 hP 0 rfl rfl 1 (by decide) (hts _ (List.mem_of_getElem? (i := 1) rfl)) (fun _ h9 => h9) rfl dX1_letterAt_6 ?_
  refine lv_icmp_ge (tgt := 21) hx hb dX1_letterAt_9 (by decide) (fun c_9 => ?_) (fun c_9 => ?_)
  · replace c_9 : nI ln ≤ nI i := c_9
    rw [jle (by omega) (by omega)] at c_9
    refine lv_iconst (v := (-1)) hx hb dX1_letterAt_21 (by decide) ?_
    refine rSi hx hb hr hlk ?_ dX1_letterAt_22
    show (-1) = _
    first | (unfold la_; rw [if_pos (by omega)]; done) | (unfold la_; rw [if_neg (by omega)]; done)
  · replace c_9 : ¬ nI ln ≤ nI i := c_9
    rw [jle (by omega) (by omega)] at c_9
    refine lv_aload_n hx hb dX1_letterAt_12 rfl (lv_at hl 0 rfl) ?_
    refine va_get (ci := 1) (C := RX1) (T := TX1) (N := 2) hx hb hts hinX1 hown hK.1 hP 0 rfl rfl 0 (by decide) (hts _ (List.mem_of_getElem? (i := 2) rfl)) (fun _ h9 => h9) rfl dX1_letterAt_13 ?_
    refine lv_iload_n hx hb dX1_letterAt_16 rfl (lv_at hl 1 rfl) ?_
    refine jald hx hb hK.1 hP 1 0 i rfl rfl rfl (by omega) (Nat.le_of_ble_eq_true rfl) dX1_letterAt_17 ?_
    refine lv_goto (tgt := 22) hx hb dX1_letterAt_18 (by decide) ?_
    refine rSi hx hb hr hlk ?_ dX1_letterAt_22
    show (L i) = _
    first | (unfold la_; rw [if_pos (by omega)]; done) | (unfold la_; rw [if_neg (by omega)]; done)

theorem okX1_digitsBehind : jok yX1_digitsBehind wsX1_digitsBehind cX1_digitsBehind 1 (some .int) 1 := ⟨⟨_, rfl⟩, by decide +kernel, by decide +kernel⟩
set_option maxHeartbeats 1000000 in
set_option maxRecDepth 100000 in
theorem qX1_digitsBehind (l : Launch) (D : va_G) (cI cB : ClassId) (c_9 : Int32)  : jSi D cI cB l yX1_digitsBehind wsX1_digitsBehind 0 [.int c_9] ([] : va_W) (fun r => r = nI (db_ c_9)) := by
  refine jSi.of (cc := cX1_digitsBehind) (maxL := 1) (ret := (some .int)) okX1_digitsBehind (Nat.le_of_ble_eq_true rfl) ?_
  intro p e s m below meth c ls hx hb hr hts hown hlk hml hP hK hl
  replace hown : s.vm.findClass RX1 = some m.cls := hown
  replace hl : lv_has ls 1 [(0, .int c_9)] := hl
  refine lv_iload_n hx hb dX1_digitsBehind_0 rfl (lv_at hl 0 rfl) ?_
  by_cases c_1_104 : c_9 = 104
  · refine lv_tableIn (off := 85) (tgt := 86) hx hb dX1_digitsBehind_1 (by rw [c_1_104]; decide) (by rw [c_1_104]; decide) (by rw [c_1_104]; rfl) (by decide) ?_
    refine lv_iconst (v := 2) hx hb dX1_digitsBehind_86 (by decide) ?_
    refine rSi hx hb hr hlk ?_ dX1_digitsBehind_87
    show 2 = _
    first | (simp only [c_1_115]; rfl) | (simp only [c_1_112]; rfl) | (simp only [c_1_113]; rfl) | (simp only [c_1_105]; rfl) | (simp only [c_1_118]; rfl) | (simp only [c_1_104]; rfl) | (simp only [c_1_106]; rfl) | (simp only [c_1_107]; rfl) | (simp only [c_1_108]; rfl) | (simp only [c_1_109]; rfl) | (simp only [c_1_110]; rfl) | (simp only [c_1_111]; rfl) | (simp only [c_1_114]; rfl) | (simp only [c_1_116]; rfl) | (simp only [c_1_117]; rfl) | (rw [db_o c_1_104 c_1_105 c_1_112 c_1_113 c_1_115 c_1_118]; rfl)
  by_cases c_1_105 : c_9 = 105
  · refine lv_tableIn (off := 81) (tgt := 82) hx hb dX1_digitsBehind_1 (by rw [c_1_105]; decide) (by rw [c_1_105]; decide) (by rw [c_1_105]; rfl) (by decide) ?_
    refine lv_iconst (v := 2) hx hb dX1_digitsBehind_82 (by decide) ?_
    refine rSi hx hb hr hlk ?_ dX1_digitsBehind_83
    show 2 = _
    first | (simp only [c_1_115]; rfl) | (simp only [c_1_112]; rfl) | (simp only [c_1_113]; rfl) | (simp only [c_1_105]; rfl) | (simp only [c_1_118]; rfl) | (simp only [c_1_104]; rfl) | (simp only [c_1_106]; rfl) | (simp only [c_1_107]; rfl) | (simp only [c_1_108]; rfl) | (simp only [c_1_109]; rfl) | (simp only [c_1_110]; rfl) | (simp only [c_1_111]; rfl) | (simp only [c_1_114]; rfl) | (simp only [c_1_116]; rfl) | (simp only [c_1_117]; rfl) | (rw [db_o c_1_104 c_1_105 c_1_112 c_1_113 c_1_115 c_1_118]; rfl)
  by_cases c_1_106 : c_9 = 106
  · refine lv_tableIn (off := 87) (tgt := 88) hx hb dX1_digitsBehind_1 (by rw [c_1_106]; decide) (by rw [c_1_106]; decide) (by rw [c_1_106]; rfl) (by decide) ?_
    refine lv_iconst (v := 0) hx hb dX1_digitsBehind_88 (by decide) ?_
    refine rSi hx hb hr hlk ?_ dX1_digitsBehind_89
    show 0 = _
    first | (simp only [c_1_115]; rfl) | (simp only [c_1_112]; rfl) | (simp only [c_1_113]; rfl) | (simp only [c_1_105]; rfl) | (simp only [c_1_118]; rfl) | (simp only [c_1_104]; rfl) | (simp only [c_1_106]; rfl) | (simp only [c_1_107]; rfl) | (simp only [c_1_108]; rfl) | (simp only [c_1_109]; rfl) | (simp only [c_1_110]; rfl) | (simp only [c_1_111]; rfl) | (simp only [c_1_114]; rfl) | (simp only [c_1_116]; rfl) | (simp only [c_1_117]; rfl) | (rw [db_o c_1_104 c_1_105 c_1_112 c_1_113 c_1_115 c_1_118]; rfl)
  by_cases c_1_107 : c_9 = 107
  · refine lv_tableIn (off := 87) (tgt := 88) hx hb dX1_digitsBehind_1 (by rw [c_1_107]; decide) (by rw [c_1_107]; decide) (by rw [c_1_107]; rfl) (by decide) ?_
    refine lv_iconst (v := 0) hx hb dX1_digitsBehind_88 (by decide) ?_
    refine rSi hx hb hr hlk ?_ dX1_digitsBehind_89
    show 0 = _
    first | (simp only [c_1_115]; rfl) | (simp only [c_1_112]; rfl) | (simp only [c_1_113]; rfl) | (simp only [c_1_105]; rfl) | (simp only [c_1_118]; rfl) | (simp only [c_1_104]; rfl) | (simp only [c_1_106]; rfl) | (simp only [c_1_107]; rfl) | (simp only [c_1_108]; rfl) | (simp only [c_1_109]; rfl) | (simp only [c_1_110]; rfl) | (simp only [c_1_111]; rfl) | (simp only [c_1_114]; rfl) | (simp only [c_1_116]; rfl) | (simp only [c_1_117]; rfl) | (rw [db_o c_1_104 c_1_105 c_1_112 c_1_113 c_1_115 c_1_118]; rfl)
  by_cases c_1_108 : c_9 = 108
  · refine lv_tableIn (off := 87) (tgt := 88) hx hb dX1_digitsBehind_1 (by rw [c_1_108]; decide) (by rw [c_1_108]; decide) (by rw [c_1_108]; rfl) (by decide) ?_
    refine lv_iconst (v := 0) hx hb dX1_digitsBehind_88 (by decide) ?_
    refine rSi hx hb hr hlk ?_ dX1_digitsBehind_89
    show 0 = _
    first | (simp only [c_1_115]; rfl) | (simp only [c_1_112]; rfl) | (simp only [c_1_113]; rfl) | (simp only [c_1_105]; rfl) | (simp only [c_1_118]; rfl) | (simp only [c_1_104]; rfl) | (simp only [c_1_106]; rfl) | (simp only [c_1_107]; rfl) | (simp only [c_1_108]; rfl) | (simp only [c_1_109]; rfl) | (simp only [c_1_110]; rfl) | (simp only [c_1_111]; rfl) | (simp only [c_1_114]; rfl) | (simp only [c_1_116]; rfl) | (simp only [c_1_117]; rfl) | (rw [db_o c_1_104 c_1_105 c_1_112 c_1_113 c_1_115 c_1_118]; rfl)
  by_cases c_1_109 : c_9 = 109
  · refine lv_tableIn (off := 87) (tgt := 88) hx hb dX1_digitsBehind_1 (by rw [c_1_109]; decide) (by rw [c_1_109]; decide) (by rw [c_1_109]; rfl) (by decide) ?_
    refine lv_iconst (v := 0) hx hb dX1_digitsBehind_88 (by decide) ?_
    refine rSi hx hb hr hlk ?_ dX1_digitsBehind_89
    show 0 = _
    first | (simp only [c_1_115]; rfl) | (simp only [c_1_112]; rfl) | (simp only [c_1_113]; rfl) | (simp only [c_1_105]; rfl) | (simp only [c_1_118]; rfl) | (simp only [c_1_104]; rfl) | (simp only [c_1_106]; rfl) | (simp only [c_1_107]; rfl) | (simp only [c_1_108]; rfl) | (simp only [c_1_109]; rfl) | (simp only [c_1_110]; rfl) | (simp only [c_1_111]; rfl) | (simp only [c_1_114]; rfl) | (simp only [c_1_116]; rfl) | (simp only [c_1_117]; rfl) | (rw [db_o c_1_104 c_1_105 c_1_112 c_1_113 c_1_115 c_1_118]; rfl)
  by_cases c_1_110 : c_9 = 110
  · refine lv_tableIn (off := 87) (tgt := 88) hx hb dX1_digitsBehind_1 (by rw [c_1_110]; decide) (by rw [c_1_110]; decide) (by rw [c_1_110]; rfl) (by decide) ?_
    refine lv_iconst (v := 0) hx hb dX1_digitsBehind_88 (by decide) ?_
    refine rSi hx hb hr hlk ?_ dX1_digitsBehind_89
    show 0 = _
    first | (simp only [c_1_115]; rfl) | (simp only [c_1_112]; rfl) | (simp only [c_1_113]; rfl) | (simp only [c_1_105]; rfl) | (simp only [c_1_118]; rfl) | (simp only [c_1_104]; rfl) | (simp only [c_1_106]; rfl) | (simp only [c_1_107]; rfl) | (simp only [c_1_108]; rfl) | (simp only [c_1_109]; rfl) | (simp only [c_1_110]; rfl) | (simp only [c_1_111]; rfl) | (simp only [c_1_114]; rfl) | (simp only [c_1_116]; rfl) | (simp only [c_1_117]; rfl) | (rw [db_o c_1_104 c_1_105 c_1_112 c_1_113 c_1_115 c_1_118]; rfl)
  by_cases c_1_111 : c_9 = 111
  · refine lv_tableIn (off := 87) (tgt := 88) hx hb dX1_digitsBehind_1 (by rw [c_1_111]; decide) (by rw [c_1_111]; decide) (by rw [c_1_111]; rfl) (by decide) ?_
    refine lv_iconst (v := 0) hx hb dX1_digitsBehind_88 (by decide) ?_
    refine rSi hx hb hr hlk ?_ dX1_digitsBehind_89
    show 0 = _
    first | (simp only [c_1_115]; rfl) | (simp only [c_1_112]; rfl) | (simp only [c_1_113]; rfl) | (simp only [c_1_105]; rfl) | (simp only [c_1_118]; rfl) | (simp only [c_1_104]; rfl) | (simp only [c_1_106]; rfl) | (simp only [c_1_107]; rfl) | (simp only [c_1_108]; rfl) | (simp only [c_1_109]; rfl) | (simp only [c_1_110]; rfl) | (simp only [c_1_111]; rfl) | (simp only [c_1_114]; rfl) | (simp only [c_1_116]; rfl) | (simp only [c_1_117]; rfl) | (rw [db_o c_1_104 c_1_105 c_1_112 c_1_113 c_1_115 c_1_118]; rfl)
  by_cases c_1_112 : c_9 = 112
  · refine lv_tableIn (off := 77) (tgt := 78) hx hb dX1_digitsBehind_1 (by rw [c_1_112]; decide) (by rw [c_1_112]; decide) (by rw [c_1_112]; rfl) (by decide) ?_
    refine lv_iconst (v := 3) hx hb dX1_digitsBehind_78 (by decide) ?_
    refine rSi hx hb hr hlk ?_ dX1_digitsBehind_79
    show 3 = _
    first | (simp only [c_1_115]; rfl) | (simp only [c_1_112]; rfl) | (simp only [c_1_113]; rfl) | (simp only [c_1_105]; rfl) | (simp only [c_1_118]; rfl) | (simp only [c_1_104]; rfl) | (simp only [c_1_106]; rfl) | (simp only [c_1_107]; rfl) | (simp only [c_1_108]; rfl) | (simp only [c_1_109]; rfl) | (simp only [c_1_110]; rfl) | (simp only [c_1_111]; rfl) | (simp only [c_1_114]; rfl) | (simp only [c_1_116]; rfl) | (simp only [c_1_117]; rfl) | (rw [db_o c_1_104 c_1_105 c_1_112 c_1_113 c_1_115 c_1_118]; rfl)
  by_cases c_1_113 : c_9 = 113
  · refine lv_tableIn (off := 79) (tgt := 80) hx hb dX1_digitsBehind_1 (by rw [c_1_113]; decide) (by rw [c_1_113]; decide) (by rw [c_1_113]; rfl) (by decide) ?_
    refine lv_iconst (v := 1) hx hb dX1_digitsBehind_80 (by decide) ?_
    refine rSi hx hb hr hlk ?_ dX1_digitsBehind_81
    show 1 = _
    first | (simp only [c_1_115]; rfl) | (simp only [c_1_112]; rfl) | (simp only [c_1_113]; rfl) | (simp only [c_1_105]; rfl) | (simp only [c_1_118]; rfl) | (simp only [c_1_104]; rfl) | (simp only [c_1_106]; rfl) | (simp only [c_1_107]; rfl) | (simp only [c_1_108]; rfl) | (simp only [c_1_109]; rfl) | (simp only [c_1_110]; rfl) | (simp only [c_1_111]; rfl) | (simp only [c_1_114]; rfl) | (simp only [c_1_116]; rfl) | (simp only [c_1_117]; rfl) | (rw [db_o c_1_104 c_1_105 c_1_112 c_1_113 c_1_115 c_1_118]; rfl)
  by_cases c_1_114 : c_9 = 114
  · refine lv_tableIn (off := 87) (tgt := 88) hx hb dX1_digitsBehind_1 (by rw [c_1_114]; decide) (by rw [c_1_114]; decide) (by rw [c_1_114]; rfl) (by decide) ?_
    refine lv_iconst (v := 0) hx hb dX1_digitsBehind_88 (by decide) ?_
    refine rSi hx hb hr hlk ?_ dX1_digitsBehind_89
    show 0 = _
    first | (simp only [c_1_115]; rfl) | (simp only [c_1_112]; rfl) | (simp only [c_1_113]; rfl) | (simp only [c_1_105]; rfl) | (simp only [c_1_118]; rfl) | (simp only [c_1_104]; rfl) | (simp only [c_1_106]; rfl) | (simp only [c_1_107]; rfl) | (simp only [c_1_108]; rfl) | (simp only [c_1_109]; rfl) | (simp only [c_1_110]; rfl) | (simp only [c_1_111]; rfl) | (simp only [c_1_114]; rfl) | (simp only [c_1_116]; rfl) | (simp only [c_1_117]; rfl) | (rw [db_o c_1_104 c_1_105 c_1_112 c_1_113 c_1_115 c_1_118]; rfl)
  by_cases c_1_115 : c_9 = 115
  · refine lv_tableIn (off := 75) (tgt := 76) hx hb dX1_digitsBehind_1 (by rw [c_1_115]; decide) (by rw [c_1_115]; decide) (by rw [c_1_115]; rfl) (by decide) ?_
    refine lv_iconst (v := 4) hx hb dX1_digitsBehind_76 (by decide) ?_
    refine rSi hx hb hr hlk ?_ dX1_digitsBehind_77
    show 4 = _
    first | (simp only [c_1_115]; rfl) | (simp only [c_1_112]; rfl) | (simp only [c_1_113]; rfl) | (simp only [c_1_105]; rfl) | (simp only [c_1_118]; rfl) | (simp only [c_1_104]; rfl) | (simp only [c_1_106]; rfl) | (simp only [c_1_107]; rfl) | (simp only [c_1_108]; rfl) | (simp only [c_1_109]; rfl) | (simp only [c_1_110]; rfl) | (simp only [c_1_111]; rfl) | (simp only [c_1_114]; rfl) | (simp only [c_1_116]; rfl) | (simp only [c_1_117]; rfl) | (rw [db_o c_1_104 c_1_105 c_1_112 c_1_113 c_1_115 c_1_118]; rfl)
  by_cases c_1_116 : c_9 = 116
  · refine lv_tableIn (off := 87) (tgt := 88) hx hb dX1_digitsBehind_1 (by rw [c_1_116]; decide) (by rw [c_1_116]; decide) (by rw [c_1_116]; rfl) (by decide) ?_
    refine lv_iconst (v := 0) hx hb dX1_digitsBehind_88 (by decide) ?_
    refine rSi hx hb hr hlk ?_ dX1_digitsBehind_89
    show 0 = _
    first | (simp only [c_1_115]; rfl) | (simp only [c_1_112]; rfl) | (simp only [c_1_113]; rfl) | (simp only [c_1_105]; rfl) | (simp only [c_1_118]; rfl) | (simp only [c_1_104]; rfl) | (simp only [c_1_106]; rfl) | (simp only [c_1_107]; rfl) | (simp only [c_1_108]; rfl) | (simp only [c_1_109]; rfl) | (simp only [c_1_110]; rfl) | (simp only [c_1_111]; rfl) | (simp only [c_1_114]; rfl) | (simp only [c_1_116]; rfl) | (simp only [c_1_117]; rfl) | (rw [db_o c_1_104 c_1_105 c_1_112 c_1_113 c_1_115 c_1_118]; rfl)
  by_cases c_1_117 : c_9 = 117
  · refine lv_tableIn (off := 87) (tgt := 88) hx hb dX1_digitsBehind_1 (by rw [c_1_117]; decide) (by rw [c_1_117]; decide) (by rw [c_1_117]; rfl) (by decide) ?_
    refine lv_iconst (v := 0) hx hb dX1_digitsBehind_88 (by decide) ?_
    refine rSi hx hb hr hlk ?_ dX1_digitsBehind_89
    show 0 = _
    first | (simp only [c_1_115]; rfl) | (simp only [c_1_112]; rfl) | (simp only [c_1_113]; rfl) | (simp only [c_1_105]; rfl) | (simp only [c_1_118]; rfl) | (simp only [c_1_104]; rfl) | (simp only [c_1_106]; rfl) | (simp only [c_1_107]; rfl) | (simp only [c_1_108]; rfl) | (simp only [c_1_109]; rfl) | (simp only [c_1_110]; rfl) | (simp only [c_1_111]; rfl) | (simp only [c_1_114]; rfl) | (simp only [c_1_116]; rfl) | (simp only [c_1_117]; rfl) | (rw [db_o c_1_104 c_1_105 c_1_112 c_1_113 c_1_115 c_1_118]; rfl)
  by_cases c_1_118 : c_9 = 118
  · refine lv_tableIn (off := 83) (tgt := 84) hx hb dX1_digitsBehind_1 (by rw [c_1_118]; decide) (by rw [c_1_118]; decide) (by rw [c_1_118]; rfl) (by decide) ?_
    refine lv_iconst (v := 1) hx hb dX1_digitsBehind_84 (by decide) ?_
    refine rSi hx hb hr hlk ?_ dX1_digitsBehind_85
    show 1 = _
    first | (simp only [c_1_115]; rfl) | (simp only [c_1_112]; rfl) | (simp only [c_1_113]; rfl) | (simp only [c_1_105]; rfl) | (simp only [c_1_118]; rfl) | (simp only [c_1_104]; rfl) | (simp only [c_1_106]; rfl) | (simp only [c_1_107]; rfl) | (simp only [c_1_108]; rfl) | (simp only [c_1_109]; rfl) | (simp only [c_1_110]; rfl) | (simp only [c_1_111]; rfl) | (simp only [c_1_114]; rfl) | (simp only [c_1_116]; rfl) | (simp only [c_1_117]; rfl) | (rw [db_o c_1_104 c_1_105 c_1_112 c_1_113 c_1_115 c_1_118]; rfl)
  refine lv_tableOut (tgt := 88) hx hb dX1_digitsBehind_1 (by have t0 := lv_neT c_1_104 (a := 104) (by decide); have t1 := lv_neT c_1_105 (a := 105) (by decide); have t2 := lv_neT c_1_106 (a := 106) (by decide); have t3 := lv_neT c_1_107 (a := 107) (by decide); have t4 := lv_neT c_1_108 (a := 108) (by decide); have t5 := lv_neT c_1_109 (a := 109) (by decide); have t6 := lv_neT c_1_110 (a := 110) (by decide); have t7 := lv_neT c_1_111 (a := 111) (by decide); have t8 := lv_neT c_1_112 (a := 112) (by decide); have t9 := lv_neT c_1_113 (a := 113) (by decide); have t10 := lv_neT c_1_114 (a := 114) (by decide); have t11 := lv_neT c_1_115 (a := 115) (by decide); have t12 := lv_neT c_1_116 (a := 116) (by decide); have t13 := lv_neT c_1_117 (a := 117) (by decide); have t14 := lv_neT c_1_118 (a := 118) (by decide); omega) (by decide) ?_
  refine lv_iconst (v := 0) hx hb dX1_digitsBehind_88 (by decide) ?_
  refine rSi hx hb hr hlk ?_ dX1_digitsBehind_89
  show 0 = _
  first | (simp only [c_1_115]; rfl) | (simp only [c_1_112]; rfl) | (simp only [c_1_113]; rfl) | (simp only [c_1_105]; rfl) | (simp only [c_1_118]; rfl) | (simp only [c_1_104]; rfl) | (simp only [c_1_106]; rfl) | (simp only [c_1_107]; rfl) | (simp only [c_1_108]; rfl) | (simp only [c_1_109]; rfl) | (simp only [c_1_110]; rfl) | (simp only [c_1_111]; rfl) | (simp only [c_1_114]; rfl) | (simp only [c_1_116]; rfl) | (simp only [c_1_117]; rfl) | (rw [db_o c_1_104 c_1_105 c_1_112 c_1_113 c_1_115 c_1_118]; rfl)

theorem okX1_lengthAt : jok yX1_lengthAt wsX1_lengthAt cX1_lengthAt 2 (some .int) 1 := ⟨⟨_, rfl⟩, by decide +kernel, by decide +kernel⟩
set_option maxHeartbeats 1000000 in
set_option maxRecDepth 100000 in
theorem qX1_lengthAt (l : Launch) (D : va_G) (cI cB : ClassId) (g : Nat → Nat) (L : Nat → Int32) (ln : Nat) (i : Nat) (hln : ln ≤ 96) (hi3 : i ≤ 300) : jSi D cI cB l yX1_lengthAt wsX1_lengthAt 1 [.ref (g 18), .int (nI i)] (lW cI g L ln) (fun r => r = nI (db_ (la_ L ln i) + 2)) := by
  refine jSi.of (cc := cX1_lengthAt) (maxL := 2) (ret := (some .int)) okX1_lengthAt (Nat.le_of_ble_eq_true rfl) ?_
  intro p e s m below meth c ls hx hb hr hts hown hlk hml hP hK hl
  replace hown : s.vm.findClass RX1 = some m.cls := hown
  replace hl : lv_has ls 2 [(0, .ref (g 18)), (1, .int (nI i))] := hl
  refine lv_aload_n hx hb dX1_lengthAt_0 rfl (lv_at hl 0 rfl) ?_
  refine lv_iload_n hx hb dX1_lengthAt_1 rfl (lv_at hl 1 rfl) ?_
  refine kSiV hx hb hml hown hts hK hP gX1_lengthAt_X1_letterAt okX1_letterAt (qX1_letterAt l D cI cB g L ln i (by omega) (by omega)) [0, 1] rfl rfl rfl rfl (by decide) hl.1 rfl rfl (Nat.le_of_ble_eq_true rfl) dX1_lengthAt_2 (by decide) (fun r_1 hr_2 => ?_)
  replace hr_2 : r_1 = la_ L ln i := hr_2
  subst r_1
  refine kSiS hx hb hml hown hts hK hP gX1_lengthAt_X1_digitsBehind okX1_digitsBehind (qX1_digitsBehind l D cI cB (la_ L ln i) ) [] rfl (by decide) hl.1 rfl rfl (Nat.le_of_ble_eq_true rfl) dX1_lengthAt_5 (by decide) (fun r_3 hr_4 => ?_)
  replace hr_4 : r_3 = nI (db_ (la_ L ln i)) := hr_4
  subst r_3
  refine lv_iconst (v := 2) hx hb dX1_lengthAt_8 (by decide) ?_
  refine lv_iadd hx hb dX1_lengthAt_9 ?_
  refine rSi hx hb hr hlk ?_ dX1_lengthAt_10
  show ((nI (db_ (la_ L ln i))) + 2) = _
  exact nI_add _ 2

theorem okX1_fault : jok yX1_fault wsX1_fault cX1_fault 4 (some .int) 0 := ⟨⟨_, rfl⟩, by decide +kernel, by decide +kernel⟩
set_option maxHeartbeats 1000000 in
set_option maxRecDepth 100000 in
theorem qX1_fault (l : Launch) (D : va_G) (cI cB : ClassId) (g : Nat → Nat) (L : Nat → Int32) (ln : Nat) (hln : ln ≤ 96) : jSi D cI cB l yX1_fault wsX1_fault 1 [.ref (g 18)] (lW cI g L ln) (fun r => r = fv_ (fa_ L ln 97 0)) := by
  refine jSi.of (cc := cX1_fault) (maxL := 4) (ret := (some .int)) okX1_fault (Nat.le_of_ble_eq_true rfl) ?_
  intro p e s m below meth c ls hx hb hr hts hown hlk hml hP hK hl
  replace hown : s.vm.findClass RX1 = some m.cls := hown
  replace hl : lv_has ls 4 [(0, .ref (g 18))] := hl
  have hinX1 : ∀ w ∈ wsX10, w ∈ wsX1_fault := by decide +kernel
  refine lv_iconst (v := 0) hx hb dX1_fault_0 (by decide) ?_
  refine lv_istore_n (lv' := [(1, .int 0), (0, .ref (g 18))]) hx hb dX1_fault_1 rfl hl (by decide) rfl (fun ls hl => ?_)
  have lp_2 : ∀ (fu_2 : Nat) (at_ : Nat) (m9 : Nat) (x1_2 : Int32) , (x1_2 = nI at_) → (at_ = 0 ∨ at_ < ln) → (97 ≤ at_ + m9) → (fa_ L ln m9 at_ = fa_ L ln 97 0) → 97 - at_ < fu_2 → ∀ ls : Array Slot, lv_has ls 4 [(1, .int x1_2), (0, .ref (g 18))] → W p l e (jR 1) s m ([.ref (g 18)] : List Value).toArray below meth c s.heap [] 0 0 (MQ below (vp_Si (fun r => r = fv_ (fa_ L ln 97 0))) ([.ref (g 18)] : List Value).toArray s 0 0 (fun _ => False)) (F0 m 2 ls []) := by
    intro fu_2
    induction fu_2 with
    | zero => intro at_ m9 x1_2 hx1_2 hat hm9 hre hfu; exact absurd hfu (Nat.not_lt_zero _)
    | succ fu_2 ih_2 =>
      intro at_ m9 x1_2 hx1_2 hat hm9 hre hfu_2 ls hl
      subst x1_2
      replace hl : lv_has ls 4 [(1, .int (nI at_)), (0, .ref (g 18))] := hl
      have h4 := db_4 (la_ L ln at_)
      refine lv_aload_n hx hb dX1_fault_2 rfl (lv_at hl 1 rfl) ?_
      refine lv_iload_n hx hb dX1_fault_3 rfl (lv_at hl 0 rfl) ?_
      refine kSiV hx hb hml hown hts hK hP gX1_fault_X1_letterAt okX1_letterAt (qX1_letterAt l D cI cB g L ln at_ (by omega) (by omega)) [0, 1] rfl rfl rfl rfl (by decide) hl.1 rfl rfl (Nat.le_of_ble_eq_true rfl) dX1_fault_4 (by decide) (fun r_1 hr_2 => ?_)
      replace hr_2 : r_1 = la_ L ln at_ := hr_2
      subst r_1
      refine kSiS hx hb hml hown hts hK hP gX1_fault_X1_digitsBehind okX1_digitsBehind (qX1_digitsBehind l D cI cB (la_ L ln at_) ) [] rfl (by decide) hl.1 rfl rfl (Nat.le_of_ble_eq_true rfl) dX1_fault_7 (by decide) (fun r_3 hr_4 => ?_)
      replace hr_4 : r_3 = nI (db_ (la_ L ln at_)) := hr_4
      subst r_3
      refine lv_istore_n (lv' := [(2, .int (nI (db_ (la_ L ln at_)))), (1, .int (nI at_)), (0, .ref (g 18))]) hx hb dX1_fault_10 rfl hl (by decide) rfl (fun ls hl => ?_)
      refine lv_iload_n hx hb dX1_fault_11 rfl (lv_at hl 0 rfl) ?_
      refine lv_if_ne (tgt := 21) hx hb dX1_fault_12 (by decide) (fun c_12 => ?_) (fun c_12 => ?_)
      · replace c_12 : ¬ nI (db_ (la_ L ln at_)) = nI 0 := c_12
        rw [jeq (by omega) (by omega)] at c_12
        refine lv_iload_n hx hb dX1_fault_21 rfl (lv_at hl 1 rfl) ?_
        refine lv_iconst (v := 1) hx hb dX1_fault_22 (by decide) ?_
        refine lv_iadd hx hb dX1_fault_23 ?_
        refine lv_istore_n (lv' := [(3, .int ((nI at_) + 1)), (2, .int (nI (db_ (la_ L ln at_)))), (1, .int (nI at_)), (0, .ref (g 18))]) hx hb dX1_fault_24 rfl hl (by decide) rfl (fun ls hl => ?_)
        have lp_25 : ∀ (fu_25 : Nat) (j : Nat) (x3_25 : Int32) , (x3_25 = nI (at_ + 1 + j)) → (j ≤ db_ (la_ L ln at_)) → (dg_ L ln (db_ (la_ L ln at_) - j) (at_ + 1 + j) = dg_ L ln (db_ (la_ L ln at_)) (at_ + 1)) → db_ (la_ L ln at_) - j < fu_25 → ∀ ls : Array Slot, lv_has ls 4 [(3, .int x3_25), (2, .int (nI (db_ (la_ L ln at_)))), (1, .int (nI at_)), (0, .ref (g 18))] → W p l e (jR 1) s m ([.ref (g 18)] : List Value).toArray below meth c s.heap [] 0 0 (MQ below (vp_Si (fun r => r = fv_ (fa_ L ln 97 0))) ([.ref (g 18)] : List Value).toArray s 0 0 (fun _ => False)) (F0 m 25 ls []) := by
          intro fu_25
          induction fu_25 with
          | zero => intro j x3_25 hx3_25 hj hre2 hfu; exact absurd hfu (Nat.not_lt_zero _)
          | succ fu_25 ih_25 =>
            intro j x3_25 hx3_25 hj hre2 hfu_25 ls hl
            subst x3_25
            replace hl : lv_has ls 4 [(3, .int (nI (at_ + 1 + j))), (2, .int (nI (db_ (la_ L ln at_)))), (1, .int (nI at_)), (0, .ref (g 18))] := hl
            refine lv_iload_n hx hb dX1_fault_25 rfl (lv_at hl 0 rfl) ?_
            refine lv_iload_n hx hb dX1_fault_26 rfl (lv_at hl 2 rfl) ?_
            refine lv_iload_n hx hb dX1_fault_27 rfl (lv_at hl 1 rfl) ?_
            refine lv_iadd hx hb dX1_fault_28 ?_
            refine sti (x := (nI at_) + (nI (db_ (la_ L ln at_)))) (y := nI (at_ + db_ (la_ L ln at_))) (nI_add _ _) ?_
            refine lv_icmp_gt (tgt := 64) hx hb dX1_fault_29 (by decide) (fun c_29 => ?_) (fun c_29 => ?_)
            · replace c_29 : nI (at_ + db_ (la_ L ln at_)) < nI (at_ + 1 + j) := c_29
              rw [jlt (by omega) (by omega)] at c_29
              have hdn := dg_z hre2 (by omega)
              refine lv_iload_n hx hb dX1_fault_64 rfl (lv_at hl 2 rfl) ?_
              refine lv_iload_n hx hb dX1_fault_65 rfl (lv_at hl 1 rfl) ?_
              refine lv_iconst (v := 1) hx hb dX1_fault_66 (by decide) ?_
              refine lv_iadd hx hb dX1_fault_67 ?_
              refine lv_iadd hx hb dX1_fault_68 ?_
              refine sti (x := (nI at_) + ((nI (db_ (la_ L ln at_))) + 1)) (y := nI (at_ + (db_ (la_ L ln at_) + 1))) (by rw [nI_1, nI_add]) ?_
              refine lv_istore_n (lv' := [(1, .int (nI (at_ + (db_ (la_ L ln at_) + 1)))), (3, .int (nI (at_ + 1 + j))), (2, .int (nI (db_ (la_ L ln at_)))), (0, .ref (g 18))]) hx hb dX1_fault_69 rfl hl (by decide) rfl (fun ls hl => ?_)
              refine lv_aload_n hx hb dX1_fault_70 rfl (lv_at hl 3 rfl) ?_
              refine lv_iload_n hx hb dX1_fault_71 rfl (lv_at hl 0 rfl) ?_
              refine kSiV hx hb hml hown hts hK hP gX1_fault_X1_letterAt okX1_letterAt (qX1_letterAt l D cI cB g L ln (at_ + (db_ (la_ L ln at_) + 1)) (by omega) (by omega)) [0, 1] rfl rfl rfl rfl (by decide) hl.1 rfl rfl (Nat.le_of_ble_eq_true rfl) dX1_fault_72 (by decide) (fun r_5 hr_6 => ?_)
              replace hr_6 : r_5 = la_ L ln (at_ + (db_ (la_ L ln at_) + 1)) := hr_6
              subst r_5
              refine lv_bipush (v := 59) hx hb dX1_fault_75 (by decide) ?_
              refine lv_icmp_eq (tgt := 86) hx hb dX1_fault_77 (by decide) (fun c_77 => ?_) (fun c_77 => ?_)
              · refine lv_iinc (v := (nI (at_ + (db_ (la_ L ln at_) + 1))) + 1) (lv' := [(1, .int ((nI (at_ + (db_ (la_ L ln at_) + 1))) + 1)), (3, .int (nI (at_ + 1 + j))), (2, .int (nI (db_ (la_ L ln at_)))), (0, .ref (g 18))]) hx hb dX1_fault_86 hl (k := 0) rfl (by first | rfl | decide) (by decide) rfl (fun ls hl => ?_)
                refine lv_iload_n hx hb dX1_fault_89 rfl (lv_at hl 0 rfl) ?_
                refine sti (x := (nI (at_ + (db_ (la_ L ln at_) + 1))) + 1) (y := nI (at_ + (db_ (la_ L ln at_) + 1) + 1)) (nI_1 _) ?_
                refine lv_aload_n hx hb dX1_fault_90 rfl (lv_at hl 3 rfl) ?_
                refine va_get (ci := 1) (C := RX1) (T := TX1) (N := 2) hx hb hts hinX1 hown hK.1 hP 0 rfl rfl 1 (by decide) (hts _ (List.mem_of_getElem? (i := 1) rfl)) (fun _ h9 => h9) rfl dX1_fault_91 ?_
                refine lv_icmp_lt (tgt := 2) hx hb dX1_fault_94 (by decide) (fun c_94 => ?_) (fun c_94 => ?_)
                · replace c_94 : nI (at_ + (db_ (la_ L ln at_) + 1) + 1) < nI ln := c_94
                  rw [jlt (by omega) (by omega)] at c_94
                  exact ih_2 (at_ + (db_ (la_ L ln at_) + 1) + 1) (m9 - 1) ((nI (at_ + (db_ (la_ L ln at_) + 1))) + 1)  (nI_1 _) (Or.inr c_94) (by omega) ((fa_d (by omega) c_12 hdn c_77 c_94).symm.trans hre) (by omega) ls (lv_sub hl [0, 3] rfl)
                · replace c_94 : ¬ nI (at_ + (db_ (la_ L ln at_) + 1) + 1) < nI ln := c_94
                  rw [jlt (by omega) (by omega)] at c_94
                  refine lv_iconst (v := 0) hx hb dX1_fault_97 (by decide) ?_
                  refine rSi hx hb hr hlk ?_ dX1_fault_98
                  show 0 = _
                  rw [← hre, fa_e (by omega) c_12 hdn c_77 (by omega)]; rfl
              · refine lv_sipush (v := (-1000)) hx hb dX1_fault_80 (by decide) ?_
                refine lv_iload_n hx hb dX1_fault_83 rfl (lv_at hl 0 rfl) ?_
                refine lv_isub hx hb dX1_fault_84 ?_
                refine rSi hx hb hr hlk ?_ dX1_fault_85
                show ((-1000) - (nI (at_ + (db_ (la_ L ln at_) + 1)))) = _
                rw [← hre, fa_c (by omega) c_12 hdn c_77]; rfl
            · replace c_29 : ¬ nI (at_ + db_ (la_ L ln at_)) < nI (at_ + 1 + j) := c_29
              rw [jlt (by omega) (by omega)] at c_29
              refine lv_aload_n hx hb dX1_fault_32 rfl (lv_at hl 3 rfl) ?_
              refine lv_iload_n hx hb dX1_fault_33 rfl (lv_at hl 0 rfl) ?_
              refine kSiV hx hb hml hown hts hK hP gX1_fault_X1_letterAt okX1_letterAt (qX1_letterAt l D cI cB g L ln (at_ + 1 + j) (by omega) (by omega)) [0, 1] rfl rfl rfl rfl (by decide) hl.1 rfl rfl (Nat.le_of_ble_eq_true rfl) dX1_fault_34 (by decide) (fun r_7 hr_8 => ?_)
              replace hr_8 : r_7 = la_ L ln (at_ + 1 + j) := hr_8
              subst r_7
              refine lv_bipush (v := 48) hx hb dX1_fault_37 (by decide) ?_
              refine lv_icmp_lt (tgt := 52) hx hb dX1_fault_39 (by decide) (fun c_39 => ?_) (fun c_39 => ?_)
              · have d_39 := Int32.not_le.mpr c_39
                refine lv_sipush (v := (-1000)) hx hb dX1_fault_52 (by decide) ?_
                refine lv_iload_n hx hb dX1_fault_55 rfl (lv_at hl 0 rfl) ?_
                refine lv_isub hx hb dX1_fault_56 ?_
                refine rSi hx hb hr hlk ?_ dX1_fault_57
                show ((-1000) - (nI (at_ + 1 + j))) = _
                rw [← hre, fa_b (q := at_ + 1 + j) (by omega) c_12 (by rw [← hre2, dg_s (by omega), if_neg (fun q => by first | exact absurd c_39 (Int32.not_lt.mpr q.1) | exact absurd q.2 c_49)])]; rfl
              · have d_39 := Int32.not_lt.mp c_39
                refine lv_aload_n hx hb dX1_fault_42 rfl (lv_at hl 3 rfl) ?_
                refine lv_iload_n hx hb dX1_fault_43 rfl (lv_at hl 0 rfl) ?_
                refine kSiV hx hb hml hown hts hK hP gX1_fault_X1_letterAt okX1_letterAt (qX1_letterAt l D cI cB g L ln (at_ + 1 + j) (by omega) (by omega)) [0, 1] rfl rfl rfl rfl (by decide) hl.1 rfl rfl (Nat.le_of_ble_eq_true rfl) dX1_fault_44 (by decide) (fun r_9 hr_10 => ?_)
                replace hr_10 : r_9 = la_ L ln (at_ + 1 + j) := hr_10
                subst r_9
                refine lv_bipush (v := 57) hx hb dX1_fault_47 (by decide) ?_
                refine lv_icmp_le (tgt := 58) hx hb dX1_fault_49 (by decide) (fun c_49 => ?_) (fun c_49 => ?_)
                · have d_49 := Int32.not_lt.mpr c_49
                  refine lv_iinc (v := (nI (at_ + 1 + j)) + 1) (lv' := [(3, .int ((nI (at_ + 1 + j)) + 1)), (2, .int (nI (db_ (la_ L ln at_)))), (1, .int (nI at_)), (0, .ref (g 18))]) hx hb dX1_fault_58 hl (k := 0) rfl (by first | rfl | decide) (by decide) rfl (fun ls hl => ?_)
                  refine lv_goto (tgt := 25) hx hb dX1_fault_61 (by decide) ?_
                  exact ih_25 (j + 1) ((nI (at_ + 1 + j)) + 1)  (nI_1 _) (by omega) (by rw [dg_s (by omega), if_pos ⟨d_39, c_49⟩] at hre2; exact hre2) (by omega) ls (lv_sub hl [0, 1, 2, 3] rfl)
                · have d_49 := Int32.not_le.mp c_49
                  refine lv_sipush (v := (-1000)) hx hb dX1_fault_52 (by decide) ?_
                  refine lv_iload_n hx hb dX1_fault_55 rfl (lv_at hl 0 rfl) ?_
                  refine lv_isub hx hb dX1_fault_56 ?_
                  refine rSi hx hb hr hlk ?_ dX1_fault_57
                  show ((-1000) - (nI (at_ + 1 + j))) = _
                  rw [← hre, fa_b (q := at_ + 1 + j) (by omega) c_12 (by rw [← hre2, dg_s (by omega), if_neg (fun q => by first | exact absurd c_39 (Int32.not_lt.mpr q.1) | exact absurd q.2 c_49)])]; rfl
        exact lp_25 ((db_ (la_ L ln at_)) + 1) 0 ((nI at_) + 1)  (by rw [Nat.add_zero]; exact nI_1 _) (by omega) (rfl) (by omega) ls (lv_sub hl [0, 1, 2, 3] rfl)
      · replace c_12 : nI (db_ (la_ L ln at_)) = nI 0 := c_12
        rw [jeq (by omega) (by omega)] at c_12
        refine lv_sipush (v := (-1000)) hx hb dX1_fault_15 (by decide) ?_
        refine lv_iload_n hx hb dX1_fault_18 rfl (lv_at hl 1 rfl) ?_
        refine lv_isub hx hb dX1_fault_19 ?_
        refine rSi hx hb hr hlk ?_ dX1_fault_20
        show ((-1000) - (nI at_)) = _
        rw [← hre, fa_a (by omega) c_12]; rfl
  exact lp_2 (97 + 1) 0 97 0  (by first | rfl | exact nI_0.symm) (Or.inl rfl) (by omega) (rfl) (by omega) ls (lv_sub hl [0, 1] rfl)

theorem okX1_digitAt : jok yX1_digitAt wsX1_digitAt cX1_digitAt 2 (some .int) 1 := ⟨⟨_, rfl⟩, by decide +kernel, by decide +kernel⟩
set_option maxHeartbeats 1000000 in
set_option maxRecDepth 100000 in
theorem qX1_digitAt (l : Launch) (D : va_G) (cI cB : ClassId) (g : Nat → Nat) (L : Nat → Int32) (ln : Nat) (i : Nat) (hln : ln ≤ 96) (hi3 : i ≤ 300) : jSi D cI cB l yX1_digitAt wsX1_digitAt 1 [.ref (g 18), .int (nI i)] (lW cI g L ln) (fun r => r = dt_ L ln i) := by
  refine jSi.of (cc := cX1_digitAt) (maxL := 2) (ret := (some .int)) okX1_digitAt (Nat.le_of_ble_eq_true rfl) ?_
  intro p e s m below meth c ls hx hb hr hts hown hlk hml hP hK hl
  replace hown : s.vm.findClass RX1 = some m.cls := hown
  replace hl : lv_has ls 2 [(0, .ref (g 18)), (1, .int (nI i))] := hl
  refine lv_aload_n hx hb dX1_digitAt_0 rfl (lv_at hl 0 rfl) ?_
  refine lv_iload_n hx hb dX1_digitAt_1 rfl (lv_at hl 1 rfl) ?_
  refine kSiV hx hb hml hown hts hK hP gX1_digitAt_X1_letterAt okX1_letterAt (qX1_letterAt l D cI cB g L ln i (by omega) (by omega)) [0, 1] rfl rfl rfl rfl (by decide) hl.1 rfl rfl (Nat.le_of_ble_eq_true rfl) dX1_digitAt_2 (by decide) (fun r_1 hr_2 => ?_)
  replace hr_2 : r_1 = la_ L ln i := hr_2
  subst r_1
  refine lv_bipush (v := 48) hx hb dX1_digitAt_5 (by decide) ?_
  refine lv_isub hx hb dX1_digitAt_7 ?_
  refine rSi hx hb hr hlk ?_ dX1_digitAt_8
  show ((la_ L ln i) - 48) = _
  rfl

theorem okX1_numberAt : jok yX1_numberAt wsX1_numberAt cX1_numberAt 2 (some .int) 1 := ⟨⟨_, rfl⟩, by decide +kernel, by decide +kernel⟩
set_option maxHeartbeats 1000000 in
set_option maxRecDepth 100000 in
theorem qX1_numberAt (l : Launch) (D : va_G) (cI cB : ClassId) (g : Nat → Nat) (L : Nat → Int32) (ln : Nat) (i : Nat) (hln : ln ≤ 96) (hi3 : i ≤ 299) : jSi D cI cB l yX1_numberAt wsX1_numberAt 2 [.ref (g 18), .int (nI i)] (lW cI g L ln) (fun r => r = nm_ L ln i) := by
  refine jSi.of (cc := cX1_numberAt) (maxL := 2) (ret := (some .int)) okX1_numberAt (Nat.le_of_ble_eq_true rfl) ?_
  intro p e s m below meth c ls hx hb hr hts hown hlk hml hP hK hl
  replace hown : s.vm.findClass RX1 = some m.cls := hown
  replace hl : lv_has ls 2 [(0, .ref (g 18)), (1, .int (nI i))] := hl
  refine lv_bipush (v := 10) hx hb dX1_numberAt_0 (by decide) ?_
  refine lv_aload_n hx hb dX1_numberAt_2 rfl (lv_at hl 0 rfl) ?_
  refine lv_iload_n hx hb dX1_numberAt_3 rfl (lv_at hl 1 rfl) ?_
  refine kSiV hx hb hml hown hts hK hP gX1_numberAt_X1_digitAt okX1_digitAt (qX1_digitAt l D cI cB g L ln i (by omega) (by omega)) [0, 1] rfl rfl rfl rfl (by decide) hl.1 rfl rfl (Nat.le_of_ble_eq_true rfl) dX1_numberAt_4 (by decide) (fun r_1 hr_2 => ?_)
  replace hr_2 : r_1 = dt_ L ln i := hr_2
  subst r_1
  refine lv_imul hx hb dX1_numberAt_7 ?_
  refine lv_aload_n hx hb dX1_numberAt_8 rfl (lv_at hl 0 rfl) ?_
  refine lv_iload_n hx hb dX1_numberAt_9 rfl (lv_at hl 1 rfl) ?_
  refine lv_iconst (v := 1) hx hb dX1_numberAt_10 (by decide) ?_
  refine lv_iadd hx hb dX1_numberAt_11 ?_
  refine sti (x := (nI i) + 1) (y := nI (i + 1)) (nI_1 _) ?_
  refine kSiV hx hb hml hown hts hK hP gX1_numberAt_X1_digitAt okX1_digitAt (qX1_digitAt l D cI cB g L ln (i + 1) (by omega) (by omega)) [0, 1] rfl rfl rfl rfl (by decide) hl.1 rfl rfl (Nat.le_of_ble_eq_true rfl) dX1_numberAt_12 (by decide) (fun r_3 hr_4 => ?_)
  replace hr_4 : r_3 = dt_ L ln (i + 1) := hr_4
  subst r_3
  refine lv_iadd hx hb dX1_numberAt_15 ?_
  refine rSi hx hb hr hlk ?_ dX1_numberAt_16
  show ((10 * (dt_ L ln i)) + (dt_ L ln (i + 1))) = _
  rfl

theorem okX1_refusalOfStatement : jok yX1_refusalOfStatement wsX1_refusalOfStatement cX1_refusalOfStatement 4 (some .int) 2 := ⟨⟨_, rfl⟩, by decide +kernel, by decide +kernel⟩
set_option maxHeartbeats 1000000 in
set_option maxRecDepth 100000 in
theorem qX1_refusalOfStatement (l : Launch) (D : va_G) (cI cB : ClassId) (g : Nat → Nat) (L : Nat → Int32) (ln : Nat) (T : BayT) (at_ : Nat) (hln : ln ≤ 96) (hT7 : sn_ T ≤ 7) (hat : at_ ≤ 290) : jSi D cI cB l yX1_refusalOfStatement wsX1_refusalOfStatement 3 [.ref (g 18), .int (nI at_), .ref (g 10)] (lW cI g L ln ++ bW cI g 10 T) (fun r => r = rst_ L ln at_ T) := by
  refine jSi.of (cc := cX1_refusalOfStatement) (maxL := 4) (ret := (some .int)) okX1_refusalOfStatement (Nat.le_of_ble_eq_true rfl) ?_
  intro p e s m below meth c ls hx hb hr hts hown hlk hml hP hK hl
  replace hown : s.vm.findClass RX1 = some m.cls := hown
  replace hl : lv_has ls 4 [(0, .ref (g 18)), (1, .int (nI at_)), (2, .ref (g 10))] := hl
  have hinX0 : ∀ w ∈ wsX00, w ∈ wsX1_refusalOfStatement := by decide +kernel
  refine lv_aload_n hx hb dX1_refusalOfStatement_0 rfl (lv_at hl 0 rfl) ?_
  refine lv_iload_n hx hb dX1_refusalOfStatement_1 rfl (lv_at hl 1 rfl) ?_
  refine lv_iconst (v := 1) hx hb dX1_refusalOfStatement_2 (by decide) ?_
  refine lv_iadd hx hb dX1_refusalOfStatement_3 ?_
  refine sti (x := (nI at_) + 1) (y := nI (at_ + 1)) (nI_1 _) ?_
  refine kSiV hx hb hml hown hts hK hP gX1_refusalOfStatement_X1_digitAt okX1_digitAt (qX1_digitAt l D cI cB g L ln (at_ + 1) (by omega) (by omega)) [0, 1] rfl rfl rfl rfl (by decide) hl.1 rfl rfl (Nat.le_of_ble_eq_true rfl) dX1_refusalOfStatement_4 (by decide) (fun r_1 hr_2 => ?_)
  replace hr_2 : r_1 = dt_ L ln (at_ + 1) := hr_2
  subst r_1
  refine lv_istore_n (lv' := [(3, .int (dt_ L ln (at_ + 1))), (0, .ref (g 18)), (1, .int (nI at_)), (2, .ref (g 10))]) hx hb dX1_refusalOfStatement_7 rfl hl (by decide) rfl (fun ls hl => ?_)
  refine lv_aload_n hx hb dX1_refusalOfStatement_8 rfl (lv_at hl 1 rfl) ?_
  refine lv_iload_n hx hb dX1_refusalOfStatement_9 rfl (lv_at hl 2 rfl) ?_
  refine kSiV hx hb hml hown hts hK hP gX1_refusalOfStatement_X1_letterAt okX1_letterAt (qX1_letterAt l D cI cB g L ln at_ (by omega) (by omega)) [0, 1] rfl rfl rfl rfl (by decide) hl.1 rfl rfl (Nat.le_of_ble_eq_true rfl) dX1_refusalOfStatement_10 (by decide) (fun r_3 hr_4 => ?_)
  replace hr_4 : r_3 = la_ L ln at_ := hr_4
  subst r_3
  by_cases c_13_105 : la_ L ln at_ = 105
  · refine lv_tableIn (off := 113) (tgt := 126) hx hb dX1_refusalOfStatement_13 (by rw [c_13_105]; decide) (by rw [c_13_105]; decide) (by rw [c_13_105]; rfl) (by decide) ?_
    refine lv_aload_n hx hb dX1_refusalOfStatement_126 rfl (lv_at hl 3 rfl) ?_
    refine lv_iconst (v := 0) hx hb dX1_refusalOfStatement_127 (by decide) ?_
    refine lv_aload_n hx hb dX1_refusalOfStatement_128 rfl (lv_at hl 1 rfl) ?_
    refine lv_iload_n hx hb dX1_refusalOfStatement_129 rfl (lv_at hl 2 rfl) ?_
    refine lv_iconst (v := 1) hx hb dX1_refusalOfStatement_130 (by decide) ?_
    refine lv_iadd hx hb dX1_refusalOfStatement_131 ?_
    refine sti (x := (nI at_) + 1) (y := nI (at_ + 1)) (nI_1 _) ?_
    refine kSiV hx hb hml hown hts hK hP gX1_refusalOfStatement_X1_numberAt okX1_numberAt (qX1_numberAt l D cI cB g L ln (at_ + 1) (by omega) (by omega)) [0, 1] rfl rfl rfl rfl (by decide) hl.1 rfl rfl (Nat.le_of_ble_eq_true rfl) dX1_refusalOfStatement_132 (by decide) (fun r_5 hr_6 => ?_)
    replace hr_6 : r_5 = nm_ L ln (at_ + 1) := hr_6
    subst r_5
    refine kSiN hx hb hml hown hts hK hP gX1_refusalOfStatement_X0_refusalOfIsle_n52 (hK.2 _ (List.mem_of_getElem? (i := 41) rfl)) (hts _ (List.mem_of_getElem? (i := 17) rfl)) (hts _ (List.mem_of_getElem? (i := 39) rfl)) (hts _ (List.mem_of_getElem? (i := 40) rfl)) okX0_refusalOfIsle (qX0_refusalOfIsle l D cI cB g 10 T 0 (nm_ L ln (at_ + 1)) (by show sn_ T ≤ 7; omega)) [2, 3, 4, 5, 6, 7] rfl rfl rfl rfl (by decide) hl.1 rfl rfl (Nat.le_of_ble_eq_true rfl) dX1_refusalOfStatement_135 (by decide) (fun r_7 hr_8 => ?_)
    replace hr_8 : r_7 = f2_ (uk_ 0 1) (if 0 = 0 then ob_ (nm_ L ln (at_ + 1)) 0 30 else ob_ (nm_ L ln (at_ + 1)) 1 5) := hr_8
    subst r_7
    refine rSi hx hb hr hlk ?_ dX1_refusalOfStatement_138
    show (f2_ (uk_ 0 1) (if 0 = 0 then ob_ (nm_ L ln (at_ + 1)) 0 30 else ob_ (nm_ L ln (at_ + 1)) 1 5)) = _
    first | exact (rst_s c_13_115).symm | exact (rst_p c_13_112).symm | exact (rst_q c_13_113).symm | exact (rst_i c_13_105).symm | exact (rst_v c_13_118).symm | (exact (rst_h (by rw [c_13_106]; decide) (by rw [c_13_106]; decide) (by rw [c_13_106]; decide) (by rw [c_13_106]; decide) (by rw [c_13_106]; decide) ).symm) | (exact (rst_h (by rw [c_13_107]; decide) (by rw [c_13_107]; decide) (by rw [c_13_107]; decide) (by rw [c_13_107]; decide) (by rw [c_13_107]; decide) ).symm) | (exact (rst_h (by rw [c_13_108]; decide) (by rw [c_13_108]; decide) (by rw [c_13_108]; decide) (by rw [c_13_108]; decide) (by rw [c_13_108]; decide) ).symm) | (exact (rst_h (by rw [c_13_109]; decide) (by rw [c_13_109]; decide) (by rw [c_13_109]; decide) (by rw [c_13_109]; decide) (by rw [c_13_109]; decide) ).symm) | (exact (rst_h (by rw [c_13_110]; decide) (by rw [c_13_110]; decide) (by rw [c_13_110]; decide) (by rw [c_13_110]; decide) (by rw [c_13_110]; decide) ).symm) | (exact (rst_h (by rw [c_13_111]; decide) (by rw [c_13_111]; decide) (by rw [c_13_111]; decide) (by rw [c_13_111]; decide) (by rw [c_13_111]; decide) ).symm) | (exact (rst_h (by rw [c_13_114]; decide) (by rw [c_13_114]; decide) (by rw [c_13_114]; decide) (by rw [c_13_114]; decide) (by rw [c_13_114]; decide) ).symm) | (exact (rst_h (by rw [c_13_116]; decide) (by rw [c_13_116]; decide) (by rw [c_13_116]; decide) (by rw [c_13_116]; decide) (by rw [c_13_116]; decide) ).symm) | (exact (rst_h (by rw [c_13_117]; decide) (by rw [c_13_117]; decide) (by rw [c_13_117]; decide) (by rw [c_13_117]; decide) (by rw [c_13_117]; decide) ).symm) | exact (rst_h c_13_115 c_13_112 c_13_113 c_13_105 c_13_118 ).symm
  by_cases c_13_106 : la_ L ln at_ = 106
  · refine lv_tableIn (off := 133) (tgt := 146) hx hb dX1_refusalOfStatement_13 (by rw [c_13_106]; decide) (by rw [c_13_106]; decide) (by rw [c_13_106]; rfl) (by decide) ?_
    refine lv_aload_n hx hb dX1_refusalOfStatement_146 rfl (lv_at hl 3 rfl) ?_
    refine lv_aload_n hx hb dX1_refusalOfStatement_147 rfl (lv_at hl 1 rfl) ?_
    refine lv_iload_n hx hb dX1_refusalOfStatement_148 rfl (lv_at hl 2 rfl) ?_
    refine lv_iconst (v := 1) hx hb dX1_refusalOfStatement_149 (by decide) ?_
    refine lv_iadd hx hb dX1_refusalOfStatement_150 ?_
    refine sti (x := (nI at_) + 1) (y := nI (at_ + 1)) (nI_1 _) ?_
    refine kSiV hx hb hml hown hts hK hP gX1_refusalOfStatement_X1_numberAt okX1_numberAt (qX1_numberAt l D cI cB g L ln (at_ + 1) (by omega) (by omega)) [0, 1] rfl rfl rfl rfl (by decide) hl.1 rfl rfl (Nat.le_of_ble_eq_true rfl) dX1_refusalOfStatement_151 (by decide) (fun r_9 hr_10 => ?_)
    replace hr_10 : r_9 = nm_ L ln (at_ + 1) := hr_10
    subst r_9
    refine kSiN hx hb hml hown hts hK hP gX1_refusalOfStatement_X0_refusalOfHours_n55 (hK.2 _ (List.mem_of_getElem? (i := 43) rfl)) (hts _ (List.mem_of_getElem? (i := 17) rfl)) (hts _ (List.mem_of_getElem? (i := 44) rfl)) (hts _ (List.mem_of_getElem? (i := 45) rfl)) okX0_refusalOfHours (qX0_refusalOfHours l D cI cB g 10 T (nm_ L ln (at_ + 1)) (by show sn_ T ≤ 7; omega)) [2, 3, 4, 5, 6, 7] rfl rfl rfl rfl (by decide) hl.1 rfl rfl (Nat.le_of_ble_eq_true rfl) dX1_refusalOfStatement_154 (by decide) (fun r_11 hr_12 => ?_)
    replace hr_12 : r_11 = rh_ T (nm_ L ln (at_ + 1)) := hr_12
    subst r_11
    refine rSi hx hb hr hlk ?_ dX1_refusalOfStatement_157
    show (rh_ T (nm_ L ln (at_ + 1))) = _
    first | exact (rst_s c_13_115).symm | exact (rst_p c_13_112).symm | exact (rst_q c_13_113).symm | exact (rst_i c_13_105).symm | exact (rst_v c_13_118).symm | (exact (rst_h (by rw [c_13_106]; decide) (by rw [c_13_106]; decide) (by rw [c_13_106]; decide) (by rw [c_13_106]; decide) (by rw [c_13_106]; decide) ).symm) | (exact (rst_h (by rw [c_13_107]; decide) (by rw [c_13_107]; decide) (by rw [c_13_107]; decide) (by rw [c_13_107]; decide) (by rw [c_13_107]; decide) ).symm) | (exact (rst_h (by rw [c_13_108]; decide) (by rw [c_13_108]; decide) (by rw [c_13_108]; decide) (by rw [c_13_108]; decide) (by rw [c_13_108]; decide) ).symm) | (exact (rst_h (by rw [c_13_109]; decide) (by rw [c_13_109]; decide) (by rw [c_13_109]; decide) (by rw [c_13_109]; decide) (by rw [c_13_109]; decide) ).symm) | (exact (rst_h (by rw [c_13_110]; decide) (by rw [c_13_110]; decide) (by rw [c_13_110]; decide) (by rw [c_13_110]; decide) (by rw [c_13_110]; decide) ).symm) | (exact (rst_h (by rw [c_13_111]; decide) (by rw [c_13_111]; decide) (by rw [c_13_111]; decide) (by rw [c_13_111]; decide) (by rw [c_13_111]; decide) ).symm) | (exact (rst_h (by rw [c_13_114]; decide) (by rw [c_13_114]; decide) (by rw [c_13_114]; decide) (by rw [c_13_114]; decide) (by rw [c_13_114]; decide) ).symm) | (exact (rst_h (by rw [c_13_116]; decide) (by rw [c_13_116]; decide) (by rw [c_13_116]; decide) (by rw [c_13_116]; decide) (by rw [c_13_116]; decide) ).symm) | (exact (rst_h (by rw [c_13_117]; decide) (by rw [c_13_117]; decide) (by rw [c_13_117]; decide) (by rw [c_13_117]; decide) (by rw [c_13_117]; decide) ).symm) | exact (rst_h c_13_115 c_13_112 c_13_113 c_13_105 c_13_118 ).symm
  by_cases c_13_107 : la_ L ln at_ = 107
  · refine lv_tableIn (off := 133) (tgt := 146) hx hb dX1_refusalOfStatement_13 (by rw [c_13_107]; decide) (by rw [c_13_107]; decide) (by rw [c_13_107]; rfl) (by decide) ?_
    refine lv_aload_n hx hb dX1_refusalOfStatement_146 rfl (lv_at hl 3 rfl) ?_
    refine lv_aload_n hx hb dX1_refusalOfStatement_147 rfl (lv_at hl 1 rfl) ?_
    refine lv_iload_n hx hb dX1_refusalOfStatement_148 rfl (lv_at hl 2 rfl) ?_
    refine lv_iconst (v := 1) hx hb dX1_refusalOfStatement_149 (by decide) ?_
    refine lv_iadd hx hb dX1_refusalOfStatement_150 ?_
    refine sti (x := (nI at_) + 1) (y := nI (at_ + 1)) (nI_1 _) ?_
    refine kSiV hx hb hml hown hts hK hP gX1_refusalOfStatement_X1_numberAt okX1_numberAt (qX1_numberAt l D cI cB g L ln (at_ + 1) (by omega) (by omega)) [0, 1] rfl rfl rfl rfl (by decide) hl.1 rfl rfl (Nat.le_of_ble_eq_true rfl) dX1_refusalOfStatement_151 (by decide) (fun r_13 hr_14 => ?_)
    replace hr_14 : r_13 = nm_ L ln (at_ + 1) := hr_14
    subst r_13
    refine kSiN hx hb hml hown hts hK hP gX1_refusalOfStatement_X0_refusalOfHours_n55 (hK.2 _ (List.mem_of_getElem? (i := 43) rfl)) (hts _ (List.mem_of_getElem? (i := 17) rfl)) (hts _ (List.mem_of_getElem? (i := 44) rfl)) (hts _ (List.mem_of_getElem? (i := 45) rfl)) okX0_refusalOfHours (qX0_refusalOfHours l D cI cB g 10 T (nm_ L ln (at_ + 1)) (by show sn_ T ≤ 7; omega)) [2, 3, 4, 5, 6, 7] rfl rfl rfl rfl (by decide) hl.1 rfl rfl (Nat.le_of_ble_eq_true rfl) dX1_refusalOfStatement_154 (by decide) (fun r_15 hr_16 => ?_)
    replace hr_16 : r_15 = rh_ T (nm_ L ln (at_ + 1)) := hr_16
    subst r_15
    refine rSi hx hb hr hlk ?_ dX1_refusalOfStatement_157
    show (rh_ T (nm_ L ln (at_ + 1))) = _
    first | exact (rst_s c_13_115).symm | exact (rst_p c_13_112).symm | exact (rst_q c_13_113).symm | exact (rst_i c_13_105).symm | exact (rst_v c_13_118).symm | (exact (rst_h (by rw [c_13_106]; decide) (by rw [c_13_106]; decide) (by rw [c_13_106]; decide) (by rw [c_13_106]; decide) (by rw [c_13_106]; decide) ).symm) | (exact (rst_h (by rw [c_13_107]; decide) (by rw [c_13_107]; decide) (by rw [c_13_107]; decide) (by rw [c_13_107]; decide) (by rw [c_13_107]; decide) ).symm) | (exact (rst_h (by rw [c_13_108]; decide) (by rw [c_13_108]; decide) (by rw [c_13_108]; decide) (by rw [c_13_108]; decide) (by rw [c_13_108]; decide) ).symm) | (exact (rst_h (by rw [c_13_109]; decide) (by rw [c_13_109]; decide) (by rw [c_13_109]; decide) (by rw [c_13_109]; decide) (by rw [c_13_109]; decide) ).symm) | (exact (rst_h (by rw [c_13_110]; decide) (by rw [c_13_110]; decide) (by rw [c_13_110]; decide) (by rw [c_13_110]; decide) (by rw [c_13_110]; decide) ).symm) | (exact (rst_h (by rw [c_13_111]; decide) (by rw [c_13_111]; decide) (by rw [c_13_111]; decide) (by rw [c_13_111]; decide) (by rw [c_13_111]; decide) ).symm) | (exact (rst_h (by rw [c_13_114]; decide) (by rw [c_13_114]; decide) (by rw [c_13_114]; decide) (by rw [c_13_114]; decide) (by rw [c_13_114]; decide) ).symm) | (exact (rst_h (by rw [c_13_116]; decide) (by rw [c_13_116]; decide) (by rw [c_13_116]; decide) (by rw [c_13_116]; decide) (by rw [c_13_116]; decide) ).symm) | (exact (rst_h (by rw [c_13_117]; decide) (by rw [c_13_117]; decide) (by rw [c_13_117]; decide) (by rw [c_13_117]; decide) (by rw [c_13_117]; decide) ).symm) | exact (rst_h c_13_115 c_13_112 c_13_113 c_13_105 c_13_118 ).symm
  by_cases c_13_108 : la_ L ln at_ = 108
  · refine lv_tableIn (off := 133) (tgt := 146) hx hb dX1_refusalOfStatement_13 (by rw [c_13_108]; decide) (by rw [c_13_108]; decide) (by rw [c_13_108]; rfl) (by decide) ?_
    refine lv_aload_n hx hb dX1_refusalOfStatement_146 rfl (lv_at hl 3 rfl) ?_
    refine lv_aload_n hx hb dX1_refusalOfStatement_147 rfl (lv_at hl 1 rfl) ?_
    refine lv_iload_n hx hb dX1_refusalOfStatement_148 rfl (lv_at hl 2 rfl) ?_
    refine lv_iconst (v := 1) hx hb dX1_refusalOfStatement_149 (by decide) ?_
    refine lv_iadd hx hb dX1_refusalOfStatement_150 ?_
    refine sti (x := (nI at_) + 1) (y := nI (at_ + 1)) (nI_1 _) ?_
    refine kSiV hx hb hml hown hts hK hP gX1_refusalOfStatement_X1_numberAt okX1_numberAt (qX1_numberAt l D cI cB g L ln (at_ + 1) (by omega) (by omega)) [0, 1] rfl rfl rfl rfl (by decide) hl.1 rfl rfl (Nat.le_of_ble_eq_true rfl) dX1_refusalOfStatement_151 (by decide) (fun r_17 hr_18 => ?_)
    replace hr_18 : r_17 = nm_ L ln (at_ + 1) := hr_18
    subst r_17
    refine kSiN hx hb hml hown hts hK hP gX1_refusalOfStatement_X0_refusalOfHours_n55 (hK.2 _ (List.mem_of_getElem? (i := 43) rfl)) (hts _ (List.mem_of_getElem? (i := 17) rfl)) (hts _ (List.mem_of_getElem? (i := 44) rfl)) (hts _ (List.mem_of_getElem? (i := 45) rfl)) okX0_refusalOfHours (qX0_refusalOfHours l D cI cB g 10 T (nm_ L ln (at_ + 1)) (by show sn_ T ≤ 7; omega)) [2, 3, 4, 5, 6, 7] rfl rfl rfl rfl (by decide) hl.1 rfl rfl (Nat.le_of_ble_eq_true rfl) dX1_refusalOfStatement_154 (by decide) (fun r_19 hr_20 => ?_)
    replace hr_20 : r_19 = rh_ T (nm_ L ln (at_ + 1)) := hr_20
    subst r_19
    refine rSi hx hb hr hlk ?_ dX1_refusalOfStatement_157
    show (rh_ T (nm_ L ln (at_ + 1))) = _
    first | exact (rst_s c_13_115).symm | exact (rst_p c_13_112).symm | exact (rst_q c_13_113).symm | exact (rst_i c_13_105).symm | exact (rst_v c_13_118).symm | (exact (rst_h (by rw [c_13_106]; decide) (by rw [c_13_106]; decide) (by rw [c_13_106]; decide) (by rw [c_13_106]; decide) (by rw [c_13_106]; decide) ).symm) | (exact (rst_h (by rw [c_13_107]; decide) (by rw [c_13_107]; decide) (by rw [c_13_107]; decide) (by rw [c_13_107]; decide) (by rw [c_13_107]; decide) ).symm) | (exact (rst_h (by rw [c_13_108]; decide) (by rw [c_13_108]; decide) (by rw [c_13_108]; decide) (by rw [c_13_108]; decide) (by rw [c_13_108]; decide) ).symm) | (exact (rst_h (by rw [c_13_109]; decide) (by rw [c_13_109]; decide) (by rw [c_13_109]; decide) (by rw [c_13_109]; decide) (by rw [c_13_109]; decide) ).symm) | (exact (rst_h (by rw [c_13_110]; decide) (by rw [c_13_110]; decide) (by rw [c_13_110]; decide) (by rw [c_13_110]; decide) (by rw [c_13_110]; decide) ).symm) | (exact (rst_h (by rw [c_13_111]; decide) (by rw [c_13_111]; decide) (by rw [c_13_111]; decide) (by rw [c_13_111]; decide) (by rw [c_13_111]; decide) ).symm) | (exact (rst_h (by rw [c_13_114]; decide) (by rw [c_13_114]; decide) (by rw [c_13_114]; decide) (by rw [c_13_114]; decide) (by rw [c_13_114]; decide) ).symm) | (exact (rst_h (by rw [c_13_116]; decide) (by rw [c_13_116]; decide) (by rw [c_13_116]; decide) (by rw [c_13_116]; decide) (by rw [c_13_116]; decide) ).symm) | (exact (rst_h (by rw [c_13_117]; decide) (by rw [c_13_117]; decide) (by rw [c_13_117]; decide) (by rw [c_13_117]; decide) (by rw [c_13_117]; decide) ).symm) | exact (rst_h c_13_115 c_13_112 c_13_113 c_13_105 c_13_118 ).symm
  by_cases c_13_109 : la_ L ln at_ = 109
  · refine lv_tableIn (off := 133) (tgt := 146) hx hb dX1_refusalOfStatement_13 (by rw [c_13_109]; decide) (by rw [c_13_109]; decide) (by rw [c_13_109]; rfl) (by decide) ?_
    refine lv_aload_n hx hb dX1_refusalOfStatement_146 rfl (lv_at hl 3 rfl) ?_
    refine lv_aload_n hx hb dX1_refusalOfStatement_147 rfl (lv_at hl 1 rfl) ?_
    refine lv_iload_n hx hb dX1_refusalOfStatement_148 rfl (lv_at hl 2 rfl) ?_
    refine lv_iconst (v := 1) hx hb dX1_refusalOfStatement_149 (by decide) ?_
    refine lv_iadd hx hb dX1_refusalOfStatement_150 ?_
    refine sti (x := (nI at_) + 1) (y := nI (at_ + 1)) (nI_1 _) ?_
    refine kSiV hx hb hml hown hts hK hP gX1_refusalOfStatement_X1_numberAt okX1_numberAt (qX1_numberAt l D cI cB g L ln (at_ + 1) (by omega) (by omega)) [0, 1] rfl rfl rfl rfl (by decide) hl.1 rfl rfl (Nat.le_of_ble_eq_true rfl) dX1_refusalOfStatement_151 (by decide) (fun r_21 hr_22 => ?_)
    replace hr_22 : r_21 = nm_ L ln (at_ + 1) := hr_22
    subst r_21
    refine kSiN hx hb hml hown hts hK hP gX1_refusalOfStatement_X0_refusalOfHours_n55 (hK.2 _ (List.mem_of_getElem? (i := 43) rfl)) (hts _ (List.mem_of_getElem? (i := 17) rfl)) (hts _ (List.mem_of_getElem? (i := 44) rfl)) (hts _ (List.mem_of_getElem? (i := 45) rfl)) okX0_refusalOfHours (qX0_refusalOfHours l D cI cB g 10 T (nm_ L ln (at_ + 1)) (by show sn_ T ≤ 7; omega)) [2, 3, 4, 5, 6, 7] rfl rfl rfl rfl (by decide) hl.1 rfl rfl (Nat.le_of_ble_eq_true rfl) dX1_refusalOfStatement_154 (by decide) (fun r_23 hr_24 => ?_)
    replace hr_24 : r_23 = rh_ T (nm_ L ln (at_ + 1)) := hr_24
    subst r_23
    refine rSi hx hb hr hlk ?_ dX1_refusalOfStatement_157
    show (rh_ T (nm_ L ln (at_ + 1))) = _
    first | exact (rst_s c_13_115).symm | exact (rst_p c_13_112).symm | exact (rst_q c_13_113).symm | exact (rst_i c_13_105).symm | exact (rst_v c_13_118).symm | (exact (rst_h (by rw [c_13_106]; decide) (by rw [c_13_106]; decide) (by rw [c_13_106]; decide) (by rw [c_13_106]; decide) (by rw [c_13_106]; decide) ).symm) | (exact (rst_h (by rw [c_13_107]; decide) (by rw [c_13_107]; decide) (by rw [c_13_107]; decide) (by rw [c_13_107]; decide) (by rw [c_13_107]; decide) ).symm) | (exact (rst_h (by rw [c_13_108]; decide) (by rw [c_13_108]; decide) (by rw [c_13_108]; decide) (by rw [c_13_108]; decide) (by rw [c_13_108]; decide) ).symm) | (exact (rst_h (by rw [c_13_109]; decide) (by rw [c_13_109]; decide) (by rw [c_13_109]; decide) (by rw [c_13_109]; decide) (by rw [c_13_109]; decide) ).symm) | (exact (rst_h (by rw [c_13_110]; decide) (by rw [c_13_110]; decide) (by rw [c_13_110]; decide) (by rw [c_13_110]; decide) (by rw [c_13_110]; decide) ).symm) | (exact (rst_h (by rw [c_13_111]; decide) (by rw [c_13_111]; decide) (by rw [c_13_111]; decide) (by rw [c_13_111]; decide) (by rw [c_13_111]; decide) ).symm) | (exact (rst_h (by rw [c_13_114]; decide) (by rw [c_13_114]; decide) (by rw [c_13_114]; decide) (by rw [c_13_114]; decide) (by rw [c_13_114]; decide) ).symm) | (exact (rst_h (by rw [c_13_116]; decide) (by rw [c_13_116]; decide) (by rw [c_13_116]; decide) (by rw [c_13_116]; decide) (by rw [c_13_116]; decide) ).symm) | (exact (rst_h (by rw [c_13_117]; decide) (by rw [c_13_117]; decide) (by rw [c_13_117]; decide) (by rw [c_13_117]; decide) (by rw [c_13_117]; decide) ).symm) | exact (rst_h c_13_115 c_13_112 c_13_113 c_13_105 c_13_118 ).symm
  by_cases c_13_110 : la_ L ln at_ = 110
  · refine lv_tableIn (off := 133) (tgt := 146) hx hb dX1_refusalOfStatement_13 (by rw [c_13_110]; decide) (by rw [c_13_110]; decide) (by rw [c_13_110]; rfl) (by decide) ?_
    refine lv_aload_n hx hb dX1_refusalOfStatement_146 rfl (lv_at hl 3 rfl) ?_
    refine lv_aload_n hx hb dX1_refusalOfStatement_147 rfl (lv_at hl 1 rfl) ?_
    refine lv_iload_n hx hb dX1_refusalOfStatement_148 rfl (lv_at hl 2 rfl) ?_
    refine lv_iconst (v := 1) hx hb dX1_refusalOfStatement_149 (by decide) ?_
    refine lv_iadd hx hb dX1_refusalOfStatement_150 ?_
    refine sti (x := (nI at_) + 1) (y := nI (at_ + 1)) (nI_1 _) ?_
    refine kSiV hx hb hml hown hts hK hP gX1_refusalOfStatement_X1_numberAt okX1_numberAt (qX1_numberAt l D cI cB g L ln (at_ + 1) (by omega) (by omega)) [0, 1] rfl rfl rfl rfl (by decide) hl.1 rfl rfl (Nat.le_of_ble_eq_true rfl) dX1_refusalOfStatement_151 (by decide) (fun r_25 hr_26 => ?_)
    replace hr_26 : r_25 = nm_ L ln (at_ + 1) := hr_26
    subst r_25
    refine kSiN hx hb hml hown hts hK hP gX1_refusalOfStatement_X0_refusalOfHours_n55 (hK.2 _ (List.mem_of_getElem? (i := 43) rfl)) (hts _ (List.mem_of_getElem? (i := 17) rfl)) (hts _ (List.mem_of_getElem? (i := 44) rfl)) (hts _ (List.mem_of_getElem? (i := 45) rfl)) okX0_refusalOfHours (qX0_refusalOfHours l D cI cB g 10 T (nm_ L ln (at_ + 1)) (by show sn_ T ≤ 7; omega)) [2, 3, 4, 5, 6, 7] rfl rfl rfl rfl (by decide) hl.1 rfl rfl (Nat.le_of_ble_eq_true rfl) dX1_refusalOfStatement_154 (by decide) (fun r_27 hr_28 => ?_)
    replace hr_28 : r_27 = rh_ T (nm_ L ln (at_ + 1)) := hr_28
    subst r_27
    refine rSi hx hb hr hlk ?_ dX1_refusalOfStatement_157
    show (rh_ T (nm_ L ln (at_ + 1))) = _
    first | exact (rst_s c_13_115).symm | exact (rst_p c_13_112).symm | exact (rst_q c_13_113).symm | exact (rst_i c_13_105).symm | exact (rst_v c_13_118).symm | (exact (rst_h (by rw [c_13_106]; decide) (by rw [c_13_106]; decide) (by rw [c_13_106]; decide) (by rw [c_13_106]; decide) (by rw [c_13_106]; decide) ).symm) | (exact (rst_h (by rw [c_13_107]; decide) (by rw [c_13_107]; decide) (by rw [c_13_107]; decide) (by rw [c_13_107]; decide) (by rw [c_13_107]; decide) ).symm) | (exact (rst_h (by rw [c_13_108]; decide) (by rw [c_13_108]; decide) (by rw [c_13_108]; decide) (by rw [c_13_108]; decide) (by rw [c_13_108]; decide) ).symm) | (exact (rst_h (by rw [c_13_109]; decide) (by rw [c_13_109]; decide) (by rw [c_13_109]; decide) (by rw [c_13_109]; decide) (by rw [c_13_109]; decide) ).symm) | (exact (rst_h (by rw [c_13_110]; decide) (by rw [c_13_110]; decide) (by rw [c_13_110]; decide) (by rw [c_13_110]; decide) (by rw [c_13_110]; decide) ).symm) | (exact (rst_h (by rw [c_13_111]; decide) (by rw [c_13_111]; decide) (by rw [c_13_111]; decide) (by rw [c_13_111]; decide) (by rw [c_13_111]; decide) ).symm) | (exact (rst_h (by rw [c_13_114]; decide) (by rw [c_13_114]; decide) (by rw [c_13_114]; decide) (by rw [c_13_114]; decide) (by rw [c_13_114]; decide) ).symm) | (exact (rst_h (by rw [c_13_116]; decide) (by rw [c_13_116]; decide) (by rw [c_13_116]; decide) (by rw [c_13_116]; decide) (by rw [c_13_116]; decide) ).symm) | (exact (rst_h (by rw [c_13_117]; decide) (by rw [c_13_117]; decide) (by rw [c_13_117]; decide) (by rw [c_13_117]; decide) (by rw [c_13_117]; decide) ).symm) | exact (rst_h c_13_115 c_13_112 c_13_113 c_13_105 c_13_118 ).symm
  by_cases c_13_111 : la_ L ln at_ = 111
  · refine lv_tableIn (off := 133) (tgt := 146) hx hb dX1_refusalOfStatement_13 (by rw [c_13_111]; decide) (by rw [c_13_111]; decide) (by rw [c_13_111]; rfl) (by decide) ?_
    refine lv_aload_n hx hb dX1_refusalOfStatement_146 rfl (lv_at hl 3 rfl) ?_
    refine lv_aload_n hx hb dX1_refusalOfStatement_147 rfl (lv_at hl 1 rfl) ?_
    refine lv_iload_n hx hb dX1_refusalOfStatement_148 rfl (lv_at hl 2 rfl) ?_
    refine lv_iconst (v := 1) hx hb dX1_refusalOfStatement_149 (by decide) ?_
    refine lv_iadd hx hb dX1_refusalOfStatement_150 ?_
    refine sti (x := (nI at_) + 1) (y := nI (at_ + 1)) (nI_1 _) ?_
    refine kSiV hx hb hml hown hts hK hP gX1_refusalOfStatement_X1_numberAt okX1_numberAt (qX1_numberAt l D cI cB g L ln (at_ + 1) (by omega) (by omega)) [0, 1] rfl rfl rfl rfl (by decide) hl.1 rfl rfl (Nat.le_of_ble_eq_true rfl) dX1_refusalOfStatement_151 (by decide) (fun r_29 hr_30 => ?_)
    replace hr_30 : r_29 = nm_ L ln (at_ + 1) := hr_30
    subst r_29
    refine kSiN hx hb hml hown hts hK hP gX1_refusalOfStatement_X0_refusalOfHours_n55 (hK.2 _ (List.mem_of_getElem? (i := 43) rfl)) (hts _ (List.mem_of_getElem? (i := 17) rfl)) (hts _ (List.mem_of_getElem? (i := 44) rfl)) (hts _ (List.mem_of_getElem? (i := 45) rfl)) okX0_refusalOfHours (qX0_refusalOfHours l D cI cB g 10 T (nm_ L ln (at_ + 1)) (by show sn_ T ≤ 7; omega)) [2, 3, 4, 5, 6, 7] rfl rfl rfl rfl (by decide) hl.1 rfl rfl (Nat.le_of_ble_eq_true rfl) dX1_refusalOfStatement_154 (by decide) (fun r_31 hr_32 => ?_)
    replace hr_32 : r_31 = rh_ T (nm_ L ln (at_ + 1)) := hr_32
    subst r_31
    refine rSi hx hb hr hlk ?_ dX1_refusalOfStatement_157
    show (rh_ T (nm_ L ln (at_ + 1))) = _
    first | exact (rst_s c_13_115).symm | exact (rst_p c_13_112).symm | exact (rst_q c_13_113).symm | exact (rst_i c_13_105).symm | exact (rst_v c_13_118).symm | (exact (rst_h (by rw [c_13_106]; decide) (by rw [c_13_106]; decide) (by rw [c_13_106]; decide) (by rw [c_13_106]; decide) (by rw [c_13_106]; decide) ).symm) | (exact (rst_h (by rw [c_13_107]; decide) (by rw [c_13_107]; decide) (by rw [c_13_107]; decide) (by rw [c_13_107]; decide) (by rw [c_13_107]; decide) ).symm) | (exact (rst_h (by rw [c_13_108]; decide) (by rw [c_13_108]; decide) (by rw [c_13_108]; decide) (by rw [c_13_108]; decide) (by rw [c_13_108]; decide) ).symm) | (exact (rst_h (by rw [c_13_109]; decide) (by rw [c_13_109]; decide) (by rw [c_13_109]; decide) (by rw [c_13_109]; decide) (by rw [c_13_109]; decide) ).symm) | (exact (rst_h (by rw [c_13_110]; decide) (by rw [c_13_110]; decide) (by rw [c_13_110]; decide) (by rw [c_13_110]; decide) (by rw [c_13_110]; decide) ).symm) | (exact (rst_h (by rw [c_13_111]; decide) (by rw [c_13_111]; decide) (by rw [c_13_111]; decide) (by rw [c_13_111]; decide) (by rw [c_13_111]; decide) ).symm) | (exact (rst_h (by rw [c_13_114]; decide) (by rw [c_13_114]; decide) (by rw [c_13_114]; decide) (by rw [c_13_114]; decide) (by rw [c_13_114]; decide) ).symm) | (exact (rst_h (by rw [c_13_116]; decide) (by rw [c_13_116]; decide) (by rw [c_13_116]; decide) (by rw [c_13_116]; decide) (by rw [c_13_116]; decide) ).symm) | (exact (rst_h (by rw [c_13_117]; decide) (by rw [c_13_117]; decide) (by rw [c_13_117]; decide) (by rw [c_13_117]; decide) (by rw [c_13_117]; decide) ).symm) | exact (rst_h c_13_115 c_13_112 c_13_113 c_13_105 c_13_118 ).symm
  by_cases c_13_112 : la_ L ln at_ = 112
  · refine lv_tableIn (off := 91) (tgt := 104) hx hb dX1_refusalOfStatement_13 (by rw [c_13_112]; decide) (by rw [c_13_112]; decide) (by rw [c_13_112]; rfl) (by decide) ?_
    refine lv_aload_n hx hb dX1_refusalOfStatement_104 rfl (lv_at hl 3 rfl) ?_
    refine lv_iload_n hx hb dX1_refusalOfStatement_105 rfl (lv_at hl 0 rfl) ?_
    refine lv_aload_n hx hb dX1_refusalOfStatement_106 rfl (lv_at hl 1 rfl) ?_
    refine lv_iload_n hx hb dX1_refusalOfStatement_107 rfl (lv_at hl 2 rfl) ?_
    refine lv_iconst (v := 2) hx hb dX1_refusalOfStatement_108 (by decide) ?_
    refine lv_iadd hx hb dX1_refusalOfStatement_109 ?_
    refine sti (x := (nI at_) + 2) (y := nI (at_ + 2)) (nI_2 _) ?_
    refine kSiV hx hb hml hown hts hK hP gX1_refusalOfStatement_X1_numberAt okX1_numberAt (qX1_numberAt l D cI cB g L ln (at_ + 2) (by omega) (by omega)) [0, 1] rfl rfl rfl rfl (by decide) hl.1 rfl rfl (Nat.le_of_ble_eq_true rfl) dX1_refusalOfStatement_110 (by decide) (fun r_33 hr_34 => ?_)
    replace hr_34 : r_33 = nm_ L ln (at_ + 2) := hr_34
    subst r_33
    refine kSiN hx hb hml hown hts hK hP gX1_refusalOfStatement_X0_refusalOfPowder_n42 (hK.2 _ (List.mem_of_getElem? (i := 36) rfl)) (hts _ (List.mem_of_getElem? (i := 17) rfl)) (hts _ (List.mem_of_getElem? (i := 26) rfl)) (hts _ (List.mem_of_getElem? (i := 27) rfl)) okX0_refusalOfPowder (qX0_refusalOfPowder l D cI cB g 10 T (dt_ L ln (at_ + 1)) (nm_ L ln (at_ + 2)) (by show sn_ T ≤ 7; omega)) [2, 3, 4, 5, 6, 7] rfl rfl rfl rfl (by decide) hl.1 rfl rfl (Nat.le_of_ble_eq_true rfl) dX1_refusalOfStatement_113 (by decide) (fun r_35 hr_36 => ?_)
    replace hr_36 : r_35 = f2_ (nb_ (dt_ L ln (at_ + 1)) (nI (sn_ T))) (ob_ (nm_ L ln (at_ + 2)) 0 99) := hr_36
    subst r_35
    refine rSi hx hb hr hlk ?_ dX1_refusalOfStatement_116
    show (f2_ (nb_ (dt_ L ln (at_ + 1)) (nI (sn_ T))) (ob_ (nm_ L ln (at_ + 2)) 0 99)) = _
    first | exact (rst_s c_13_115).symm | exact (rst_p c_13_112).symm | exact (rst_q c_13_113).symm | exact (rst_i c_13_105).symm | exact (rst_v c_13_118).symm | (exact (rst_h (by rw [c_13_106]; decide) (by rw [c_13_106]; decide) (by rw [c_13_106]; decide) (by rw [c_13_106]; decide) (by rw [c_13_106]; decide) ).symm) | (exact (rst_h (by rw [c_13_107]; decide) (by rw [c_13_107]; decide) (by rw [c_13_107]; decide) (by rw [c_13_107]; decide) (by rw [c_13_107]; decide) ).symm) | (exact (rst_h (by rw [c_13_108]; decide) (by rw [c_13_108]; decide) (by rw [c_13_108]; decide) (by rw [c_13_108]; decide) (by rw [c_13_108]; decide) ).symm) | (exact (rst_h (by rw [c_13_109]; decide) (by rw [c_13_109]; decide) (by rw [c_13_109]; decide) (by rw [c_13_109]; decide) (by rw [c_13_109]; decide) ).symm) | (exact (rst_h (by rw [c_13_110]; decide) (by rw [c_13_110]; decide) (by rw [c_13_110]; decide) (by rw [c_13_110]; decide) (by rw [c_13_110]; decide) ).symm) | (exact (rst_h (by rw [c_13_111]; decide) (by rw [c_13_111]; decide) (by rw [c_13_111]; decide) (by rw [c_13_111]; decide) (by rw [c_13_111]; decide) ).symm) | (exact (rst_h (by rw [c_13_114]; decide) (by rw [c_13_114]; decide) (by rw [c_13_114]; decide) (by rw [c_13_114]; decide) (by rw [c_13_114]; decide) ).symm) | (exact (rst_h (by rw [c_13_116]; decide) (by rw [c_13_116]; decide) (by rw [c_13_116]; decide) (by rw [c_13_116]; decide) (by rw [c_13_116]; decide) ).symm) | (exact (rst_h (by rw [c_13_117]; decide) (by rw [c_13_117]; decide) (by rw [c_13_117]; decide) (by rw [c_13_117]; decide) (by rw [c_13_117]; decide) ).symm) | exact (rst_h c_13_115 c_13_112 c_13_113 c_13_105 c_13_118 ).symm
  by_cases c_13_113 : la_ L ln at_ = 113
  · refine lv_tableIn (off := 104) (tgt := 117) hx hb dX1_refusalOfStatement_13 (by rw [c_13_113]; decide) (by rw [c_13_113]; decide) (by rw [c_13_113]; rfl) (by decide) ?_
    refine lv_iload_n hx hb dX1_refusalOfStatement_117 rfl (lv_at hl 0 rfl) ?_
    refine lv_aload_n hx hb dX1_refusalOfStatement_118 rfl (lv_at hl 3 rfl) ?_
    refine va_getN (ci := 0) (C := RX0) (T := TX0) (N := 11) hx hb hts hinX0 hown hK.1 hP 2 rfl rfl 6 (by decide) (va_Nw.use rfl (hK.2 _ (List.mem_of_getElem? (i := 14) rfl))) (fun _ h9 => h9) rfl dX1_refusalOfStatement_119 ?_
    refine kSiT hx hb hml hown hts hK hP gX1_refusalOfStatement_X4_nobody_n49 (hK.2 _ (List.mem_of_getElem? (i := 40) rfl)) (hts _ (List.mem_of_getElem? (i := 30) rfl)) (hts _ (List.mem_of_getElem? (i := 29) rfl)) okX4_nobody (qX4_nobody l D cI cB (dt_ L ln (at_ + 1)) (nI (sn_ T)) ) [] rfl (by decide) hl.1 rfl rfl (Nat.le_of_ble_eq_true rfl) dX1_refusalOfStatement_122 (by decide) (fun r_37 hr_38 => ?_)
    replace hr_38 : r_37 = nb_ (dt_ L ln (at_ + 1)) (nI (sn_ T)) := hr_38
    subst r_37
    refine rSi hx hb hr hlk ?_ dX1_refusalOfStatement_125
    show (nb_ (dt_ L ln (at_ + 1)) (nI (sn_ T))) = _
    first | exact (rst_s c_13_115).symm | exact (rst_p c_13_112).symm | exact (rst_q c_13_113).symm | exact (rst_i c_13_105).symm | exact (rst_v c_13_118).symm | (exact (rst_h (by rw [c_13_106]; decide) (by rw [c_13_106]; decide) (by rw [c_13_106]; decide) (by rw [c_13_106]; decide) (by rw [c_13_106]; decide) ).symm) | (exact (rst_h (by rw [c_13_107]; decide) (by rw [c_13_107]; decide) (by rw [c_13_107]; decide) (by rw [c_13_107]; decide) (by rw [c_13_107]; decide) ).symm) | (exact (rst_h (by rw [c_13_108]; decide) (by rw [c_13_108]; decide) (by rw [c_13_108]; decide) (by rw [c_13_108]; decide) (by rw [c_13_108]; decide) ).symm) | (exact (rst_h (by rw [c_13_109]; decide) (by rw [c_13_109]; decide) (by rw [c_13_109]; decide) (by rw [c_13_109]; decide) (by rw [c_13_109]; decide) ).symm) | (exact (rst_h (by rw [c_13_110]; decide) (by rw [c_13_110]; decide) (by rw [c_13_110]; decide) (by rw [c_13_110]; decide) (by rw [c_13_110]; decide) ).symm) | (exact (rst_h (by rw [c_13_111]; decide) (by rw [c_13_111]; decide) (by rw [c_13_111]; decide) (by rw [c_13_111]; decide) (by rw [c_13_111]; decide) ).symm) | (exact (rst_h (by rw [c_13_114]; decide) (by rw [c_13_114]; decide) (by rw [c_13_114]; decide) (by rw [c_13_114]; decide) (by rw [c_13_114]; decide) ).symm) | (exact (rst_h (by rw [c_13_116]; decide) (by rw [c_13_116]; decide) (by rw [c_13_116]; decide) (by rw [c_13_116]; decide) (by rw [c_13_116]; decide) ).symm) | (exact (rst_h (by rw [c_13_117]; decide) (by rw [c_13_117]; decide) (by rw [c_13_117]; decide) (by rw [c_13_117]; decide) (by rw [c_13_117]; decide) ).symm) | exact (rst_h c_13_115 c_13_112 c_13_113 c_13_105 c_13_118 ).symm
  by_cases c_13_114 : la_ L ln at_ = 114
  · refine lv_tableIn (off := 133) (tgt := 146) hx hb dX1_refusalOfStatement_13 (by rw [c_13_114]; decide) (by rw [c_13_114]; decide) (by rw [c_13_114]; rfl) (by decide) ?_
    refine lv_aload_n hx hb dX1_refusalOfStatement_146 rfl (lv_at hl 3 rfl) ?_
    refine lv_aload_n hx hb dX1_refusalOfStatement_147 rfl (lv_at hl 1 rfl) ?_
    refine lv_iload_n hx hb dX1_refusalOfStatement_148 rfl (lv_at hl 2 rfl) ?_
    refine lv_iconst (v := 1) hx hb dX1_refusalOfStatement_149 (by decide) ?_
    refine lv_iadd hx hb dX1_refusalOfStatement_150 ?_
    refine sti (x := (nI at_) + 1) (y := nI (at_ + 1)) (nI_1 _) ?_
    refine kSiV hx hb hml hown hts hK hP gX1_refusalOfStatement_X1_numberAt okX1_numberAt (qX1_numberAt l D cI cB g L ln (at_ + 1) (by omega) (by omega)) [0, 1] rfl rfl rfl rfl (by decide) hl.1 rfl rfl (Nat.le_of_ble_eq_true rfl) dX1_refusalOfStatement_151 (by decide) (fun r_39 hr_40 => ?_)
    replace hr_40 : r_39 = nm_ L ln (at_ + 1) := hr_40
    subst r_39
    refine kSiN hx hb hml hown hts hK hP gX1_refusalOfStatement_X0_refusalOfHours_n55 (hK.2 _ (List.mem_of_getElem? (i := 43) rfl)) (hts _ (List.mem_of_getElem? (i := 17) rfl)) (hts _ (List.mem_of_getElem? (i := 44) rfl)) (hts _ (List.mem_of_getElem? (i := 45) rfl)) okX0_refusalOfHours (qX0_refusalOfHours l D cI cB g 10 T (nm_ L ln (at_ + 1)) (by show sn_ T ≤ 7; omega)) [2, 3, 4, 5, 6, 7] rfl rfl rfl rfl (by decide) hl.1 rfl rfl (Nat.le_of_ble_eq_true rfl) dX1_refusalOfStatement_154 (by decide) (fun r_41 hr_42 => ?_)
    replace hr_42 : r_41 = rh_ T (nm_ L ln (at_ + 1)) := hr_42
    subst r_41
    refine rSi hx hb hr hlk ?_ dX1_refusalOfStatement_157
    show (rh_ T (nm_ L ln (at_ + 1))) = _
    first | exact (rst_s c_13_115).symm | exact (rst_p c_13_112).symm | exact (rst_q c_13_113).symm | exact (rst_i c_13_105).symm | exact (rst_v c_13_118).symm | (exact (rst_h (by rw [c_13_106]; decide) (by rw [c_13_106]; decide) (by rw [c_13_106]; decide) (by rw [c_13_106]; decide) (by rw [c_13_106]; decide) ).symm) | (exact (rst_h (by rw [c_13_107]; decide) (by rw [c_13_107]; decide) (by rw [c_13_107]; decide) (by rw [c_13_107]; decide) (by rw [c_13_107]; decide) ).symm) | (exact (rst_h (by rw [c_13_108]; decide) (by rw [c_13_108]; decide) (by rw [c_13_108]; decide) (by rw [c_13_108]; decide) (by rw [c_13_108]; decide) ).symm) | (exact (rst_h (by rw [c_13_109]; decide) (by rw [c_13_109]; decide) (by rw [c_13_109]; decide) (by rw [c_13_109]; decide) (by rw [c_13_109]; decide) ).symm) | (exact (rst_h (by rw [c_13_110]; decide) (by rw [c_13_110]; decide) (by rw [c_13_110]; decide) (by rw [c_13_110]; decide) (by rw [c_13_110]; decide) ).symm) | (exact (rst_h (by rw [c_13_111]; decide) (by rw [c_13_111]; decide) (by rw [c_13_111]; decide) (by rw [c_13_111]; decide) (by rw [c_13_111]; decide) ).symm) | (exact (rst_h (by rw [c_13_114]; decide) (by rw [c_13_114]; decide) (by rw [c_13_114]; decide) (by rw [c_13_114]; decide) (by rw [c_13_114]; decide) ).symm) | (exact (rst_h (by rw [c_13_116]; decide) (by rw [c_13_116]; decide) (by rw [c_13_116]; decide) (by rw [c_13_116]; decide) (by rw [c_13_116]; decide) ).symm) | (exact (rst_h (by rw [c_13_117]; decide) (by rw [c_13_117]; decide) (by rw [c_13_117]; decide) (by rw [c_13_117]; decide) (by rw [c_13_117]; decide) ).symm) | exact (rst_h c_13_115 c_13_112 c_13_113 c_13_105 c_13_118 ).symm
  by_cases c_13_115 : la_ L ln at_ = 115
  · refine lv_tableIn (off := 71) (tgt := 84) hx hb dX1_refusalOfStatement_13 (by rw [c_13_115]; decide) (by rw [c_13_115]; decide) (by rw [c_13_115]; rfl) (by decide) ?_
    refine lv_aload_n hx hb dX1_refusalOfStatement_84 rfl (lv_at hl 3 rfl) ?_
    refine lv_iload_n hx hb dX1_refusalOfStatement_85 rfl (lv_at hl 0 rfl) ?_
    refine lv_aload_n hx hb dX1_refusalOfStatement_86 rfl (lv_at hl 1 rfl) ?_
    refine lv_iload_n hx hb dX1_refusalOfStatement_87 rfl (lv_at hl 2 rfl) ?_
    refine lv_iconst (v := 2) hx hb dX1_refusalOfStatement_88 (by decide) ?_
    refine lv_iadd hx hb dX1_refusalOfStatement_89 ?_
    refine sti (x := (nI at_) + 2) (y := nI (at_ + 2)) (nI_2 _) ?_
    refine kSiV hx hb hml hown hts hK hP gX1_refusalOfStatement_X1_digitAt okX1_digitAt (qX1_digitAt l D cI cB g L ln (at_ + 2) (by omega) (by omega)) [0, 1] rfl rfl rfl rfl (by decide) hl.1 rfl rfl (Nat.le_of_ble_eq_true rfl) dX1_refusalOfStatement_90 (by decide) (fun r_43 hr_44 => ?_)
    replace hr_44 : r_43 = dt_ L ln (at_ + 2) := hr_44
    subst r_43
    refine lv_aload_n hx hb dX1_refusalOfStatement_93 rfl (lv_at hl 1 rfl) ?_
    refine lv_iload_n hx hb dX1_refusalOfStatement_94 rfl (lv_at hl 2 rfl) ?_
    refine lv_iconst (v := 3) hx hb dX1_refusalOfStatement_95 (by decide) ?_
    refine lv_iadd hx hb dX1_refusalOfStatement_96 ?_
    refine sti (x := (nI at_) + 3) (y := nI (at_ + 3)) (nI_3 _) ?_
    refine kSiV hx hb hml hown hts hK hP gX1_refusalOfStatement_X1_numberAt okX1_numberAt (qX1_numberAt l D cI cB g L ln (at_ + 3) (by omega) (by omega)) [0, 1] rfl rfl rfl rfl (by decide) hl.1 rfl rfl (Nat.le_of_ble_eq_true rfl) dX1_refusalOfStatement_97 (by decide) (fun r_45 hr_46 => ?_)
    replace hr_46 : r_45 = nm_ L ln (at_ + 3) := hr_46
    subst r_45
    refine kSiN hx hb hml hown hts hK hP gX1_refusalOfStatement_X0_refusalOfShore_n36 (hK.2 _ (List.mem_of_getElem? (i := 35) rfl)) (hts _ (List.mem_of_getElem? (i := 17) rfl)) (hts _ (List.mem_of_getElem? (i := 16) rfl)) (hts _ (List.mem_of_getElem? (i := 18) rfl)) okX0_refusalOfShore (qX0_refusalOfShore l D cI cB g 10 T (dt_ L ln (at_ + 1)) (dt_ L ln (at_ + 2)) (nm_ L ln (at_ + 3)) (by show sn_ T ≤ 7; omega)) [2, 3, 4, 5, 6, 7] rfl rfl rfl rfl (by decide) hl.1 rfl rfl (Nat.le_of_ble_eq_true rfl) dX1_refusalOfStatement_100 (by decide) (fun r_47 hr_48 => ?_)
    replace hr_48 : r_47 = rs_ T (dt_ L ln (at_ + 1)) (dt_ L ln (at_ + 2)) (nm_ L ln (at_ + 3)) := hr_48
    subst r_47
    refine rSi hx hb hr hlk ?_ dX1_refusalOfStatement_103
    show (rs_ T (dt_ L ln (at_ + 1)) (dt_ L ln (at_ + 2)) (nm_ L ln (at_ + 3))) = _
    first | exact (rst_s c_13_115).symm | exact (rst_p c_13_112).symm | exact (rst_q c_13_113).symm | exact (rst_i c_13_105).symm | exact (rst_v c_13_118).symm | (exact (rst_h (by rw [c_13_106]; decide) (by rw [c_13_106]; decide) (by rw [c_13_106]; decide) (by rw [c_13_106]; decide) (by rw [c_13_106]; decide) ).symm) | (exact (rst_h (by rw [c_13_107]; decide) (by rw [c_13_107]; decide) (by rw [c_13_107]; decide) (by rw [c_13_107]; decide) (by rw [c_13_107]; decide) ).symm) | (exact (rst_h (by rw [c_13_108]; decide) (by rw [c_13_108]; decide) (by rw [c_13_108]; decide) (by rw [c_13_108]; decide) (by rw [c_13_108]; decide) ).symm) | (exact (rst_h (by rw [c_13_109]; decide) (by rw [c_13_109]; decide) (by rw [c_13_109]; decide) (by rw [c_13_109]; decide) (by rw [c_13_109]; decide) ).symm) | (exact (rst_h (by rw [c_13_110]; decide) (by rw [c_13_110]; decide) (by rw [c_13_110]; decide) (by rw [c_13_110]; decide) (by rw [c_13_110]; decide) ).symm) | (exact (rst_h (by rw [c_13_111]; decide) (by rw [c_13_111]; decide) (by rw [c_13_111]; decide) (by rw [c_13_111]; decide) (by rw [c_13_111]; decide) ).symm) | (exact (rst_h (by rw [c_13_114]; decide) (by rw [c_13_114]; decide) (by rw [c_13_114]; decide) (by rw [c_13_114]; decide) (by rw [c_13_114]; decide) ).symm) | (exact (rst_h (by rw [c_13_116]; decide) (by rw [c_13_116]; decide) (by rw [c_13_116]; decide) (by rw [c_13_116]; decide) (by rw [c_13_116]; decide) ).symm) | (exact (rst_h (by rw [c_13_117]; decide) (by rw [c_13_117]; decide) (by rw [c_13_117]; decide) (by rw [c_13_117]; decide) (by rw [c_13_117]; decide) ).symm) | exact (rst_h c_13_115 c_13_112 c_13_113 c_13_105 c_13_118 ).symm
  by_cases c_13_116 : la_ L ln at_ = 116
  · refine lv_tableIn (off := 133) (tgt := 146) hx hb dX1_refusalOfStatement_13 (by rw [c_13_116]; decide) (by rw [c_13_116]; decide) (by rw [c_13_116]; rfl) (by decide) ?_
    refine lv_aload_n hx hb dX1_refusalOfStatement_146 rfl (lv_at hl 3 rfl) ?_
    refine lv_aload_n hx hb dX1_refusalOfStatement_147 rfl (lv_at hl 1 rfl) ?_
    refine lv_iload_n hx hb dX1_refusalOfStatement_148 rfl (lv_at hl 2 rfl) ?_
    refine lv_iconst (v := 1) hx hb dX1_refusalOfStatement_149 (by decide) ?_
    refine lv_iadd hx hb dX1_refusalOfStatement_150 ?_
    refine sti (x := (nI at_) + 1) (y := nI (at_ + 1)) (nI_1 _) ?_
    refine kSiV hx hb hml hown hts hK hP gX1_refusalOfStatement_X1_numberAt okX1_numberAt (qX1_numberAt l D cI cB g L ln (at_ + 1) (by omega) (by omega)) [0, 1] rfl rfl rfl rfl (by decide) hl.1 rfl rfl (Nat.le_of_ble_eq_true rfl) dX1_refusalOfStatement_151 (by decide) (fun r_49 hr_50 => ?_)
    replace hr_50 : r_49 = nm_ L ln (at_ + 1) := hr_50
    subst r_49
    refine kSiN hx hb hml hown hts hK hP gX1_refusalOfStatement_X0_refusalOfHours_n55 (hK.2 _ (List.mem_of_getElem? (i := 43) rfl)) (hts _ (List.mem_of_getElem? (i := 17) rfl)) (hts _ (List.mem_of_getElem? (i := 44) rfl)) (hts _ (List.mem_of_getElem? (i := 45) rfl)) okX0_refusalOfHours (qX0_refusalOfHours l D cI cB g 10 T (nm_ L ln (at_ + 1)) (by show sn_ T ≤ 7; omega)) [2, 3, 4, 5, 6, 7] rfl rfl rfl rfl (by decide) hl.1 rfl rfl (Nat.le_of_ble_eq_true rfl) dX1_refusalOfStatement_154 (by decide) (fun r_51 hr_52 => ?_)
    replace hr_52 : r_51 = rh_ T (nm_ L ln (at_ + 1)) := hr_52
    subst r_51
    refine rSi hx hb hr hlk ?_ dX1_refusalOfStatement_157
    show (rh_ T (nm_ L ln (at_ + 1))) = _
    first | exact (rst_s c_13_115).symm | exact (rst_p c_13_112).symm | exact (rst_q c_13_113).symm | exact (rst_i c_13_105).symm | exact (rst_v c_13_118).symm | (exact (rst_h (by rw [c_13_106]; decide) (by rw [c_13_106]; decide) (by rw [c_13_106]; decide) (by rw [c_13_106]; decide) (by rw [c_13_106]; decide) ).symm) | (exact (rst_h (by rw [c_13_107]; decide) (by rw [c_13_107]; decide) (by rw [c_13_107]; decide) (by rw [c_13_107]; decide) (by rw [c_13_107]; decide) ).symm) | (exact (rst_h (by rw [c_13_108]; decide) (by rw [c_13_108]; decide) (by rw [c_13_108]; decide) (by rw [c_13_108]; decide) (by rw [c_13_108]; decide) ).symm) | (exact (rst_h (by rw [c_13_109]; decide) (by rw [c_13_109]; decide) (by rw [c_13_109]; decide) (by rw [c_13_109]; decide) (by rw [c_13_109]; decide) ).symm) | (exact (rst_h (by rw [c_13_110]; decide) (by rw [c_13_110]; decide) (by rw [c_13_110]; decide) (by rw [c_13_110]; decide) (by rw [c_13_110]; decide) ).symm) | (exact (rst_h (by rw [c_13_111]; decide) (by rw [c_13_111]; decide) (by rw [c_13_111]; decide) (by rw [c_13_111]; decide) (by rw [c_13_111]; decide) ).symm) | (exact (rst_h (by rw [c_13_114]; decide) (by rw [c_13_114]; decide) (by rw [c_13_114]; decide) (by rw [c_13_114]; decide) (by rw [c_13_114]; decide) ).symm) | (exact (rst_h (by rw [c_13_116]; decide) (by rw [c_13_116]; decide) (by rw [c_13_116]; decide) (by rw [c_13_116]; decide) (by rw [c_13_116]; decide) ).symm) | (exact (rst_h (by rw [c_13_117]; decide) (by rw [c_13_117]; decide) (by rw [c_13_117]; decide) (by rw [c_13_117]; decide) (by rw [c_13_117]; decide) ).symm) | exact (rst_h c_13_115 c_13_112 c_13_113 c_13_105 c_13_118 ).symm
  by_cases c_13_117 : la_ L ln at_ = 117
  · refine lv_tableIn (off := 133) (tgt := 146) hx hb dX1_refusalOfStatement_13 (by rw [c_13_117]; decide) (by rw [c_13_117]; decide) (by rw [c_13_117]; rfl) (by decide) ?_
    refine lv_aload_n hx hb dX1_refusalOfStatement_146 rfl (lv_at hl 3 rfl) ?_
    refine lv_aload_n hx hb dX1_refusalOfStatement_147 rfl (lv_at hl 1 rfl) ?_
    refine lv_iload_n hx hb dX1_refusalOfStatement_148 rfl (lv_at hl 2 rfl) ?_
    refine lv_iconst (v := 1) hx hb dX1_refusalOfStatement_149 (by decide) ?_
    refine lv_iadd hx hb dX1_refusalOfStatement_150 ?_
    refine sti (x := (nI at_) + 1) (y := nI (at_ + 1)) (nI_1 _) ?_
    refine kSiV hx hb hml hown hts hK hP gX1_refusalOfStatement_X1_numberAt okX1_numberAt (qX1_numberAt l D cI cB g L ln (at_ + 1) (by omega) (by omega)) [0, 1] rfl rfl rfl rfl (by decide) hl.1 rfl rfl (Nat.le_of_ble_eq_true rfl) dX1_refusalOfStatement_151 (by decide) (fun r_53 hr_54 => ?_)
    replace hr_54 : r_53 = nm_ L ln (at_ + 1) := hr_54
    subst r_53
    refine kSiN hx hb hml hown hts hK hP gX1_refusalOfStatement_X0_refusalOfHours_n55 (hK.2 _ (List.mem_of_getElem? (i := 43) rfl)) (hts _ (List.mem_of_getElem? (i := 17) rfl)) (hts _ (List.mem_of_getElem? (i := 44) rfl)) (hts _ (List.mem_of_getElem? (i := 45) rfl)) okX0_refusalOfHours (qX0_refusalOfHours l D cI cB g 10 T (nm_ L ln (at_ + 1)) (by show sn_ T ≤ 7; omega)) [2, 3, 4, 5, 6, 7] rfl rfl rfl rfl (by decide) hl.1 rfl rfl (Nat.le_of_ble_eq_true rfl) dX1_refusalOfStatement_154 (by decide) (fun r_55 hr_56 => ?_)
    replace hr_56 : r_55 = rh_ T (nm_ L ln (at_ + 1)) := hr_56
    subst r_55
    refine rSi hx hb hr hlk ?_ dX1_refusalOfStatement_157
    show (rh_ T (nm_ L ln (at_ + 1))) = _
    first | exact (rst_s c_13_115).symm | exact (rst_p c_13_112).symm | exact (rst_q c_13_113).symm | exact (rst_i c_13_105).symm | exact (rst_v c_13_118).symm | (exact (rst_h (by rw [c_13_106]; decide) (by rw [c_13_106]; decide) (by rw [c_13_106]; decide) (by rw [c_13_106]; decide) (by rw [c_13_106]; decide) ).symm) | (exact (rst_h (by rw [c_13_107]; decide) (by rw [c_13_107]; decide) (by rw [c_13_107]; decide) (by rw [c_13_107]; decide) (by rw [c_13_107]; decide) ).symm) | (exact (rst_h (by rw [c_13_108]; decide) (by rw [c_13_108]; decide) (by rw [c_13_108]; decide) (by rw [c_13_108]; decide) (by rw [c_13_108]; decide) ).symm) | (exact (rst_h (by rw [c_13_109]; decide) (by rw [c_13_109]; decide) (by rw [c_13_109]; decide) (by rw [c_13_109]; decide) (by rw [c_13_109]; decide) ).symm) | (exact (rst_h (by rw [c_13_110]; decide) (by rw [c_13_110]; decide) (by rw [c_13_110]; decide) (by rw [c_13_110]; decide) (by rw [c_13_110]; decide) ).symm) | (exact (rst_h (by rw [c_13_111]; decide) (by rw [c_13_111]; decide) (by rw [c_13_111]; decide) (by rw [c_13_111]; decide) (by rw [c_13_111]; decide) ).symm) | (exact (rst_h (by rw [c_13_114]; decide) (by rw [c_13_114]; decide) (by rw [c_13_114]; decide) (by rw [c_13_114]; decide) (by rw [c_13_114]; decide) ).symm) | (exact (rst_h (by rw [c_13_116]; decide) (by rw [c_13_116]; decide) (by rw [c_13_116]; decide) (by rw [c_13_116]; decide) (by rw [c_13_116]; decide) ).symm) | (exact (rst_h (by rw [c_13_117]; decide) (by rw [c_13_117]; decide) (by rw [c_13_117]; decide) (by rw [c_13_117]; decide) (by rw [c_13_117]; decide) ).symm) | exact (rst_h c_13_115 c_13_112 c_13_113 c_13_105 c_13_118 ).symm
  by_cases c_13_118 : la_ L ln at_ = 118
  · refine lv_tableIn (off := 126) (tgt := 139) hx hb dX1_refusalOfStatement_13 (by rw [c_13_118]; decide) (by rw [c_13_118]; decide) (by rw [c_13_118]; rfl) (by decide) ?_
    refine lv_aload_n hx hb dX1_refusalOfStatement_139 rfl (lv_at hl 3 rfl) ?_
    refine lv_iconst (v := 1) hx hb dX1_refusalOfStatement_140 (by decide) ?_
    refine lv_iload_n hx hb dX1_refusalOfStatement_141 rfl (lv_at hl 0 rfl) ?_
    refine kSiN hx hb hml hown hts hK hP gX1_refusalOfStatement_X0_refusalOfIsle_n52 (hK.2 _ (List.mem_of_getElem? (i := 41) rfl)) (hts _ (List.mem_of_getElem? (i := 17) rfl)) (hts _ (List.mem_of_getElem? (i := 39) rfl)) (hts _ (List.mem_of_getElem? (i := 40) rfl)) okX0_refusalOfIsle (qX0_refusalOfIsle l D cI cB g 10 T 1 (dt_ L ln (at_ + 1)) (by show sn_ T ≤ 7; omega)) [2, 3, 4, 5, 6, 7] rfl rfl rfl rfl (by decide) hl.1 rfl rfl (Nat.le_of_ble_eq_true rfl) dX1_refusalOfStatement_142 (by decide) (fun r_57 hr_58 => ?_)
    replace hr_58 : r_57 = f2_ (uk_ 1 1) (if 1 = 0 then ob_ (dt_ L ln (at_ + 1)) 0 30 else ob_ (dt_ L ln (at_ + 1)) 1 5) := hr_58
    subst r_57
    refine rSi hx hb hr hlk ?_ dX1_refusalOfStatement_145
    show (f2_ (uk_ 1 1) (if 1 = 0 then ob_ (dt_ L ln (at_ + 1)) 0 30 else ob_ (dt_ L ln (at_ + 1)) 1 5)) = _
    first | exact (rst_s c_13_115).symm | exact (rst_p c_13_112).symm | exact (rst_q c_13_113).symm | exact (rst_i c_13_105).symm | exact (rst_v c_13_118).symm | (exact (rst_h (by rw [c_13_106]; decide) (by rw [c_13_106]; decide) (by rw [c_13_106]; decide) (by rw [c_13_106]; decide) (by rw [c_13_106]; decide) ).symm) | (exact (rst_h (by rw [c_13_107]; decide) (by rw [c_13_107]; decide) (by rw [c_13_107]; decide) (by rw [c_13_107]; decide) (by rw [c_13_107]; decide) ).symm) | (exact (rst_h (by rw [c_13_108]; decide) (by rw [c_13_108]; decide) (by rw [c_13_108]; decide) (by rw [c_13_108]; decide) (by rw [c_13_108]; decide) ).symm) | (exact (rst_h (by rw [c_13_109]; decide) (by rw [c_13_109]; decide) (by rw [c_13_109]; decide) (by rw [c_13_109]; decide) (by rw [c_13_109]; decide) ).symm) | (exact (rst_h (by rw [c_13_110]; decide) (by rw [c_13_110]; decide) (by rw [c_13_110]; decide) (by rw [c_13_110]; decide) (by rw [c_13_110]; decide) ).symm) | (exact (rst_h (by rw [c_13_111]; decide) (by rw [c_13_111]; decide) (by rw [c_13_111]; decide) (by rw [c_13_111]; decide) (by rw [c_13_111]; decide) ).symm) | (exact (rst_h (by rw [c_13_114]; decide) (by rw [c_13_114]; decide) (by rw [c_13_114]; decide) (by rw [c_13_114]; decide) (by rw [c_13_114]; decide) ).symm) | (exact (rst_h (by rw [c_13_116]; decide) (by rw [c_13_116]; decide) (by rw [c_13_116]; decide) (by rw [c_13_116]; decide) (by rw [c_13_116]; decide) ).symm) | (exact (rst_h (by rw [c_13_117]; decide) (by rw [c_13_117]; decide) (by rw [c_13_117]; decide) (by rw [c_13_117]; decide) (by rw [c_13_117]; decide) ).symm) | exact (rst_h c_13_115 c_13_112 c_13_113 c_13_105 c_13_118 ).symm
  refine lv_tableOut (tgt := 146) hx hb dX1_refusalOfStatement_13 (by have t0 := lv_neT c_13_105 (a := 105) (by decide); have t1 := lv_neT c_13_106 (a := 106) (by decide); have t2 := lv_neT c_13_107 (a := 107) (by decide); have t3 := lv_neT c_13_108 (a := 108) (by decide); have t4 := lv_neT c_13_109 (a := 109) (by decide); have t5 := lv_neT c_13_110 (a := 110) (by decide); have t6 := lv_neT c_13_111 (a := 111) (by decide); have t7 := lv_neT c_13_112 (a := 112) (by decide); have t8 := lv_neT c_13_113 (a := 113) (by decide); have t9 := lv_neT c_13_114 (a := 114) (by decide); have t10 := lv_neT c_13_115 (a := 115) (by decide); have t11 := lv_neT c_13_116 (a := 116) (by decide); have t12 := lv_neT c_13_117 (a := 117) (by decide); have t13 := lv_neT c_13_118 (a := 118) (by decide); omega) (by decide) ?_
  refine lv_aload_n hx hb dX1_refusalOfStatement_146 rfl (lv_at hl 3 rfl) ?_
  refine lv_aload_n hx hb dX1_refusalOfStatement_147 rfl (lv_at hl 1 rfl) ?_
  refine lv_iload_n hx hb dX1_refusalOfStatement_148 rfl (lv_at hl 2 rfl) ?_
  refine lv_iconst (v := 1) hx hb dX1_refusalOfStatement_149 (by decide) ?_
  refine lv_iadd hx hb dX1_refusalOfStatement_150 ?_
  refine sti (x := (nI at_) + 1) (y := nI (at_ + 1)) (nI_1 _) ?_
  refine kSiV hx hb hml hown hts hK hP gX1_refusalOfStatement_X1_numberAt okX1_numberAt (qX1_numberAt l D cI cB g L ln (at_ + 1) (by omega) (by omega)) [0, 1] rfl rfl rfl rfl (by decide) hl.1 rfl rfl (Nat.le_of_ble_eq_true rfl) dX1_refusalOfStatement_151 (by decide) (fun r_59 hr_60 => ?_)
  replace hr_60 : r_59 = nm_ L ln (at_ + 1) := hr_60
  subst r_59
  refine kSiN hx hb hml hown hts hK hP gX1_refusalOfStatement_X0_refusalOfHours_n55 (hK.2 _ (List.mem_of_getElem? (i := 43) rfl)) (hts _ (List.mem_of_getElem? (i := 17) rfl)) (hts _ (List.mem_of_getElem? (i := 44) rfl)) (hts _ (List.mem_of_getElem? (i := 45) rfl)) okX0_refusalOfHours (qX0_refusalOfHours l D cI cB g 10 T (nm_ L ln (at_ + 1)) (by show sn_ T ≤ 7; omega)) [2, 3, 4, 5, 6, 7] rfl rfl rfl rfl (by decide) hl.1 rfl rfl (Nat.le_of_ble_eq_true rfl) dX1_refusalOfStatement_154 (by decide) (fun r_61 hr_62 => ?_)
  replace hr_62 : r_61 = rh_ T (nm_ L ln (at_ + 1)) := hr_62
  subst r_61
  refine rSi hx hb hr hlk ?_ dX1_refusalOfStatement_157
  show (rh_ T (nm_ L ln (at_ + 1))) = _
  first | exact (rst_s c_13_115).symm | exact (rst_p c_13_112).symm | exact (rst_q c_13_113).symm | exact (rst_i c_13_105).symm | exact (rst_v c_13_118).symm | (exact (rst_h (by rw [c_13_106]; decide) (by rw [c_13_106]; decide) (by rw [c_13_106]; decide) (by rw [c_13_106]; decide) (by rw [c_13_106]; decide) ).symm) | (exact (rst_h (by rw [c_13_107]; decide) (by rw [c_13_107]; decide) (by rw [c_13_107]; decide) (by rw [c_13_107]; decide) (by rw [c_13_107]; decide) ).symm) | (exact (rst_h (by rw [c_13_108]; decide) (by rw [c_13_108]; decide) (by rw [c_13_108]; decide) (by rw [c_13_108]; decide) (by rw [c_13_108]; decide) ).symm) | (exact (rst_h (by rw [c_13_109]; decide) (by rw [c_13_109]; decide) (by rw [c_13_109]; decide) (by rw [c_13_109]; decide) (by rw [c_13_109]; decide) ).symm) | (exact (rst_h (by rw [c_13_110]; decide) (by rw [c_13_110]; decide) (by rw [c_13_110]; decide) (by rw [c_13_110]; decide) (by rw [c_13_110]; decide) ).symm) | (exact (rst_h (by rw [c_13_111]; decide) (by rw [c_13_111]; decide) (by rw [c_13_111]; decide) (by rw [c_13_111]; decide) (by rw [c_13_111]; decide) ).symm) | (exact (rst_h (by rw [c_13_114]; decide) (by rw [c_13_114]; decide) (by rw [c_13_114]; decide) (by rw [c_13_114]; decide) (by rw [c_13_114]; decide) ).symm) | (exact (rst_h (by rw [c_13_116]; decide) (by rw [c_13_116]; decide) (by rw [c_13_116]; decide) (by rw [c_13_116]; decide) (by rw [c_13_116]; decide) ).symm) | (exact (rst_h (by rw [c_13_117]; decide) (by rw [c_13_117]; decide) (by rw [c_13_117]; decide) (by rw [c_13_117]; decide) (by rw [c_13_117]; decide) ).symm) | exact (rst_h c_13_115 c_13_112 c_13_113 c_13_105 c_13_118 ).symm

theorem okX1_carryOut : jok yX1_carryOut wsX1_carryOut cX1_carryOut 4 none 2 := ⟨⟨_, rfl⟩, by decide +kernel, by decide +kernel⟩
set_option maxHeartbeats 1000000 in
set_option maxRecDepth 100000 in
theorem qX1_carryOut (l : Launch) (D : va_G) (cI cB : ClassId) (g : Nat → Nat) (L : Nat → Int32) (ln : Nat) (T : BayT) (at_ : Nat) (hln : ln ≤ 96) (hT7 : sn_ T ≤ 7) (hat : at_ ≤ 290) (h0 : rst_ L ln at_ T = 0) : jMv D cI cB l yX1_carryOut wsX1_carryOut 5 [.ref (g 18), .int (nI at_), .ref (g 10)] (lW cI g L ln ++ bW cI g 10 T) (S := BayT) (fun u => u = cst_ L ln at_ T) (fun u => lW cI g L ln ++ bW cI g 10 u) := by
  refine jMv.of (cc := cX1_carryOut) (maxL := 4) (ret := none) okX1_carryOut (Nat.le_of_ble_eq_true rfl) ?_
  intro p e s m below meth c ls A hx hb hr hts hown hlk hml hP hK hD hA hS hl
  replace hown : s.vm.findClass RX1 = some m.cls := hown
  replace hl : lv_has ls 4 [(0, .ref (g 18)), (1, .int (nI at_)), (2, .ref (g 10))] := hl
  refine lv_aload_n hx hb dX1_carryOut_0 rfl (lv_at hl 0 rfl) ?_
  refine lv_iload_n hx hb dX1_carryOut_1 rfl (lv_at hl 1 rfl) ?_
  refine lv_iconst (v := 1) hx hb dX1_carryOut_2 (by decide) ?_
  refine lv_iadd hx hb dX1_carryOut_3 ?_
  refine sti (x := (nI at_) + 1) (y := nI (at_ + 1)) (nI_1 _) ?_
  refine kSiV hx hb hml hown hts hK hP gX1_carryOut_X1_digitAt okX1_digitAt (qX1_digitAt l D cI cB g L ln (at_ + 1) (by omega) (by omega)) [0, 1] rfl rfl rfl rfl (by decide) hl.1 rfl rfl (Nat.le_of_ble_eq_true rfl) dX1_carryOut_4 (by decide) (fun r_1 hr_2 => ?_)
  replace hr_2 : r_1 = dt_ L ln (at_ + 1) := hr_2
  subst r_1
  refine lv_istore_n (lv' := [(3, .int (dt_ L ln (at_ + 1))), (0, .ref (g 18)), (1, .int (nI at_)), (2, .ref (g 10))]) hx hb dX1_carryOut_7 rfl hl (by decide) rfl (fun ls hl => ?_)
  refine lv_aload_n hx hb dX1_carryOut_8 rfl (lv_at hl 1 rfl) ?_
  refine lv_iload_n hx hb dX1_carryOut_9 rfl (lv_at hl 2 rfl) ?_
  refine kSiV hx hb hml hown hts hK hP gX1_carryOut_X1_letterAt okX1_letterAt (qX1_letterAt l D cI cB g L ln at_ (by omega) (by omega)) [0, 1] rfl rfl rfl rfl (by decide) hl.1 rfl rfl (Nat.le_of_ble_eq_true rfl) dX1_carryOut_10 (by decide) (fun r_3 hr_4 => ?_)
  replace hr_4 : r_3 = la_ L ln at_ := hr_4
  subst r_3
  by_cases c_13_105 : la_ L ln at_ = 105
  · refine lv_tableIn (off := 116) (tgt := 129) hx hb dX1_carryOut_13 (by rw [c_13_105]; decide) (by rw [c_13_105]; decide) (by rw [c_13_105]; rfl) (by decide) ?_
    refine lv_aload_n hx hb dX1_carryOut_129 rfl (lv_at hl 3 rfl) ?_
    refine lv_iconst (v := 0) hx hb dX1_carryOut_130 (by decide) ?_
    refine lv_aload_n hx hb dX1_carryOut_131 rfl (lv_at hl 1 rfl) ?_
    refine lv_iload_n hx hb dX1_carryOut_132 rfl (lv_at hl 2 rfl) ?_
    refine lv_iconst (v := 1) hx hb dX1_carryOut_133 (by decide) ?_
    refine lv_iadd hx hb dX1_carryOut_134 ?_
    refine sti (x := (nI at_) + 1) (y := nI (at_ + 1)) (nI_1 _) ?_
    refine kSiV hx hb hml hown hts hK hP gX1_carryOut_X1_numberAt okX1_numberAt (qX1_numberAt l D cI cB g L ln (at_ + 1) (by omega) (by omega)) [0, 1] rfl rfl rfl rfl (by decide) hl.1 rfl rfl (Nat.le_of_ble_eq_true rfl) dX1_carryOut_135 (by decide) (fun r_5 hr_6 => ?_)
    replace hr_6 : r_5 = nm_ L ln (at_ + 1) := hr_6
    subst r_5
    refine kMvN hx hb hml hown hts hK hP hD hA hS gX1_carryOut_X0_setIsle_n70 (hK.2 _ (List.mem_of_getElem? (i := 48) rfl)) (hts _ (List.mem_of_getElem? (i := 17) rfl)) (hts _ (List.mem_of_getElem? (i := 33) rfl)) (hts _ (List.mem_of_getElem? (i := 34) rfl)) okX0_setIsle (qX0_setIsle l D cI cB g 10 T 0 (nm_ L ln (at_ + 1)) (by show sn_ T ≤ 7; omega)) [2, 3, 4, 5, 6, 7] rfl (by decide) (fun _ => rfl) rfl rfl rfl (by decide) hl.1 rfl rfl (Nat.le_of_ble_eq_true rfl) dX1_carryOut_138 (by decide) (fun u_8 H locs hw_9 hP hD hS => ?_)
    replace hw_9 : u_8 = uv_ T 0 (nm_ L ln (at_ + 1)) := hw_9
    subst u_8
    replace hP : va_P D vwCl (lW cI g L ln ++ bW cI g 10 (uv_ T 0 (nm_ L ln (at_ + 1)))) H := (va_P.m [false, false, true, true, true, true, true, true] [] hP)
    replace hD : va_D A (lW cI g L ln ++ bW cI g 10 (uv_ T 0 (nm_ L ln (at_ + 1)))) := (va_D.m [false, false, true, true, true, true, true, true] [] hD)
    refine lv_goto (tgt := 164) hx hb dX1_carryOut_141 (by decide) ?_
    refine rMv hx hb hr hlk hS (uv_ T 0 (nm_ L ln (at_ + 1))) hP ?_ dX1_carryOut_164
    first | exact (cst_s c_13_115).symm | exact (cst_p c_13_112 e_ (by omega)).symm | exact (cst_q c_13_113 e_ (by omega)).symm | exact (cst_i c_13_105).symm | exact (cst_v c_13_118).symm | (exact (cst_h (by rw [c_13_106]; decide) (by rw [c_13_106]; decide) (by rw [c_13_106]; decide) (by rw [c_13_106]; decide) (by rw [c_13_106]; decide) e_ (by omega)).symm) | (exact (cst_h (by rw [c_13_107]; decide) (by rw [c_13_107]; decide) (by rw [c_13_107]; decide) (by rw [c_13_107]; decide) (by rw [c_13_107]; decide) e_ (by omega)).symm) | (exact (cst_h (by rw [c_13_108]; decide) (by rw [c_13_108]; decide) (by rw [c_13_108]; decide) (by rw [c_13_108]; decide) (by rw [c_13_108]; decide) e_ (by omega)).symm) | (exact (cst_h (by rw [c_13_109]; decide) (by rw [c_13_109]; decide) (by rw [c_13_109]; decide) (by rw [c_13_109]; decide) (by rw [c_13_109]; decide) e_ (by omega)).symm) | (exact (cst_h (by rw [c_13_110]; decide) (by rw [c_13_110]; decide) (by rw [c_13_110]; decide) (by rw [c_13_110]; decide) (by rw [c_13_110]; decide) e_ (by omega)).symm) | (exact (cst_h (by rw [c_13_111]; decide) (by rw [c_13_111]; decide) (by rw [c_13_111]; decide) (by rw [c_13_111]; decide) (by rw [c_13_111]; decide) e_ (by omega)).symm) | (exact (cst_h (by rw [c_13_114]; decide) (by rw [c_13_114]; decide) (by rw [c_13_114]; decide) (by rw [c_13_114]; decide) (by rw [c_13_114]; decide) e_ (by omega)).symm) | (exact (cst_h (by rw [c_13_116]; decide) (by rw [c_13_116]; decide) (by rw [c_13_116]; decide) (by rw [c_13_116]; decide) (by rw [c_13_116]; decide) e_ (by omega)).symm) | (exact (cst_h (by rw [c_13_117]; decide) (by rw [c_13_117]; decide) (by rw [c_13_117]; decide) (by rw [c_13_117]; decide) (by rw [c_13_117]; decide) e_ (by omega)).symm) | exact (cst_h c_13_115 c_13_112 c_13_113 c_13_105 c_13_118 e_ (by omega)).symm
  by_cases c_13_106 : la_ L ln at_ = 106
  · refine lv_tableIn (off := 140) (tgt := 153) hx hb dX1_carryOut_13 (by rw [c_13_106]; decide) (by rw [c_13_106]; decide) (by rw [c_13_106]; rfl) (by decide) ?_
    refine lv_aload_n hx hb dX1_carryOut_153 rfl (lv_at hl 3 rfl) ?_
    refine lv_aload_n hx hb dX1_carryOut_154 rfl (lv_at hl 1 rfl) ?_
    refine lv_iload_n hx hb dX1_carryOut_155 rfl (lv_at hl 2 rfl) ?_
    refine lv_iconst (v := 1) hx hb dX1_carryOut_156 (by decide) ?_
    refine lv_iadd hx hb dX1_carryOut_157 ?_
    refine sti (x := (nI at_) + 1) (y := nI (at_ + 1)) (nI_1 _) ?_
    refine kSiV hx hb hml hown hts hK hP gX1_carryOut_X1_numberAt okX1_numberAt (qX1_numberAt l D cI cB g L ln (at_ + 1) (by omega) (by omega)) [0, 1] rfl rfl rfl rfl (by decide) hl.1 rfl rfl (Nat.le_of_ble_eq_true rfl) dX1_carryOut_158 (by decide) (fun r_10 hr_11 => ?_)
    replace hr_11 : r_10 = nm_ L ln (at_ + 1) := hr_11
    subst r_10
    obtain ⟨k_, hk_, e_⟩ : ∃ k, k ≤ 99 ∧ nm_ L ln (at_ + 1) = nI k := by first | (have h9 := h0; rw [rst_h (by rw [c_13_106]; decide) (by rw [c_13_106]; decide) (by rw [c_13_106]; decide) (by rw [c_13_106]; decide) (by rw [c_13_106]; decide)] at h9; exact rh_k h9) | (have h9 := h0; rw [rst_h (by rw [c_13_107]; decide) (by rw [c_13_107]; decide) (by rw [c_13_107]; decide) (by rw [c_13_107]; decide) (by rw [c_13_107]; decide)] at h9; exact rh_k h9) | (have h9 := h0; rw [rst_h (by rw [c_13_108]; decide) (by rw [c_13_108]; decide) (by rw [c_13_108]; decide) (by rw [c_13_108]; decide) (by rw [c_13_108]; decide)] at h9; exact rh_k h9) | (have h9 := h0; rw [rst_h (by rw [c_13_109]; decide) (by rw [c_13_109]; decide) (by rw [c_13_109]; decide) (by rw [c_13_109]; decide) (by rw [c_13_109]; decide)] at h9; exact rh_k h9) | (have h9 := h0; rw [rst_h (by rw [c_13_110]; decide) (by rw [c_13_110]; decide) (by rw [c_13_110]; decide) (by rw [c_13_110]; decide) (by rw [c_13_110]; decide)] at h9; exact rh_k h9) | (have h9 := h0; rw [rst_h (by rw [c_13_111]; decide) (by rw [c_13_111]; decide) (by rw [c_13_111]; decide) (by rw [c_13_111]; decide) (by rw [c_13_111]; decide)] at h9; exact rh_k h9) | (have h9 := h0; rw [rst_h (by rw [c_13_114]; decide) (by rw [c_13_114]; decide) (by rw [c_13_114]; decide) (by rw [c_13_114]; decide) (by rw [c_13_114]; decide)] at h9; exact rh_k h9) | (have h9 := h0; rw [rst_h (by rw [c_13_116]; decide) (by rw [c_13_116]; decide) (by rw [c_13_116]; decide) (by rw [c_13_116]; decide) (by rw [c_13_116]; decide)] at h9; exact rh_k h9) | (have h9 := h0; rw [rst_h (by rw [c_13_117]; decide) (by rw [c_13_117]; decide) (by rw [c_13_117]; decide) (by rw [c_13_117]; decide) (by rw [c_13_117]; decide)] at h9; exact rh_k h9) | (have h9 := h0; rw [rst_h c_13_115 c_13_112 c_13_113 c_13_105 c_13_118] at h9; exact rh_k h9)
    refine sti (x := nm_ L ln (at_ + 1)) (y := nI k_) (e_) ?_
    refine kMvN hx hb hml hown hts hK hP hD hA hS gX1_carryOut_X0_passHours_n73 (hK.2 _ (List.mem_of_getElem? (i := 49) rfl)) (hts _ (List.mem_of_getElem? (i := 17) rfl)) (hts _ (List.mem_of_getElem? (i := 38) rfl)) (hts _ (List.mem_of_getElem? (i := 39) rfl)) okX0_passHours (qX0_passHours l D cI cB g 10 T k_ (by show sn_ T ≤ 7; omega) (by omega)) [2, 3, 4, 5, 6, 7] rfl (by decide) (fun _ => rfl) rfl rfl rfl (by decide) hl.1 rfl rfl (Nat.le_of_ble_eq_true rfl) dX1_carryOut_161 (by decide) (fun u_13 H locs hw_14 hP hD hS => ?_)
    replace hw_14 : u_13 = hs_ k_ T := hw_14
    subst u_13
    replace hP : va_P D vwCl (lW cI g L ln ++ bW cI g 10 (hs_ k_ T)) H := (va_P.m [false, false, true, true, true, true, true, true] [] hP)
    replace hD : va_D A (lW cI g L ln ++ bW cI g 10 (hs_ k_ T)) := (va_D.m [false, false, true, true, true, true, true, true] [] hD)
    refine rMv hx hb hr hlk hS (hs_ k_ T) hP ?_ dX1_carryOut_164
    first | exact (cst_s c_13_115).symm | exact (cst_p c_13_112 e_ (by omega)).symm | exact (cst_q c_13_113 e_ (by omega)).symm | exact (cst_i c_13_105).symm | exact (cst_v c_13_118).symm | (exact (cst_h (by rw [c_13_106]; decide) (by rw [c_13_106]; decide) (by rw [c_13_106]; decide) (by rw [c_13_106]; decide) (by rw [c_13_106]; decide) e_ (by omega)).symm) | (exact (cst_h (by rw [c_13_107]; decide) (by rw [c_13_107]; decide) (by rw [c_13_107]; decide) (by rw [c_13_107]; decide) (by rw [c_13_107]; decide) e_ (by omega)).symm) | (exact (cst_h (by rw [c_13_108]; decide) (by rw [c_13_108]; decide) (by rw [c_13_108]; decide) (by rw [c_13_108]; decide) (by rw [c_13_108]; decide) e_ (by omega)).symm) | (exact (cst_h (by rw [c_13_109]; decide) (by rw [c_13_109]; decide) (by rw [c_13_109]; decide) (by rw [c_13_109]; decide) (by rw [c_13_109]; decide) e_ (by omega)).symm) | (exact (cst_h (by rw [c_13_110]; decide) (by rw [c_13_110]; decide) (by rw [c_13_110]; decide) (by rw [c_13_110]; decide) (by rw [c_13_110]; decide) e_ (by omega)).symm) | (exact (cst_h (by rw [c_13_111]; decide) (by rw [c_13_111]; decide) (by rw [c_13_111]; decide) (by rw [c_13_111]; decide) (by rw [c_13_111]; decide) e_ (by omega)).symm) | (exact (cst_h (by rw [c_13_114]; decide) (by rw [c_13_114]; decide) (by rw [c_13_114]; decide) (by rw [c_13_114]; decide) (by rw [c_13_114]; decide) e_ (by omega)).symm) | (exact (cst_h (by rw [c_13_116]; decide) (by rw [c_13_116]; decide) (by rw [c_13_116]; decide) (by rw [c_13_116]; decide) (by rw [c_13_116]; decide) e_ (by omega)).symm) | (exact (cst_h (by rw [c_13_117]; decide) (by rw [c_13_117]; decide) (by rw [c_13_117]; decide) (by rw [c_13_117]; decide) (by rw [c_13_117]; decide) e_ (by omega)).symm) | exact (cst_h c_13_115 c_13_112 c_13_113 c_13_105 c_13_118 e_ (by omega)).symm
  by_cases c_13_107 : la_ L ln at_ = 107
  · refine lv_tableIn (off := 140) (tgt := 153) hx hb dX1_carryOut_13 (by rw [c_13_107]; decide) (by rw [c_13_107]; decide) (by rw [c_13_107]; rfl) (by decide) ?_
    refine lv_aload_n hx hb dX1_carryOut_153 rfl (lv_at hl 3 rfl) ?_
    refine lv_aload_n hx hb dX1_carryOut_154 rfl (lv_at hl 1 rfl) ?_
    refine lv_iload_n hx hb dX1_carryOut_155 rfl (lv_at hl 2 rfl) ?_
    refine lv_iconst (v := 1) hx hb dX1_carryOut_156 (by decide) ?_
    refine lv_iadd hx hb dX1_carryOut_157 ?_
    refine sti (x := (nI at_) + 1) (y := nI (at_ + 1)) (nI_1 _) ?_
    refine kSiV hx hb hml hown hts hK hP gX1_carryOut_X1_numberAt okX1_numberAt (qX1_numberAt l D cI cB g L ln (at_ + 1) (by omega) (by omega)) [0, 1] rfl rfl rfl rfl (by decide) hl.1 rfl rfl (Nat.le_of_ble_eq_true rfl) dX1_carryOut_158 (by decide) (fun r_15 hr_16 => ?_)
    replace hr_16 : r_15 = nm_ L ln (at_ + 1) := hr_16
    subst r_15
    obtain ⟨k_, hk_, e_⟩ : ∃ k, k ≤ 99 ∧ nm_ L ln (at_ + 1) = nI k := by first | (have h9 := h0; rw [rst_h (by rw [c_13_106]; decide) (by rw [c_13_106]; decide) (by rw [c_13_106]; decide) (by rw [c_13_106]; decide) (by rw [c_13_106]; decide)] at h9; exact rh_k h9) | (have h9 := h0; rw [rst_h (by rw [c_13_107]; decide) (by rw [c_13_107]; decide) (by rw [c_13_107]; decide) (by rw [c_13_107]; decide) (by rw [c_13_107]; decide)] at h9; exact rh_k h9) | (have h9 := h0; rw [rst_h (by rw [c_13_108]; decide) (by rw [c_13_108]; decide) (by rw [c_13_108]; decide) (by rw [c_13_108]; decide) (by rw [c_13_108]; decide)] at h9; exact rh_k h9) | (have h9 := h0; rw [rst_h (by rw [c_13_109]; decide) (by rw [c_13_109]; decide) (by rw [c_13_109]; decide) (by rw [c_13_109]; decide) (by rw [c_13_109]; decide)] at h9; exact rh_k h9) | (have h9 := h0; rw [rst_h (by rw [c_13_110]; decide) (by rw [c_13_110]; decide) (by rw [c_13_110]; decide) (by rw [c_13_110]; decide) (by rw [c_13_110]; decide)] at h9; exact rh_k h9) | (have h9 := h0; rw [rst_h (by rw [c_13_111]; decide) (by rw [c_13_111]; decide) (by rw [c_13_111]; decide) (by rw [c_13_111]; decide) (by rw [c_13_111]; decide)] at h9; exact rh_k h9) | (have h9 := h0; rw [rst_h (by rw [c_13_114]; decide) (by rw [c_13_114]; decide) (by rw [c_13_114]; decide) (by rw [c_13_114]; decide) (by rw [c_13_114]; decide)] at h9; exact rh_k h9) | (have h9 := h0; rw [rst_h (by rw [c_13_116]; decide) (by rw [c_13_116]; decide) (by rw [c_13_116]; decide) (by rw [c_13_116]; decide) (by rw [c_13_116]; decide)] at h9; exact rh_k h9) | (have h9 := h0; rw [rst_h (by rw [c_13_117]; decide) (by rw [c_13_117]; decide) (by rw [c_13_117]; decide) (by rw [c_13_117]; decide) (by rw [c_13_117]; decide)] at h9; exact rh_k h9) | (have h9 := h0; rw [rst_h c_13_115 c_13_112 c_13_113 c_13_105 c_13_118] at h9; exact rh_k h9)
    refine sti (x := nm_ L ln (at_ + 1)) (y := nI k_) (e_) ?_
    refine kMvN hx hb hml hown hts hK hP hD hA hS gX1_carryOut_X0_passHours_n73 (hK.2 _ (List.mem_of_getElem? (i := 49) rfl)) (hts _ (List.mem_of_getElem? (i := 17) rfl)) (hts _ (List.mem_of_getElem? (i := 38) rfl)) (hts _ (List.mem_of_getElem? (i := 39) rfl)) okX0_passHours (qX0_passHours l D cI cB g 10 T k_ (by show sn_ T ≤ 7; omega) (by omega)) [2, 3, 4, 5, 6, 7] rfl (by decide) (fun _ => rfl) rfl rfl rfl (by decide) hl.1 rfl rfl (Nat.le_of_ble_eq_true rfl) dX1_carryOut_161 (by decide) (fun u_18 H locs hw_19 hP hD hS => ?_)
    replace hw_19 : u_18 = hs_ k_ T := hw_19
    subst u_18
    replace hP : va_P D vwCl (lW cI g L ln ++ bW cI g 10 (hs_ k_ T)) H := (va_P.m [false, false, true, true, true, true, true, true] [] hP)
    replace hD : va_D A (lW cI g L ln ++ bW cI g 10 (hs_ k_ T)) := (va_D.m [false, false, true, true, true, true, true, true] [] hD)
    refine rMv hx hb hr hlk hS (hs_ k_ T) hP ?_ dX1_carryOut_164
    first | exact (cst_s c_13_115).symm | exact (cst_p c_13_112 e_ (by omega)).symm | exact (cst_q c_13_113 e_ (by omega)).symm | exact (cst_i c_13_105).symm | exact (cst_v c_13_118).symm | (exact (cst_h (by rw [c_13_106]; decide) (by rw [c_13_106]; decide) (by rw [c_13_106]; decide) (by rw [c_13_106]; decide) (by rw [c_13_106]; decide) e_ (by omega)).symm) | (exact (cst_h (by rw [c_13_107]; decide) (by rw [c_13_107]; decide) (by rw [c_13_107]; decide) (by rw [c_13_107]; decide) (by rw [c_13_107]; decide) e_ (by omega)).symm) | (exact (cst_h (by rw [c_13_108]; decide) (by rw [c_13_108]; decide) (by rw [c_13_108]; decide) (by rw [c_13_108]; decide) (by rw [c_13_108]; decide) e_ (by omega)).symm) | (exact (cst_h (by rw [c_13_109]; decide) (by rw [c_13_109]; decide) (by rw [c_13_109]; decide) (by rw [c_13_109]; decide) (by rw [c_13_109]; decide) e_ (by omega)).symm) | (exact (cst_h (by rw [c_13_110]; decide) (by rw [c_13_110]; decide) (by rw [c_13_110]; decide) (by rw [c_13_110]; decide) (by rw [c_13_110]; decide) e_ (by omega)).symm) | (exact (cst_h (by rw [c_13_111]; decide) (by rw [c_13_111]; decide) (by rw [c_13_111]; decide) (by rw [c_13_111]; decide) (by rw [c_13_111]; decide) e_ (by omega)).symm) | (exact (cst_h (by rw [c_13_114]; decide) (by rw [c_13_114]; decide) (by rw [c_13_114]; decide) (by rw [c_13_114]; decide) (by rw [c_13_114]; decide) e_ (by omega)).symm) | (exact (cst_h (by rw [c_13_116]; decide) (by rw [c_13_116]; decide) (by rw [c_13_116]; decide) (by rw [c_13_116]; decide) (by rw [c_13_116]; decide) e_ (by omega)).symm) | (exact (cst_h (by rw [c_13_117]; decide) (by rw [c_13_117]; decide) (by rw [c_13_117]; decide) (by rw [c_13_117]; decide) (by rw [c_13_117]; decide) e_ (by omega)).symm) | exact (cst_h c_13_115 c_13_112 c_13_113 c_13_105 c_13_118 e_ (by omega)).symm
  by_cases c_13_108 : la_ L ln at_ = 108
  · refine lv_tableIn (off := 140) (tgt := 153) hx hb dX1_carryOut_13 (by rw [c_13_108]; decide) (by rw [c_13_108]; decide) (by rw [c_13_108]; rfl) (by decide) ?_
    refine lv_aload_n hx hb dX1_carryOut_153 rfl (lv_at hl 3 rfl) ?_
    refine lv_aload_n hx hb dX1_carryOut_154 rfl (lv_at hl 1 rfl) ?_
    refine lv_iload_n hx hb dX1_carryOut_155 rfl (lv_at hl 2 rfl) ?_
    refine lv_iconst (v := 1) hx hb dX1_carryOut_156 (by decide) ?_
    refine lv_iadd hx hb dX1_carryOut_157 ?_
    refine sti (x := (nI at_) + 1) (y := nI (at_ + 1)) (nI_1 _) ?_
    refine kSiV hx hb hml hown hts hK hP gX1_carryOut_X1_numberAt okX1_numberAt (qX1_numberAt l D cI cB g L ln (at_ + 1) (by omega) (by omega)) [0, 1] rfl rfl rfl rfl (by decide) hl.1 rfl rfl (Nat.le_of_ble_eq_true rfl) dX1_carryOut_158 (by decide) (fun r_20 hr_21 => ?_)
    replace hr_21 : r_20 = nm_ L ln (at_ + 1) := hr_21
    subst r_20
    obtain ⟨k_, hk_, e_⟩ : ∃ k, k ≤ 99 ∧ nm_ L ln (at_ + 1) = nI k := by first | (have h9 := h0; rw [rst_h (by rw [c_13_106]; decide) (by rw [c_13_106]; decide) (by rw [c_13_106]; decide) (by rw [c_13_106]; decide) (by rw [c_13_106]; decide)] at h9; exact rh_k h9) | (have h9 := h0; rw [rst_h (by rw [c_13_107]; decide) (by rw [c_13_107]; decide) (by rw [c_13_107]; decide) (by rw [c_13_107]; decide) (by rw [c_13_107]; decide)] at h9; exact rh_k h9) | (have h9 := h0; rw [rst_h (by rw [c_13_108]; decide) (by rw [c_13_108]; decide) (by rw [c_13_108]; decide) (by rw [c_13_108]; decide) (by rw [c_13_108]; decide)] at h9; exact rh_k h9) | (have h9 := h0; rw [rst_h (by rw [c_13_109]; decide) (by rw [c_13_109]; decide) (by rw [c_13_109]; decide) (by rw [c_13_109]; decide) (by rw [c_13_109]; decide)] at h9; exact rh_k h9) | (have h9 := h0; rw [rst_h (by rw [c_13_110]; decide) (by rw [c_13_110]; decide) (by rw [c_13_110]; decide) (by rw [c_13_110]; decide) (by rw [c_13_110]; decide)] at h9; exact rh_k h9) | (have h9 := h0; rw [rst_h (by rw [c_13_111]; decide) (by rw [c_13_111]; decide) (by rw [c_13_111]; decide) (by rw [c_13_111]; decide) (by rw [c_13_111]; decide)] at h9; exact rh_k h9) | (have h9 := h0; rw [rst_h (by rw [c_13_114]; decide) (by rw [c_13_114]; decide) (by rw [c_13_114]; decide) (by rw [c_13_114]; decide) (by rw [c_13_114]; decide)] at h9; exact rh_k h9) | (have h9 := h0; rw [rst_h (by rw [c_13_116]; decide) (by rw [c_13_116]; decide) (by rw [c_13_116]; decide) (by rw [c_13_116]; decide) (by rw [c_13_116]; decide)] at h9; exact rh_k h9) | (have h9 := h0; rw [rst_h (by rw [c_13_117]; decide) (by rw [c_13_117]; decide) (by rw [c_13_117]; decide) (by rw [c_13_117]; decide) (by rw [c_13_117]; decide)] at h9; exact rh_k h9) | (have h9 := h0; rw [rst_h c_13_115 c_13_112 c_13_113 c_13_105 c_13_118] at h9; exact rh_k h9)
    refine sti (x := nm_ L ln (at_ + 1)) (y := nI k_) (e_) ?_
    refine kMvN hx hb hml hown hts hK hP hD hA hS gX1_carryOut_X0_passHours_n73 (hK.2 _ (List.mem_of_getElem? (i := 49) rfl)) (hts _ (List.mem_of_getElem? (i := 17) rfl)) (hts _ (List.mem_of_getElem? (i := 38) rfl)) (hts _ (List.mem_of_getElem? (i := 39) rfl)) okX0_passHours (qX0_passHours l D cI cB g 10 T k_ (by show sn_ T ≤ 7; omega) (by omega)) [2, 3, 4, 5, 6, 7] rfl (by decide) (fun _ => rfl) rfl rfl rfl (by decide) hl.1 rfl rfl (Nat.le_of_ble_eq_true rfl) dX1_carryOut_161 (by decide) (fun u_23 H locs hw_24 hP hD hS => ?_)
    replace hw_24 : u_23 = hs_ k_ T := hw_24
    subst u_23
    replace hP : va_P D vwCl (lW cI g L ln ++ bW cI g 10 (hs_ k_ T)) H := (va_P.m [false, false, true, true, true, true, true, true] [] hP)
    replace hD : va_D A (lW cI g L ln ++ bW cI g 10 (hs_ k_ T)) := (va_D.m [false, false, true, true, true, true, true, true] [] hD)
    refine rMv hx hb hr hlk hS (hs_ k_ T) hP ?_ dX1_carryOut_164
    first | exact (cst_s c_13_115).symm | exact (cst_p c_13_112 e_ (by omega)).symm | exact (cst_q c_13_113 e_ (by omega)).symm | exact (cst_i c_13_105).symm | exact (cst_v c_13_118).symm | (exact (cst_h (by rw [c_13_106]; decide) (by rw [c_13_106]; decide) (by rw [c_13_106]; decide) (by rw [c_13_106]; decide) (by rw [c_13_106]; decide) e_ (by omega)).symm) | (exact (cst_h (by rw [c_13_107]; decide) (by rw [c_13_107]; decide) (by rw [c_13_107]; decide) (by rw [c_13_107]; decide) (by rw [c_13_107]; decide) e_ (by omega)).symm) | (exact (cst_h (by rw [c_13_108]; decide) (by rw [c_13_108]; decide) (by rw [c_13_108]; decide) (by rw [c_13_108]; decide) (by rw [c_13_108]; decide) e_ (by omega)).symm) | (exact (cst_h (by rw [c_13_109]; decide) (by rw [c_13_109]; decide) (by rw [c_13_109]; decide) (by rw [c_13_109]; decide) (by rw [c_13_109]; decide) e_ (by omega)).symm) | (exact (cst_h (by rw [c_13_110]; decide) (by rw [c_13_110]; decide) (by rw [c_13_110]; decide) (by rw [c_13_110]; decide) (by rw [c_13_110]; decide) e_ (by omega)).symm) | (exact (cst_h (by rw [c_13_111]; decide) (by rw [c_13_111]; decide) (by rw [c_13_111]; decide) (by rw [c_13_111]; decide) (by rw [c_13_111]; decide) e_ (by omega)).symm) | (exact (cst_h (by rw [c_13_114]; decide) (by rw [c_13_114]; decide) (by rw [c_13_114]; decide) (by rw [c_13_114]; decide) (by rw [c_13_114]; decide) e_ (by omega)).symm) | (exact (cst_h (by rw [c_13_116]; decide) (by rw [c_13_116]; decide) (by rw [c_13_116]; decide) (by rw [c_13_116]; decide) (by rw [c_13_116]; decide) e_ (by omega)).symm) | (exact (cst_h (by rw [c_13_117]; decide) (by rw [c_13_117]; decide) (by rw [c_13_117]; decide) (by rw [c_13_117]; decide) (by rw [c_13_117]; decide) e_ (by omega)).symm) | exact (cst_h c_13_115 c_13_112 c_13_113 c_13_105 c_13_118 e_ (by omega)).symm
  by_cases c_13_109 : la_ L ln at_ = 109
  · refine lv_tableIn (off := 140) (tgt := 153) hx hb dX1_carryOut_13 (by rw [c_13_109]; decide) (by rw [c_13_109]; decide) (by rw [c_13_109]; rfl) (by decide) ?_
    refine lv_aload_n hx hb dX1_carryOut_153 rfl (lv_at hl 3 rfl) ?_
    refine lv_aload_n hx hb dX1_carryOut_154 rfl (lv_at hl 1 rfl) ?_
    refine lv_iload_n hx hb dX1_carryOut_155 rfl (lv_at hl 2 rfl) ?_
    refine lv_iconst (v := 1) hx hb dX1_carryOut_156 (by decide) ?_
    refine lv_iadd hx hb dX1_carryOut_157 ?_
    refine sti (x := (nI at_) + 1) (y := nI (at_ + 1)) (nI_1 _) ?_
    refine kSiV hx hb hml hown hts hK hP gX1_carryOut_X1_numberAt okX1_numberAt (qX1_numberAt l D cI cB g L ln (at_ + 1) (by omega) (by omega)) [0, 1] rfl rfl rfl rfl (by decide) hl.1 rfl rfl (Nat.le_of_ble_eq_true rfl) dX1_carryOut_158 (by decide) (fun r_25 hr_26 => ?_)
    replace hr_26 : r_25 = nm_ L ln (at_ + 1) := hr_26
    subst r_25
    obtain ⟨k_, hk_, e_⟩ : ∃ k, k ≤ 99 ∧ nm_ L ln (at_ + 1) = nI k := by first | (have h9 := h0; rw [rst_h (by rw [c_13_106]; decide) (by rw [c_13_106]; decide) (by rw [c_13_106]; decide) (by rw [c_13_106]; decide) (by rw [c_13_106]; decide)] at h9; exact rh_k h9) | (have h9 := h0; rw [rst_h (by rw [c_13_107]; decide) (by rw [c_13_107]; decide) (by rw [c_13_107]; decide) (by rw [c_13_107]; decide) (by rw [c_13_107]; decide)] at h9; exact rh_k h9) | (have h9 := h0; rw [rst_h (by rw [c_13_108]; decide) (by rw [c_13_108]; decide) (by rw [c_13_108]; decide) (by rw [c_13_108]; decide) (by rw [c_13_108]; decide)] at h9; exact rh_k h9) | (have h9 := h0; rw [rst_h (by rw [c_13_109]; decide) (by rw [c_13_109]; decide) (by rw [c_13_109]; decide) (by rw [c_13_109]; decide) (by rw [c_13_109]; decide)] at h9; exact rh_k h9) | (have h9 := h0; rw [rst_h (by rw [c_13_110]; decide) (by rw [c_13_110]; decide) (by rw [c_13_110]; decide) (by rw [c_13_110]; decide) (by rw [c_13_110]; decide)] at h9; exact rh_k h9) | (have h9 := h0; rw [rst_h (by rw [c_13_111]; decide) (by rw [c_13_111]; decide) (by rw [c_13_111]; decide) (by rw [c_13_111]; decide) (by rw [c_13_111]; decide)] at h9; exact rh_k h9) | (have h9 := h0; rw [rst_h (by rw [c_13_114]; decide) (by rw [c_13_114]; decide) (by rw [c_13_114]; decide) (by rw [c_13_114]; decide) (by rw [c_13_114]; decide)] at h9; exact rh_k h9) | (have h9 := h0; rw [rst_h (by rw [c_13_116]; decide) (by rw [c_13_116]; decide) (by rw [c_13_116]; decide) (by rw [c_13_116]; decide) (by rw [c_13_116]; decide)] at h9; exact rh_k h9) | (have h9 := h0; rw [rst_h (by rw [c_13_117]; decide) (by rw [c_13_117]; decide) (by rw [c_13_117]; decide) (by rw [c_13_117]; decide) (by rw [c_13_117]; decide)] at h9; exact rh_k h9) | (have h9 := h0; rw [rst_h c_13_115 c_13_112 c_13_113 c_13_105 c_13_118] at h9; exact rh_k h9)
    refine sti (x := nm_ L ln (at_ + 1)) (y := nI k_) (e_) ?_
    refine kMvN hx hb hml hown hts hK hP hD hA hS gX1_carryOut_X0_passHours_n73 (hK.2 _ (List.mem_of_getElem? (i := 49) rfl)) (hts _ (List.mem_of_getElem? (i := 17) rfl)) (hts _ (List.mem_of_getElem? (i := 38) rfl)) (hts _ (List.mem_of_getElem? (i := 39) rfl)) okX0_passHours (qX0_passHours l D cI cB g 10 T k_ (by show sn_ T ≤ 7; omega) (by omega)) [2, 3, 4, 5, 6, 7] rfl (by decide) (fun _ => rfl) rfl rfl rfl (by decide) hl.1 rfl rfl (Nat.le_of_ble_eq_true rfl) dX1_carryOut_161 (by decide) (fun u_28 H locs hw_29 hP hD hS => ?_)
    replace hw_29 : u_28 = hs_ k_ T := hw_29
    subst u_28
    replace hP : va_P D vwCl (lW cI g L ln ++ bW cI g 10 (hs_ k_ T)) H := (va_P.m [false, false, true, true, true, true, true, true] [] hP)
    replace hD : va_D A (lW cI g L ln ++ bW cI g 10 (hs_ k_ T)) := (va_D.m [false, false, true, true, true, true, true, true] [] hD)
    refine rMv hx hb hr hlk hS (hs_ k_ T) hP ?_ dX1_carryOut_164
    first | exact (cst_s c_13_115).symm | exact (cst_p c_13_112 e_ (by omega)).symm | exact (cst_q c_13_113 e_ (by omega)).symm | exact (cst_i c_13_105).symm | exact (cst_v c_13_118).symm | (exact (cst_h (by rw [c_13_106]; decide) (by rw [c_13_106]; decide) (by rw [c_13_106]; decide) (by rw [c_13_106]; decide) (by rw [c_13_106]; decide) e_ (by omega)).symm) | (exact (cst_h (by rw [c_13_107]; decide) (by rw [c_13_107]; decide) (by rw [c_13_107]; decide) (by rw [c_13_107]; decide) (by rw [c_13_107]; decide) e_ (by omega)).symm) | (exact (cst_h (by rw [c_13_108]; decide) (by rw [c_13_108]; decide) (by rw [c_13_108]; decide) (by rw [c_13_108]; decide) (by rw [c_13_108]; decide) e_ (by omega)).symm) | (exact (cst_h (by rw [c_13_109]; decide) (by rw [c_13_109]; decide) (by rw [c_13_109]; decide) (by rw [c_13_109]; decide) (by rw [c_13_109]; decide) e_ (by omega)).symm) | (exact (cst_h (by rw [c_13_110]; decide) (by rw [c_13_110]; decide) (by rw [c_13_110]; decide) (by rw [c_13_110]; decide) (by rw [c_13_110]; decide) e_ (by omega)).symm) | (exact (cst_h (by rw [c_13_111]; decide) (by rw [c_13_111]; decide) (by rw [c_13_111]; decide) (by rw [c_13_111]; decide) (by rw [c_13_111]; decide) e_ (by omega)).symm) | (exact (cst_h (by rw [c_13_114]; decide) (by rw [c_13_114]; decide) (by rw [c_13_114]; decide) (by rw [c_13_114]; decide) (by rw [c_13_114]; decide) e_ (by omega)).symm) | (exact (cst_h (by rw [c_13_116]; decide) (by rw [c_13_116]; decide) (by rw [c_13_116]; decide) (by rw [c_13_116]; decide) (by rw [c_13_116]; decide) e_ (by omega)).symm) | (exact (cst_h (by rw [c_13_117]; decide) (by rw [c_13_117]; decide) (by rw [c_13_117]; decide) (by rw [c_13_117]; decide) (by rw [c_13_117]; decide) e_ (by omega)).symm) | exact (cst_h c_13_115 c_13_112 c_13_113 c_13_105 c_13_118 e_ (by omega)).symm
  by_cases c_13_110 : la_ L ln at_ = 110
  · refine lv_tableIn (off := 140) (tgt := 153) hx hb dX1_carryOut_13 (by rw [c_13_110]; decide) (by rw [c_13_110]; decide) (by rw [c_13_110]; rfl) (by decide) ?_
    refine lv_aload_n hx hb dX1_carryOut_153 rfl (lv_at hl 3 rfl) ?_
    refine lv_aload_n hx hb dX1_carryOut_154 rfl (lv_at hl 1 rfl) ?_
    refine lv_iload_n hx hb dX1_carryOut_155 rfl (lv_at hl 2 rfl) ?_
    refine lv_iconst (v := 1) hx hb dX1_carryOut_156 (by decide) ?_
    refine lv_iadd hx hb dX1_carryOut_157 ?_
    refine sti (x := (nI at_) + 1) (y := nI (at_ + 1)) (nI_1 _) ?_
    refine kSiV hx hb hml hown hts hK hP gX1_carryOut_X1_numberAt okX1_numberAt (qX1_numberAt l D cI cB g L ln (at_ + 1) (by omega) (by omega)) [0, 1] rfl rfl rfl rfl (by decide) hl.1 rfl rfl (Nat.le_of_ble_eq_true rfl) dX1_carryOut_158 (by decide) (fun r_30 hr_31 => ?_)
    replace hr_31 : r_30 = nm_ L ln (at_ + 1) := hr_31
    subst r_30
    obtain ⟨k_, hk_, e_⟩ : ∃ k, k ≤ 99 ∧ nm_ L ln (at_ + 1) = nI k := by first | (have h9 := h0; rw [rst_h (by rw [c_13_106]; decide) (by rw [c_13_106]; decide) (by rw [c_13_106]; decide) (by rw [c_13_106]; decide) (by rw [c_13_106]; decide)] at h9; exact rh_k h9) | (have h9 := h0; rw [rst_h (by rw [c_13_107]; decide) (by rw [c_13_107]; decide) (by rw [c_13_107]; decide) (by rw [c_13_107]; decide) (by rw [c_13_107]; decide)] at h9; exact rh_k h9) | (have h9 := h0; rw [rst_h (by rw [c_13_108]; decide) (by rw [c_13_108]; decide) (by rw [c_13_108]; decide) (by rw [c_13_108]; decide) (by rw [c_13_108]; decide)] at h9; exact rh_k h9) | (have h9 := h0; rw [rst_h (by rw [c_13_109]; decide) (by rw [c_13_109]; decide) (by rw [c_13_109]; decide) (by rw [c_13_109]; decide) (by rw [c_13_109]; decide)] at h9; exact rh_k h9) | (have h9 := h0; rw [rst_h (by rw [c_13_110]; decide) (by rw [c_13_110]; decide) (by rw [c_13_110]; decide) (by rw [c_13_110]; decide) (by rw [c_13_110]; decide)] at h9; exact rh_k h9) | (have h9 := h0; rw [rst_h (by rw [c_13_111]; decide) (by rw [c_13_111]; decide) (by rw [c_13_111]; decide) (by rw [c_13_111]; decide) (by rw [c_13_111]; decide)] at h9; exact rh_k h9) | (have h9 := h0; rw [rst_h (by rw [c_13_114]; decide) (by rw [c_13_114]; decide) (by rw [c_13_114]; decide) (by rw [c_13_114]; decide) (by rw [c_13_114]; decide)] at h9; exact rh_k h9) | (have h9 := h0; rw [rst_h (by rw [c_13_116]; decide) (by rw [c_13_116]; decide) (by rw [c_13_116]; decide) (by rw [c_13_116]; decide) (by rw [c_13_116]; decide)] at h9; exact rh_k h9) | (have h9 := h0; rw [rst_h (by rw [c_13_117]; decide) (by rw [c_13_117]; decide) (by rw [c_13_117]; decide) (by rw [c_13_117]; decide) (by rw [c_13_117]; decide)] at h9; exact rh_k h9) | (have h9 := h0; rw [rst_h c_13_115 c_13_112 c_13_113 c_13_105 c_13_118] at h9; exact rh_k h9)
    refine sti (x := nm_ L ln (at_ + 1)) (y := nI k_) (e_) ?_
    refine kMvN hx hb hml hown hts hK hP hD hA hS gX1_carryOut_X0_passHours_n73 (hK.2 _ (List.mem_of_getElem? (i := 49) rfl)) (hts _ (List.mem_of_getElem? (i := 17) rfl)) (hts _ (List.mem_of_getElem? (i := 38) rfl)) (hts _ (List.mem_of_getElem? (i := 39) rfl)) okX0_passHours (qX0_passHours l D cI cB g 10 T k_ (by show sn_ T ≤ 7; omega) (by omega)) [2, 3, 4, 5, 6, 7] rfl (by decide) (fun _ => rfl) rfl rfl rfl (by decide) hl.1 rfl rfl (Nat.le_of_ble_eq_true rfl) dX1_carryOut_161 (by decide) (fun u_33 H locs hw_34 hP hD hS => ?_)
    replace hw_34 : u_33 = hs_ k_ T := hw_34
    subst u_33
    replace hP : va_P D vwCl (lW cI g L ln ++ bW cI g 10 (hs_ k_ T)) H := (va_P.m [false, false, true, true, true, true, true, true] [] hP)
    replace hD : va_D A (lW cI g L ln ++ bW cI g 10 (hs_ k_ T)) := (va_D.m [false, false, true, true, true, true, true, true] [] hD)
    refine rMv hx hb hr hlk hS (hs_ k_ T) hP ?_ dX1_carryOut_164
    first | exact (cst_s c_13_115).symm | exact (cst_p c_13_112 e_ (by omega)).symm | exact (cst_q c_13_113 e_ (by omega)).symm | exact (cst_i c_13_105).symm | exact (cst_v c_13_118).symm | (exact (cst_h (by rw [c_13_106]; decide) (by rw [c_13_106]; decide) (by rw [c_13_106]; decide) (by rw [c_13_106]; decide) (by rw [c_13_106]; decide) e_ (by omega)).symm) | (exact (cst_h (by rw [c_13_107]; decide) (by rw [c_13_107]; decide) (by rw [c_13_107]; decide) (by rw [c_13_107]; decide) (by rw [c_13_107]; decide) e_ (by omega)).symm) | (exact (cst_h (by rw [c_13_108]; decide) (by rw [c_13_108]; decide) (by rw [c_13_108]; decide) (by rw [c_13_108]; decide) (by rw [c_13_108]; decide) e_ (by omega)).symm) | (exact (cst_h (by rw [c_13_109]; decide) (by rw [c_13_109]; decide) (by rw [c_13_109]; decide) (by rw [c_13_109]; decide) (by rw [c_13_109]; decide) e_ (by omega)).symm) | (exact (cst_h (by rw [c_13_110]; decide) (by rw [c_13_110]; decide) (by rw [c_13_110]; decide) (by rw [c_13_110]; decide) (by rw [c_13_110]; decide) e_ (by omega)).symm) | (exact (cst_h (by rw [c_13_111]; decide) (by rw [c_13_111]; decide) (by rw [c_13_111]; decide) (by rw [c_13_111]; decide) (by rw [c_13_111]; decide) e_ (by omega)).symm) | (exact (cst_h (by rw [c_13_114]; decide) (by rw [c_13_114]; decide) (by rw [c_13_114]; decide) (by rw [c_13_114]; decide) (by rw [c_13_114]; decide) e_ (by omega)).symm) | (exact (cst_h (by rw [c_13_116]; decide) (by rw [c_13_116]; decide) (by rw [c_13_116]; decide) (by rw [c_13_116]; decide) (by rw [c_13_116]; decide) e_ (by omega)).symm) | (exact (cst_h (by rw [c_13_117]; decide) (by rw [c_13_117]; decide) (by rw [c_13_117]; decide) (by rw [c_13_117]; decide) (by rw [c_13_117]; decide) e_ (by omega)).symm) | exact (cst_h c_13_115 c_13_112 c_13_113 c_13_105 c_13_118 e_ (by omega)).symm
  by_cases c_13_111 : la_ L ln at_ = 111
  · refine lv_tableIn (off := 140) (tgt := 153) hx hb dX1_carryOut_13 (by rw [c_13_111]; decide) (by rw [c_13_111]; decide) (by rw [c_13_111]; rfl) (by decide) ?_
    refine lv_aload_n hx hb dX1_carryOut_153 rfl (lv_at hl 3 rfl) ?_
    refine lv_aload_n hx hb dX1_carryOut_154 rfl (lv_at hl 1 rfl) ?_
    refine lv_iload_n hx hb dX1_carryOut_155 rfl (lv_at hl 2 rfl) ?_
    refine lv_iconst (v := 1) hx hb dX1_carryOut_156 (by decide) ?_
    refine lv_iadd hx hb dX1_carryOut_157 ?_
    refine sti (x := (nI at_) + 1) (y := nI (at_ + 1)) (nI_1 _) ?_
    refine kSiV hx hb hml hown hts hK hP gX1_carryOut_X1_numberAt okX1_numberAt (qX1_numberAt l D cI cB g L ln (at_ + 1) (by omega) (by omega)) [0, 1] rfl rfl rfl rfl (by decide) hl.1 rfl rfl (Nat.le_of_ble_eq_true rfl) dX1_carryOut_158 (by decide) (fun r_35 hr_36 => ?_)
    replace hr_36 : r_35 = nm_ L ln (at_ + 1) := hr_36
    subst r_35
    obtain ⟨k_, hk_, e_⟩ : ∃ k, k ≤ 99 ∧ nm_ L ln (at_ + 1) = nI k := by first | (have h9 := h0; rw [rst_h (by rw [c_13_106]; decide) (by rw [c_13_106]; decide) (by rw [c_13_106]; decide) (by rw [c_13_106]; decide) (by rw [c_13_106]; decide)] at h9; exact rh_k h9) | (have h9 := h0; rw [rst_h (by rw [c_13_107]; decide) (by rw [c_13_107]; decide) (by rw [c_13_107]; decide) (by rw [c_13_107]; decide) (by rw [c_13_107]; decide)] at h9; exact rh_k h9) | (have h9 := h0; rw [rst_h (by rw [c_13_108]; decide) (by rw [c_13_108]; decide) (by rw [c_13_108]; decide) (by rw [c_13_108]; decide) (by rw [c_13_108]; decide)] at h9; exact rh_k h9) | (have h9 := h0; rw [rst_h (by rw [c_13_109]; decide) (by rw [c_13_109]; decide) (by rw [c_13_109]; decide) (by rw [c_13_109]; decide) (by rw [c_13_109]; decide)] at h9; exact rh_k h9) | (have h9 := h0; rw [rst_h (by rw [c_13_110]; decide) (by rw [c_13_110]; decide) (by rw [c_13_110]; decide) (by rw [c_13_110]; decide) (by rw [c_13_110]; decide)] at h9; exact rh_k h9) | (have h9 := h0; rw [rst_h (by rw [c_13_111]; decide) (by rw [c_13_111]; decide) (by rw [c_13_111]; decide) (by rw [c_13_111]; decide) (by rw [c_13_111]; decide)] at h9; exact rh_k h9) | (have h9 := h0; rw [rst_h (by rw [c_13_114]; decide) (by rw [c_13_114]; decide) (by rw [c_13_114]; decide) (by rw [c_13_114]; decide) (by rw [c_13_114]; decide)] at h9; exact rh_k h9) | (have h9 := h0; rw [rst_h (by rw [c_13_116]; decide) (by rw [c_13_116]; decide) (by rw [c_13_116]; decide) (by rw [c_13_116]; decide) (by rw [c_13_116]; decide)] at h9; exact rh_k h9) | (have h9 := h0; rw [rst_h (by rw [c_13_117]; decide) (by rw [c_13_117]; decide) (by rw [c_13_117]; decide) (by rw [c_13_117]; decide) (by rw [c_13_117]; decide)] at h9; exact rh_k h9) | (have h9 := h0; rw [rst_h c_13_115 c_13_112 c_13_113 c_13_105 c_13_118] at h9; exact rh_k h9)
    refine sti (x := nm_ L ln (at_ + 1)) (y := nI k_) (e_) ?_
    refine kMvN hx hb hml hown hts hK hP hD hA hS gX1_carryOut_X0_passHours_n73 (hK.2 _ (List.mem_of_getElem? (i := 49) rfl)) (hts _ (List.mem_of_getElem? (i := 17) rfl)) (hts _ (List.mem_of_getElem? (i := 38) rfl)) (hts _ (List.mem_of_getElem? (i := 39) rfl)) okX0_passHours (qX0_passHours l D cI cB g 10 T k_ (by show sn_ T ≤ 7; omega) (by omega)) [2, 3, 4, 5, 6, 7] rfl (by decide) (fun _ => rfl) rfl rfl rfl (by decide) hl.1 rfl rfl (Nat.le_of_ble_eq_true rfl) dX1_carryOut_161 (by decide) (fun u_38 H locs hw_39 hP hD hS => ?_)
    replace hw_39 : u_38 = hs_ k_ T := hw_39
    subst u_38
    replace hP : va_P D vwCl (lW cI g L ln ++ bW cI g 10 (hs_ k_ T)) H := (va_P.m [false, false, true, true, true, true, true, true] [] hP)
    replace hD : va_D A (lW cI g L ln ++ bW cI g 10 (hs_ k_ T)) := (va_D.m [false, false, true, true, true, true, true, true] [] hD)
    refine rMv hx hb hr hlk hS (hs_ k_ T) hP ?_ dX1_carryOut_164
    first | exact (cst_s c_13_115).symm | exact (cst_p c_13_112 e_ (by omega)).symm | exact (cst_q c_13_113 e_ (by omega)).symm | exact (cst_i c_13_105).symm | exact (cst_v c_13_118).symm | (exact (cst_h (by rw [c_13_106]; decide) (by rw [c_13_106]; decide) (by rw [c_13_106]; decide) (by rw [c_13_106]; decide) (by rw [c_13_106]; decide) e_ (by omega)).symm) | (exact (cst_h (by rw [c_13_107]; decide) (by rw [c_13_107]; decide) (by rw [c_13_107]; decide) (by rw [c_13_107]; decide) (by rw [c_13_107]; decide) e_ (by omega)).symm) | (exact (cst_h (by rw [c_13_108]; decide) (by rw [c_13_108]; decide) (by rw [c_13_108]; decide) (by rw [c_13_108]; decide) (by rw [c_13_108]; decide) e_ (by omega)).symm) | (exact (cst_h (by rw [c_13_109]; decide) (by rw [c_13_109]; decide) (by rw [c_13_109]; decide) (by rw [c_13_109]; decide) (by rw [c_13_109]; decide) e_ (by omega)).symm) | (exact (cst_h (by rw [c_13_110]; decide) (by rw [c_13_110]; decide) (by rw [c_13_110]; decide) (by rw [c_13_110]; decide) (by rw [c_13_110]; decide) e_ (by omega)).symm) | (exact (cst_h (by rw [c_13_111]; decide) (by rw [c_13_111]; decide) (by rw [c_13_111]; decide) (by rw [c_13_111]; decide) (by rw [c_13_111]; decide) e_ (by omega)).symm) | (exact (cst_h (by rw [c_13_114]; decide) (by rw [c_13_114]; decide) (by rw [c_13_114]; decide) (by rw [c_13_114]; decide) (by rw [c_13_114]; decide) e_ (by omega)).symm) | (exact (cst_h (by rw [c_13_116]; decide) (by rw [c_13_116]; decide) (by rw [c_13_116]; decide) (by rw [c_13_116]; decide) (by rw [c_13_116]; decide) e_ (by omega)).symm) | (exact (cst_h (by rw [c_13_117]; decide) (by rw [c_13_117]; decide) (by rw [c_13_117]; decide) (by rw [c_13_117]; decide) (by rw [c_13_117]; decide) e_ (by omega)).symm) | exact (cst_h c_13_115 c_13_112 c_13_113 c_13_105 c_13_118 e_ (by omega)).symm
  by_cases c_13_112 : la_ L ln at_ = 112
  · refine lv_tableIn (off := 93) (tgt := 106) hx hb dX1_carryOut_13 (by rw [c_13_112]; decide) (by rw [c_13_112]; decide) (by rw [c_13_112]; rfl) (by decide) ?_
    refine lv_aload_n hx hb dX1_carryOut_106 rfl (lv_at hl 3 rfl) ?_
    refine lv_iload_n hx hb dX1_carryOut_107 rfl (lv_at hl 0 rfl) ?_
    obtain ⟨k_, hk_, e_⟩ : ∃ k, k < sn_ T ∧ dt_ L ln (at_ + 1) = nI k := by
      have h9 := h0
      rw [rst_p c_13_112, f2_0] at h9
      exact nb_k (by omega) h9.1
    refine sti (x := dt_ L ln (at_ + 1)) (y := nI k_) (e_) ?_
    refine lv_aload_n hx hb dX1_carryOut_108 rfl (lv_at hl 1 rfl) ?_
    refine lv_iload_n hx hb dX1_carryOut_109 rfl (lv_at hl 2 rfl) ?_
    refine lv_iconst (v := 2) hx hb dX1_carryOut_110 (by decide) ?_
    refine lv_iadd hx hb dX1_carryOut_111 ?_
    refine sti (x := (nI at_) + 2) (y := nI (at_ + 2)) (nI_2 _) ?_
    refine kSiV hx hb hml hown hts hK hP gX1_carryOut_X1_numberAt okX1_numberAt (qX1_numberAt l D cI cB g L ln (at_ + 2) (by omega) (by omega)) [0, 1] rfl rfl rfl rfl (by decide) hl.1 rfl rfl (Nat.le_of_ble_eq_true rfl) dX1_carryOut_112 (by decide) (fun r_40 hr_41 => ?_)
    replace hr_41 : r_40 = nm_ L ln (at_ + 2) := hr_41
    subst r_40
    refine kMvN hx hb hml hown hts hK hP hD hA hS gX1_carryOut_X0_setPowder_n62 (hK.2 _ (List.mem_of_getElem? (i := 46) rfl)) (hts _ (List.mem_of_getElem? (i := 17) rfl)) (hts _ (List.mem_of_getElem? (i := 26) rfl)) (hts _ (List.mem_of_getElem? (i := 27) rfl)) okX0_setPowder (qX0_setPowder l D cI cB g 10 T k_ (nm_ L ln (at_ + 2)) (by show sn_ T ≤ 7; omega) (by omega)) [2, 3, 4, 5, 6, 7] rfl (by decide) (fun _ => rfl) rfl rfl rfl (by decide) hl.1 rfl rfl (Nat.le_of_ble_eq_true rfl) dX1_carryOut_115 (by decide) (fun u_43 H locs hw_44 hP hD hS => ?_)
    replace hw_44 : u_43 = uw_ T k_ (nm_ L ln (at_ + 2)) := hw_44
    subst u_43
    replace hP : va_P D vwCl (lW cI g L ln ++ bW cI g 10 (uw_ T k_ (nm_ L ln (at_ + 2)))) H := (va_P.m [false, false, true, true, true, true, true, true] [] hP)
    replace hD : va_D A (lW cI g L ln ++ bW cI g 10 (uw_ T k_ (nm_ L ln (at_ + 2)))) := (va_D.m [false, false, true, true, true, true, true, true] [] hD)
    refine lv_goto (tgt := 164) hx hb dX1_carryOut_118 (by decide) ?_
    refine rMv hx hb hr hlk hS (uw_ T k_ (nm_ L ln (at_ + 2))) hP ?_ dX1_carryOut_164
    first | exact (cst_s c_13_115).symm | exact (cst_p c_13_112 e_ (by omega)).symm | exact (cst_q c_13_113 e_ (by omega)).symm | exact (cst_i c_13_105).symm | exact (cst_v c_13_118).symm | (exact (cst_h (by rw [c_13_106]; decide) (by rw [c_13_106]; decide) (by rw [c_13_106]; decide) (by rw [c_13_106]; decide) (by rw [c_13_106]; decide) e_ (by omega)).symm) | (exact (cst_h (by rw [c_13_107]; decide) (by rw [c_13_107]; decide) (by rw [c_13_107]; decide) (by rw [c_13_107]; decide) (by rw [c_13_107]; decide) e_ (by omega)).symm) | (exact (cst_h (by rw [c_13_108]; decide) (by rw [c_13_108]; decide) (by rw [c_13_108]; decide) (by rw [c_13_108]; decide) (by rw [c_13_108]; decide) e_ (by omega)).symm) | (exact (cst_h (by rw [c_13_109]; decide) (by rw [c_13_109]; decide) (by rw [c_13_109]; decide) (by rw [c_13_109]; decide) (by rw [c_13_109]; decide) e_ (by omega)).symm) | (exact (cst_h (by rw [c_13_110]; decide) (by rw [c_13_110]; decide) (by rw [c_13_110]; decide) (by rw [c_13_110]; decide) (by rw [c_13_110]; decide) e_ (by omega)).symm) | (exact (cst_h (by rw [c_13_111]; decide) (by rw [c_13_111]; decide) (by rw [c_13_111]; decide) (by rw [c_13_111]; decide) (by rw [c_13_111]; decide) e_ (by omega)).symm) | (exact (cst_h (by rw [c_13_114]; decide) (by rw [c_13_114]; decide) (by rw [c_13_114]; decide) (by rw [c_13_114]; decide) (by rw [c_13_114]; decide) e_ (by omega)).symm) | (exact (cst_h (by rw [c_13_116]; decide) (by rw [c_13_116]; decide) (by rw [c_13_116]; decide) (by rw [c_13_116]; decide) (by rw [c_13_116]; decide) e_ (by omega)).symm) | (exact (cst_h (by rw [c_13_117]; decide) (by rw [c_13_117]; decide) (by rw [c_13_117]; decide) (by rw [c_13_117]; decide) (by rw [c_13_117]; decide) e_ (by omega)).symm) | exact (cst_h c_13_115 c_13_112 c_13_113 c_13_105 c_13_118 e_ (by omega)).symm
  by_cases c_13_113 : la_ L ln at_ = 113
  · refine lv_tableIn (off := 108) (tgt := 121) hx hb dX1_carryOut_13 (by rw [c_13_113]; decide) (by rw [c_13_113]; decide) (by rw [c_13_113]; rfl) (by decide) ?_
    refine lv_aload_n hx hb dX1_carryOut_121 rfl (lv_at hl 3 rfl) ?_
    refine lv_iload_n hx hb dX1_carryOut_122 rfl (lv_at hl 0 rfl) ?_
    obtain ⟨k_, hk_, e_⟩ : ∃ k, k < sn_ T ∧ dt_ L ln (at_ + 1) = nI k := by
      have h9 := h0
      rw [rst_q c_13_113] at h9
      exact nb_k (by omega) h9
    refine sti (x := dt_ L ln (at_ + 1)) (y := nI k_) (e_) ?_
    refine kMvN hx hb hml hown hts hK hP hD hA hS gX1_carryOut_X0_turnQuiet_n66 (hK.2 _ (List.mem_of_getElem? (i := 47) rfl)) (hts _ (List.mem_of_getElem? (i := 17) rfl)) (hts _ (List.mem_of_getElem? (i := 29) rfl)) (hts _ (List.mem_of_getElem? (i := 30) rfl)) okX0_turnQuiet (qX0_turnQuiet l D cI cB g 10 T k_ (by show sn_ T ≤ 7; omega) (by omega)) [2, 3, 4, 5, 6, 7] rfl (by decide) (fun _ => rfl) rfl rfl rfl (by decide) hl.1 rfl rfl (Nat.le_of_ble_eq_true rfl) dX1_carryOut_123 (by decide) (fun u_46 H locs hw_47 hP hD hS => ?_)
    replace hw_47 : u_46 = uq_ T (qt_ T ^^^ ((1 : Int32) <<< (nI k_ &&& 31))) := hw_47
    subst u_46
    replace hP : va_P D vwCl (lW cI g L ln ++ bW cI g 10 (uq_ T (qt_ T ^^^ ((1 : Int32) <<< (nI k_ &&& 31))))) H := (va_P.m [false, false, true, true, true, true, true, true] [] hP)
    replace hD : va_D A (lW cI g L ln ++ bW cI g 10 (uq_ T (qt_ T ^^^ ((1 : Int32) <<< (nI k_ &&& 31))))) := (va_D.m [false, false, true, true, true, true, true, true] [] hD)
    refine lv_goto (tgt := 164) hx hb dX1_carryOut_126 (by decide) ?_
    refine rMv hx hb hr hlk hS (uq_ T (qt_ T ^^^ ((1 : Int32) <<< (nI k_ &&& 31)))) hP ?_ dX1_carryOut_164
    first | exact (cst_s c_13_115).symm | exact (cst_p c_13_112 e_ (by omega)).symm | exact (cst_q c_13_113 e_ (by omega)).symm | exact (cst_i c_13_105).symm | exact (cst_v c_13_118).symm | (exact (cst_h (by rw [c_13_106]; decide) (by rw [c_13_106]; decide) (by rw [c_13_106]; decide) (by rw [c_13_106]; decide) (by rw [c_13_106]; decide) e_ (by omega)).symm) | (exact (cst_h (by rw [c_13_107]; decide) (by rw [c_13_107]; decide) (by rw [c_13_107]; decide) (by rw [c_13_107]; decide) (by rw [c_13_107]; decide) e_ (by omega)).symm) | (exact (cst_h (by rw [c_13_108]; decide) (by rw [c_13_108]; decide) (by rw [c_13_108]; decide) (by rw [c_13_108]; decide) (by rw [c_13_108]; decide) e_ (by omega)).symm) | (exact (cst_h (by rw [c_13_109]; decide) (by rw [c_13_109]; decide) (by rw [c_13_109]; decide) (by rw [c_13_109]; decide) (by rw [c_13_109]; decide) e_ (by omega)).symm) | (exact (cst_h (by rw [c_13_110]; decide) (by rw [c_13_110]; decide) (by rw [c_13_110]; decide) (by rw [c_13_110]; decide) (by rw [c_13_110]; decide) e_ (by omega)).symm) | (exact (cst_h (by rw [c_13_111]; decide) (by rw [c_13_111]; decide) (by rw [c_13_111]; decide) (by rw [c_13_111]; decide) (by rw [c_13_111]; decide) e_ (by omega)).symm) | (exact (cst_h (by rw [c_13_114]; decide) (by rw [c_13_114]; decide) (by rw [c_13_114]; decide) (by rw [c_13_114]; decide) (by rw [c_13_114]; decide) e_ (by omega)).symm) | (exact (cst_h (by rw [c_13_116]; decide) (by rw [c_13_116]; decide) (by rw [c_13_116]; decide) (by rw [c_13_116]; decide) (by rw [c_13_116]; decide) e_ (by omega)).symm) | (exact (cst_h (by rw [c_13_117]; decide) (by rw [c_13_117]; decide) (by rw [c_13_117]; decide) (by rw [c_13_117]; decide) (by rw [c_13_117]; decide) e_ (by omega)).symm) | exact (cst_h c_13_115 c_13_112 c_13_113 c_13_105 c_13_118 e_ (by omega)).symm
  by_cases c_13_114 : la_ L ln at_ = 114
  · refine lv_tableIn (off := 140) (tgt := 153) hx hb dX1_carryOut_13 (by rw [c_13_114]; decide) (by rw [c_13_114]; decide) (by rw [c_13_114]; rfl) (by decide) ?_
    refine lv_aload_n hx hb dX1_carryOut_153 rfl (lv_at hl 3 rfl) ?_
    refine lv_aload_n hx hb dX1_carryOut_154 rfl (lv_at hl 1 rfl) ?_
    refine lv_iload_n hx hb dX1_carryOut_155 rfl (lv_at hl 2 rfl) ?_
    refine lv_iconst (v := 1) hx hb dX1_carryOut_156 (by decide) ?_
    refine lv_iadd hx hb dX1_carryOut_157 ?_
    refine sti (x := (nI at_) + 1) (y := nI (at_ + 1)) (nI_1 _) ?_
    refine kSiV hx hb hml hown hts hK hP gX1_carryOut_X1_numberAt okX1_numberAt (qX1_numberAt l D cI cB g L ln (at_ + 1) (by omega) (by omega)) [0, 1] rfl rfl rfl rfl (by decide) hl.1 rfl rfl (Nat.le_of_ble_eq_true rfl) dX1_carryOut_158 (by decide) (fun r_48 hr_49 => ?_)
    replace hr_49 : r_48 = nm_ L ln (at_ + 1) := hr_49
    subst r_48
    obtain ⟨k_, hk_, e_⟩ : ∃ k, k ≤ 99 ∧ nm_ L ln (at_ + 1) = nI k := by first | (have h9 := h0; rw [rst_h (by rw [c_13_106]; decide) (by rw [c_13_106]; decide) (by rw [c_13_106]; decide) (by rw [c_13_106]; decide) (by rw [c_13_106]; decide)] at h9; exact rh_k h9) | (have h9 := h0; rw [rst_h (by rw [c_13_107]; decide) (by rw [c_13_107]; decide) (by rw [c_13_107]; decide) (by rw [c_13_107]; decide) (by rw [c_13_107]; decide)] at h9; exact rh_k h9) | (have h9 := h0; rw [rst_h (by rw [c_13_108]; decide) (by rw [c_13_108]; decide) (by rw [c_13_108]; decide) (by rw [c_13_108]; decide) (by rw [c_13_108]; decide)] at h9; exact rh_k h9) | (have h9 := h0; rw [rst_h (by rw [c_13_109]; decide) (by rw [c_13_109]; decide) (by rw [c_13_109]; decide) (by rw [c_13_109]; decide) (by rw [c_13_109]; decide)] at h9; exact rh_k h9) | (have h9 := h0; rw [rst_h (by rw [c_13_110]; decide) (by rw [c_13_110]; decide) (by rw [c_13_110]; decide) (by rw [c_13_110]; decide) (by rw [c_13_110]; decide)] at h9; exact rh_k h9) | (have h9 := h0; rw [rst_h (by rw [c_13_111]; decide) (by rw [c_13_111]; decide) (by rw [c_13_111]; decide) (by rw [c_13_111]; decide) (by rw [c_13_111]; decide)] at h9; exact rh_k h9) | (have h9 := h0; rw [rst_h (by rw [c_13_114]; decide) (by rw [c_13_114]; decide) (by rw [c_13_114]; decide) (by rw [c_13_114]; decide) (by rw [c_13_114]; decide)] at h9; exact rh_k h9) | (have h9 := h0; rw [rst_h (by rw [c_13_116]; decide) (by rw [c_13_116]; decide) (by rw [c_13_116]; decide) (by rw [c_13_116]; decide) (by rw [c_13_116]; decide)] at h9; exact rh_k h9) | (have h9 := h0; rw [rst_h (by rw [c_13_117]; decide) (by rw [c_13_117]; decide) (by rw [c_13_117]; decide) (by rw [c_13_117]; decide) (by rw [c_13_117]; decide)] at h9; exact rh_k h9) | (have h9 := h0; rw [rst_h c_13_115 c_13_112 c_13_113 c_13_105 c_13_118] at h9; exact rh_k h9)
    refine sti (x := nm_ L ln (at_ + 1)) (y := nI k_) (e_) ?_
    refine kMvN hx hb hml hown hts hK hP hD hA hS gX1_carryOut_X0_passHours_n73 (hK.2 _ (List.mem_of_getElem? (i := 49) rfl)) (hts _ (List.mem_of_getElem? (i := 17) rfl)) (hts _ (List.mem_of_getElem? (i := 38) rfl)) (hts _ (List.mem_of_getElem? (i := 39) rfl)) okX0_passHours (qX0_passHours l D cI cB g 10 T k_ (by show sn_ T ≤ 7; omega) (by omega)) [2, 3, 4, 5, 6, 7] rfl (by decide) (fun _ => rfl) rfl rfl rfl (by decide) hl.1 rfl rfl (Nat.le_of_ble_eq_true rfl) dX1_carryOut_161 (by decide) (fun u_51 H locs hw_52 hP hD hS => ?_)
    replace hw_52 : u_51 = hs_ k_ T := hw_52
    subst u_51
    replace hP : va_P D vwCl (lW cI g L ln ++ bW cI g 10 (hs_ k_ T)) H := (va_P.m [false, false, true, true, true, true, true, true] [] hP)
    replace hD : va_D A (lW cI g L ln ++ bW cI g 10 (hs_ k_ T)) := (va_D.m [false, false, true, true, true, true, true, true] [] hD)
    refine rMv hx hb hr hlk hS (hs_ k_ T) hP ?_ dX1_carryOut_164
    first | exact (cst_s c_13_115).symm | exact (cst_p c_13_112 e_ (by omega)).symm | exact (cst_q c_13_113 e_ (by omega)).symm | exact (cst_i c_13_105).symm | exact (cst_v c_13_118).symm | (exact (cst_h (by rw [c_13_106]; decide) (by rw [c_13_106]; decide) (by rw [c_13_106]; decide) (by rw [c_13_106]; decide) (by rw [c_13_106]; decide) e_ (by omega)).symm) | (exact (cst_h (by rw [c_13_107]; decide) (by rw [c_13_107]; decide) (by rw [c_13_107]; decide) (by rw [c_13_107]; decide) (by rw [c_13_107]; decide) e_ (by omega)).symm) | (exact (cst_h (by rw [c_13_108]; decide) (by rw [c_13_108]; decide) (by rw [c_13_108]; decide) (by rw [c_13_108]; decide) (by rw [c_13_108]; decide) e_ (by omega)).symm) | (exact (cst_h (by rw [c_13_109]; decide) (by rw [c_13_109]; decide) (by rw [c_13_109]; decide) (by rw [c_13_109]; decide) (by rw [c_13_109]; decide) e_ (by omega)).symm) | (exact (cst_h (by rw [c_13_110]; decide) (by rw [c_13_110]; decide) (by rw [c_13_110]; decide) (by rw [c_13_110]; decide) (by rw [c_13_110]; decide) e_ (by omega)).symm) | (exact (cst_h (by rw [c_13_111]; decide) (by rw [c_13_111]; decide) (by rw [c_13_111]; decide) (by rw [c_13_111]; decide) (by rw [c_13_111]; decide) e_ (by omega)).symm) | (exact (cst_h (by rw [c_13_114]; decide) (by rw [c_13_114]; decide) (by rw [c_13_114]; decide) (by rw [c_13_114]; decide) (by rw [c_13_114]; decide) e_ (by omega)).symm) | (exact (cst_h (by rw [c_13_116]; decide) (by rw [c_13_116]; decide) (by rw [c_13_116]; decide) (by rw [c_13_116]; decide) (by rw [c_13_116]; decide) e_ (by omega)).symm) | (exact (cst_h (by rw [c_13_117]; decide) (by rw [c_13_117]; decide) (by rw [c_13_117]; decide) (by rw [c_13_117]; decide) (by rw [c_13_117]; decide) e_ (by omega)).symm) | exact (cst_h c_13_115 c_13_112 c_13_113 c_13_105 c_13_118 e_ (by omega)).symm
  by_cases c_13_115 : la_ L ln at_ = 115
  · refine lv_tableIn (off := 71) (tgt := 84) hx hb dX1_carryOut_13 (by rw [c_13_115]; decide) (by rw [c_13_115]; decide) (by rw [c_13_115]; rfl) (by decide) ?_
    refine lv_aload_n hx hb dX1_carryOut_84 rfl (lv_at hl 3 rfl) ?_
    refine lv_iload_n hx hb dX1_carryOut_85 rfl (lv_at hl 0 rfl) ?_
    refine lv_aload_n hx hb dX1_carryOut_86 rfl (lv_at hl 1 rfl) ?_
    refine lv_iload_n hx hb dX1_carryOut_87 rfl (lv_at hl 2 rfl) ?_
    refine lv_iconst (v := 2) hx hb dX1_carryOut_88 (by decide) ?_
    refine lv_iadd hx hb dX1_carryOut_89 ?_
    refine sti (x := (nI at_) + 2) (y := nI (at_ + 2)) (nI_2 _) ?_
    refine kSiV hx hb hml hown hts hK hP gX1_carryOut_X1_digitAt okX1_digitAt (qX1_digitAt l D cI cB g L ln (at_ + 2) (by omega) (by omega)) [0, 1] rfl rfl rfl rfl (by decide) hl.1 rfl rfl (Nat.le_of_ble_eq_true rfl) dX1_carryOut_90 (by decide) (fun r_53 hr_54 => ?_)
    replace hr_54 : r_53 = dt_ L ln (at_ + 2) := hr_54
    subst r_53
    refine lv_aload_n hx hb dX1_carryOut_93 rfl (lv_at hl 1 rfl) ?_
    refine lv_iload_n hx hb dX1_carryOut_94 rfl (lv_at hl 2 rfl) ?_
    refine lv_iconst (v := 3) hx hb dX1_carryOut_95 (by decide) ?_
    refine lv_iadd hx hb dX1_carryOut_96 ?_
    refine sti (x := (nI at_) + 3) (y := nI (at_ + 3)) (nI_3 _) ?_
    refine kSiV hx hb hml hown hts hK hP gX1_carryOut_X1_numberAt okX1_numberAt (qX1_numberAt l D cI cB g L ln (at_ + 3) (by omega) (by omega)) [0, 1] rfl rfl rfl rfl (by decide) hl.1 rfl rfl (Nat.le_of_ble_eq_true rfl) dX1_carryOut_97 (by decide) (fun r_55 hr_56 => ?_)
    replace hr_56 : r_55 = nm_ L ln (at_ + 3) := hr_56
    subst r_55
    refine kMvN hx hb hml hown hts hK hP hD hA hS gX1_carryOut_X0_add_n58 (hK.2 _ (List.mem_of_getElem? (i := 45) rfl)) (hts _ (List.mem_of_getElem? (i := 17) rfl)) (hts _ (List.mem_of_getElem? (i := 16) rfl)) (hts _ (List.mem_of_getElem? (i := 18) rfl)) okX0_add (qX0_add l D cI cB g 10 T (dt_ L ln (at_ + 1)) (dt_ L ln (at_ + 2)) (nm_ L ln (at_ + 3)) (by show sn_ T ≤ 7; omega)) [2, 3, 4, 5, 6, 7] rfl (by decide) (fun _ => rfl) rfl rfl rfl (by decide) hl.1 rfl rfl (Nat.le_of_ble_eq_true rfl) dX1_carryOut_100 (by decide) (fun u_58 H locs hw_59 hP hD hS => ?_)
    replace hw_59 : u_58 = ad_ T (dt_ L ln (at_ + 1)) (dt_ L ln (at_ + 2)) (nm_ L ln (at_ + 3)) := hw_59
    subst u_58
    replace hP : va_P D vwCl (lW cI g L ln ++ bW cI g 10 (ad_ T (dt_ L ln (at_ + 1)) (dt_ L ln (at_ + 2)) (nm_ L ln (at_ + 3)))) H := (va_P.m [false, false, true, true, true, true, true, true] [] hP)
    replace hD : va_D A (lW cI g L ln ++ bW cI g 10 (ad_ T (dt_ L ln (at_ + 1)) (dt_ L ln (at_ + 2)) (nm_ L ln (at_ + 3)))) := (va_D.m [false, false, true, true, true, true, true, true] [] hD)
    refine lv_goto (tgt := 164) hx hb dX1_carryOut_103 (by decide) ?_
    refine rMv hx hb hr hlk hS (ad_ T (dt_ L ln (at_ + 1)) (dt_ L ln (at_ + 2)) (nm_ L ln (at_ + 3))) hP ?_ dX1_carryOut_164
    first | exact (cst_s c_13_115).symm | exact (cst_p c_13_112 e_ (by omega)).symm | exact (cst_q c_13_113 e_ (by omega)).symm | exact (cst_i c_13_105).symm | exact (cst_v c_13_118).symm | (exact (cst_h (by rw [c_13_106]; decide) (by rw [c_13_106]; decide) (by rw [c_13_106]; decide) (by rw [c_13_106]; decide) (by rw [c_13_106]; decide) e_ (by omega)).symm) | (exact (cst_h (by rw [c_13_107]; decide) (by rw [c_13_107]; decide) (by rw [c_13_107]; decide) (by rw [c_13_107]; decide) (by rw [c_13_107]; decide) e_ (by omega)).symm) | (exact (cst_h (by rw [c_13_108]; decide) (by rw [c_13_108]; decide) (by rw [c_13_108]; decide) (by rw [c_13_108]; decide) (by rw [c_13_108]; decide) e_ (by omega)).symm) | (exact (cst_h (by rw [c_13_109]; decide) (by rw [c_13_109]; decide) (by rw [c_13_109]; decide) (by rw [c_13_109]; decide) (by rw [c_13_109]; decide) e_ (by omega)).symm) | (exact (cst_h (by rw [c_13_110]; decide) (by rw [c_13_110]; decide) (by rw [c_13_110]; decide) (by rw [c_13_110]; decide) (by rw [c_13_110]; decide) e_ (by omega)).symm) | (exact (cst_h (by rw [c_13_111]; decide) (by rw [c_13_111]; decide) (by rw [c_13_111]; decide) (by rw [c_13_111]; decide) (by rw [c_13_111]; decide) e_ (by omega)).symm) | (exact (cst_h (by rw [c_13_114]; decide) (by rw [c_13_114]; decide) (by rw [c_13_114]; decide) (by rw [c_13_114]; decide) (by rw [c_13_114]; decide) e_ (by omega)).symm) | (exact (cst_h (by rw [c_13_116]; decide) (by rw [c_13_116]; decide) (by rw [c_13_116]; decide) (by rw [c_13_116]; decide) (by rw [c_13_116]; decide) e_ (by omega)).symm) | (exact (cst_h (by rw [c_13_117]; decide) (by rw [c_13_117]; decide) (by rw [c_13_117]; decide) (by rw [c_13_117]; decide) (by rw [c_13_117]; decide) e_ (by omega)).symm) | exact (cst_h c_13_115 c_13_112 c_13_113 c_13_105 c_13_118 e_ (by omega)).symm
  by_cases c_13_116 : la_ L ln at_ = 116
  · refine lv_tableIn (off := 140) (tgt := 153) hx hb dX1_carryOut_13 (by rw [c_13_116]; decide) (by rw [c_13_116]; decide) (by rw [c_13_116]; rfl) (by decide) ?_
    refine lv_aload_n hx hb dX1_carryOut_153 rfl (lv_at hl 3 rfl) ?_
    refine lv_aload_n hx hb dX1_carryOut_154 rfl (lv_at hl 1 rfl) ?_
    refine lv_iload_n hx hb dX1_carryOut_155 rfl (lv_at hl 2 rfl) ?_
    refine lv_iconst (v := 1) hx hb dX1_carryOut_156 (by decide) ?_
    refine lv_iadd hx hb dX1_carryOut_157 ?_
    refine sti (x := (nI at_) + 1) (y := nI (at_ + 1)) (nI_1 _) ?_
    refine kSiV hx hb hml hown hts hK hP gX1_carryOut_X1_numberAt okX1_numberAt (qX1_numberAt l D cI cB g L ln (at_ + 1) (by omega) (by omega)) [0, 1] rfl rfl rfl rfl (by decide) hl.1 rfl rfl (Nat.le_of_ble_eq_true rfl) dX1_carryOut_158 (by decide) (fun r_60 hr_61 => ?_)
    replace hr_61 : r_60 = nm_ L ln (at_ + 1) := hr_61
    subst r_60
    obtain ⟨k_, hk_, e_⟩ : ∃ k, k ≤ 99 ∧ nm_ L ln (at_ + 1) = nI k := by first | (have h9 := h0; rw [rst_h (by rw [c_13_106]; decide) (by rw [c_13_106]; decide) (by rw [c_13_106]; decide) (by rw [c_13_106]; decide) (by rw [c_13_106]; decide)] at h9; exact rh_k h9) | (have h9 := h0; rw [rst_h (by rw [c_13_107]; decide) (by rw [c_13_107]; decide) (by rw [c_13_107]; decide) (by rw [c_13_107]; decide) (by rw [c_13_107]; decide)] at h9; exact rh_k h9) | (have h9 := h0; rw [rst_h (by rw [c_13_108]; decide) (by rw [c_13_108]; decide) (by rw [c_13_108]; decide) (by rw [c_13_108]; decide) (by rw [c_13_108]; decide)] at h9; exact rh_k h9) | (have h9 := h0; rw [rst_h (by rw [c_13_109]; decide) (by rw [c_13_109]; decide) (by rw [c_13_109]; decide) (by rw [c_13_109]; decide) (by rw [c_13_109]; decide)] at h9; exact rh_k h9) | (have h9 := h0; rw [rst_h (by rw [c_13_110]; decide) (by rw [c_13_110]; decide) (by rw [c_13_110]; decide) (by rw [c_13_110]; decide) (by rw [c_13_110]; decide)] at h9; exact rh_k h9) | (have h9 := h0; rw [rst_h (by rw [c_13_111]; decide) (by rw [c_13_111]; decide) (by rw [c_13_111]; decide) (by rw [c_13_111]; decide) (by rw [c_13_111]; decide)] at h9; exact rh_k h9) | (have h9 := h0; rw [rst_h (by rw [c_13_114]; decide) (by rw [c_13_114]; decide) (by rw [c_13_114]; decide) (by rw [c_13_114]; decide) (by rw [c_13_114]; decide)] at h9; exact rh_k h9) | (have h9 := h0; rw [rst_h (by rw [c_13_116]; decide) (by rw [c_13_116]; decide) (by rw [c_13_116]; decide) (by rw [c_13_116]; decide) (by rw [c_13_116]; decide)] at h9; exact rh_k h9) | (have h9 := h0; rw [rst_h (by rw [c_13_117]; decide) (by rw [c_13_117]; decide) (by rw [c_13_117]; decide) (by rw [c_13_117]; decide) (by rw [c_13_117]; decide)] at h9; exact rh_k h9) | (have h9 := h0; rw [rst_h c_13_115 c_13_112 c_13_113 c_13_105 c_13_118] at h9; exact rh_k h9)
    refine sti (x := nm_ L ln (at_ + 1)) (y := nI k_) (e_) ?_
    refine kMvN hx hb hml hown hts hK hP hD hA hS gX1_carryOut_X0_passHours_n73 (hK.2 _ (List.mem_of_getElem? (i := 49) rfl)) (hts _ (List.mem_of_getElem? (i := 17) rfl)) (hts _ (List.mem_of_getElem? (i := 38) rfl)) (hts _ (List.mem_of_getElem? (i := 39) rfl)) okX0_passHours (qX0_passHours l D cI cB g 10 T k_ (by show sn_ T ≤ 7; omega) (by omega)) [2, 3, 4, 5, 6, 7] rfl (by decide) (fun _ => rfl) rfl rfl rfl (by decide) hl.1 rfl rfl (Nat.le_of_ble_eq_true rfl) dX1_carryOut_161 (by decide) (fun u_63 H locs hw_64 hP hD hS => ?_)
    replace hw_64 : u_63 = hs_ k_ T := hw_64
    subst u_63
    replace hP : va_P D vwCl (lW cI g L ln ++ bW cI g 10 (hs_ k_ T)) H := (va_P.m [false, false, true, true, true, true, true, true] [] hP)
    replace hD : va_D A (lW cI g L ln ++ bW cI g 10 (hs_ k_ T)) := (va_D.m [false, false, true, true, true, true, true, true] [] hD)
    refine rMv hx hb hr hlk hS (hs_ k_ T) hP ?_ dX1_carryOut_164
    first | exact (cst_s c_13_115).symm | exact (cst_p c_13_112 e_ (by omega)).symm | exact (cst_q c_13_113 e_ (by omega)).symm | exact (cst_i c_13_105).symm | exact (cst_v c_13_118).symm | (exact (cst_h (by rw [c_13_106]; decide) (by rw [c_13_106]; decide) (by rw [c_13_106]; decide) (by rw [c_13_106]; decide) (by rw [c_13_106]; decide) e_ (by omega)).symm) | (exact (cst_h (by rw [c_13_107]; decide) (by rw [c_13_107]; decide) (by rw [c_13_107]; decide) (by rw [c_13_107]; decide) (by rw [c_13_107]; decide) e_ (by omega)).symm) | (exact (cst_h (by rw [c_13_108]; decide) (by rw [c_13_108]; decide) (by rw [c_13_108]; decide) (by rw [c_13_108]; decide) (by rw [c_13_108]; decide) e_ (by omega)).symm) | (exact (cst_h (by rw [c_13_109]; decide) (by rw [c_13_109]; decide) (by rw [c_13_109]; decide) (by rw [c_13_109]; decide) (by rw [c_13_109]; decide) e_ (by omega)).symm) | (exact (cst_h (by rw [c_13_110]; decide) (by rw [c_13_110]; decide) (by rw [c_13_110]; decide) (by rw [c_13_110]; decide) (by rw [c_13_110]; decide) e_ (by omega)).symm) | (exact (cst_h (by rw [c_13_111]; decide) (by rw [c_13_111]; decide) (by rw [c_13_111]; decide) (by rw [c_13_111]; decide) (by rw [c_13_111]; decide) e_ (by omega)).symm) | (exact (cst_h (by rw [c_13_114]; decide) (by rw [c_13_114]; decide) (by rw [c_13_114]; decide) (by rw [c_13_114]; decide) (by rw [c_13_114]; decide) e_ (by omega)).symm) | (exact (cst_h (by rw [c_13_116]; decide) (by rw [c_13_116]; decide) (by rw [c_13_116]; decide) (by rw [c_13_116]; decide) (by rw [c_13_116]; decide) e_ (by omega)).symm) | (exact (cst_h (by rw [c_13_117]; decide) (by rw [c_13_117]; decide) (by rw [c_13_117]; decide) (by rw [c_13_117]; decide) (by rw [c_13_117]; decide) e_ (by omega)).symm) | exact (cst_h c_13_115 c_13_112 c_13_113 c_13_105 c_13_118 e_ (by omega)).symm
  by_cases c_13_117 : la_ L ln at_ = 117
  · refine lv_tableIn (off := 140) (tgt := 153) hx hb dX1_carryOut_13 (by rw [c_13_117]; decide) (by rw [c_13_117]; decide) (by rw [c_13_117]; rfl) (by decide) ?_
    refine lv_aload_n hx hb dX1_carryOut_153 rfl (lv_at hl 3 rfl) ?_
    refine lv_aload_n hx hb dX1_carryOut_154 rfl (lv_at hl 1 rfl) ?_
    refine lv_iload_n hx hb dX1_carryOut_155 rfl (lv_at hl 2 rfl) ?_
    refine lv_iconst (v := 1) hx hb dX1_carryOut_156 (by decide) ?_
    refine lv_iadd hx hb dX1_carryOut_157 ?_
    refine sti (x := (nI at_) + 1) (y := nI (at_ + 1)) (nI_1 _) ?_
    refine kSiV hx hb hml hown hts hK hP gX1_carryOut_X1_numberAt okX1_numberAt (qX1_numberAt l D cI cB g L ln (at_ + 1) (by omega) (by omega)) [0, 1] rfl rfl rfl rfl (by decide) hl.1 rfl rfl (Nat.le_of_ble_eq_true rfl) dX1_carryOut_158 (by decide) (fun r_65 hr_66 => ?_)
    replace hr_66 : r_65 = nm_ L ln (at_ + 1) := hr_66
    subst r_65
    obtain ⟨k_, hk_, e_⟩ : ∃ k, k ≤ 99 ∧ nm_ L ln (at_ + 1) = nI k := by first | (have h9 := h0; rw [rst_h (by rw [c_13_106]; decide) (by rw [c_13_106]; decide) (by rw [c_13_106]; decide) (by rw [c_13_106]; decide) (by rw [c_13_106]; decide)] at h9; exact rh_k h9) | (have h9 := h0; rw [rst_h (by rw [c_13_107]; decide) (by rw [c_13_107]; decide) (by rw [c_13_107]; decide) (by rw [c_13_107]; decide) (by rw [c_13_107]; decide)] at h9; exact rh_k h9) | (have h9 := h0; rw [rst_h (by rw [c_13_108]; decide) (by rw [c_13_108]; decide) (by rw [c_13_108]; decide) (by rw [c_13_108]; decide) (by rw [c_13_108]; decide)] at h9; exact rh_k h9) | (have h9 := h0; rw [rst_h (by rw [c_13_109]; decide) (by rw [c_13_109]; decide) (by rw [c_13_109]; decide) (by rw [c_13_109]; decide) (by rw [c_13_109]; decide)] at h9; exact rh_k h9) | (have h9 := h0; rw [rst_h (by rw [c_13_110]; decide) (by rw [c_13_110]; decide) (by rw [c_13_110]; decide) (by rw [c_13_110]; decide) (by rw [c_13_110]; decide)] at h9; exact rh_k h9) | (have h9 := h0; rw [rst_h (by rw [c_13_111]; decide) (by rw [c_13_111]; decide) (by rw [c_13_111]; decide) (by rw [c_13_111]; decide) (by rw [c_13_111]; decide)] at h9; exact rh_k h9) | (have h9 := h0; rw [rst_h (by rw [c_13_114]; decide) (by rw [c_13_114]; decide) (by rw [c_13_114]; decide) (by rw [c_13_114]; decide) (by rw [c_13_114]; decide)] at h9; exact rh_k h9) | (have h9 := h0; rw [rst_h (by rw [c_13_116]; decide) (by rw [c_13_116]; decide) (by rw [c_13_116]; decide) (by rw [c_13_116]; decide) (by rw [c_13_116]; decide)] at h9; exact rh_k h9) | (have h9 := h0; rw [rst_h (by rw [c_13_117]; decide) (by rw [c_13_117]; decide) (by rw [c_13_117]; decide) (by rw [c_13_117]; decide) (by rw [c_13_117]; decide)] at h9; exact rh_k h9) | (have h9 := h0; rw [rst_h c_13_115 c_13_112 c_13_113 c_13_105 c_13_118] at h9; exact rh_k h9)
    refine sti (x := nm_ L ln (at_ + 1)) (y := nI k_) (e_) ?_
    refine kMvN hx hb hml hown hts hK hP hD hA hS gX1_carryOut_X0_passHours_n73 (hK.2 _ (List.mem_of_getElem? (i := 49) rfl)) (hts _ (List.mem_of_getElem? (i := 17) rfl)) (hts _ (List.mem_of_getElem? (i := 38) rfl)) (hts _ (List.mem_of_getElem? (i := 39) rfl)) okX0_passHours (qX0_passHours l D cI cB g 10 T k_ (by show sn_ T ≤ 7; omega) (by omega)) [2, 3, 4, 5, 6, 7] rfl (by decide) (fun _ => rfl) rfl rfl rfl (by decide) hl.1 rfl rfl (Nat.le_of_ble_eq_true rfl) dX1_carryOut_161 (by decide) (fun u_68 H locs hw_69 hP hD hS => ?_)
    replace hw_69 : u_68 = hs_ k_ T := hw_69
    subst u_68
    replace hP : va_P D vwCl (lW cI g L ln ++ bW cI g 10 (hs_ k_ T)) H := (va_P.m [false, false, true, true, true, true, true, true] [] hP)
    replace hD : va_D A (lW cI g L ln ++ bW cI g 10 (hs_ k_ T)) := (va_D.m [false, false, true, true, true, true, true, true] [] hD)
    refine rMv hx hb hr hlk hS (hs_ k_ T) hP ?_ dX1_carryOut_164
    first | exact (cst_s c_13_115).symm | exact (cst_p c_13_112 e_ (by omega)).symm | exact (cst_q c_13_113 e_ (by omega)).symm | exact (cst_i c_13_105).symm | exact (cst_v c_13_118).symm | (exact (cst_h (by rw [c_13_106]; decide) (by rw [c_13_106]; decide) (by rw [c_13_106]; decide) (by rw [c_13_106]; decide) (by rw [c_13_106]; decide) e_ (by omega)).symm) | (exact (cst_h (by rw [c_13_107]; decide) (by rw [c_13_107]; decide) (by rw [c_13_107]; decide) (by rw [c_13_107]; decide) (by rw [c_13_107]; decide) e_ (by omega)).symm) | (exact (cst_h (by rw [c_13_108]; decide) (by rw [c_13_108]; decide) (by rw [c_13_108]; decide) (by rw [c_13_108]; decide) (by rw [c_13_108]; decide) e_ (by omega)).symm) | (exact (cst_h (by rw [c_13_109]; decide) (by rw [c_13_109]; decide) (by rw [c_13_109]; decide) (by rw [c_13_109]; decide) (by rw [c_13_109]; decide) e_ (by omega)).symm) | (exact (cst_h (by rw [c_13_110]; decide) (by rw [c_13_110]; decide) (by rw [c_13_110]; decide) (by rw [c_13_110]; decide) (by rw [c_13_110]; decide) e_ (by omega)).symm) | (exact (cst_h (by rw [c_13_111]; decide) (by rw [c_13_111]; decide) (by rw [c_13_111]; decide) (by rw [c_13_111]; decide) (by rw [c_13_111]; decide) e_ (by omega)).symm) | (exact (cst_h (by rw [c_13_114]; decide) (by rw [c_13_114]; decide) (by rw [c_13_114]; decide) (by rw [c_13_114]; decide) (by rw [c_13_114]; decide) e_ (by omega)).symm) | (exact (cst_h (by rw [c_13_116]; decide) (by rw [c_13_116]; decide) (by rw [c_13_116]; decide) (by rw [c_13_116]; decide) (by rw [c_13_116]; decide) e_ (by omega)).symm) | (exact (cst_h (by rw [c_13_117]; decide) (by rw [c_13_117]; decide) (by rw [c_13_117]; decide) (by rw [c_13_117]; decide) (by rw [c_13_117]; decide) e_ (by omega)).symm) | exact (cst_h c_13_115 c_13_112 c_13_113 c_13_105 c_13_118 e_ (by omega)).symm
  by_cases c_13_118 : la_ L ln at_ = 118
  · refine lv_tableIn (off := 131) (tgt := 144) hx hb dX1_carryOut_13 (by rw [c_13_118]; decide) (by rw [c_13_118]; decide) (by rw [c_13_118]; rfl) (by decide) ?_
    refine lv_aload_n hx hb dX1_carryOut_144 rfl (lv_at hl 3 rfl) ?_
    refine lv_iconst (v := 1) hx hb dX1_carryOut_145 (by decide) ?_
    refine lv_iload_n hx hb dX1_carryOut_146 rfl (lv_at hl 0 rfl) ?_
    refine kMvN hx hb hml hown hts hK hP hD hA hS gX1_carryOut_X0_setIsle_n70 (hK.2 _ (List.mem_of_getElem? (i := 48) rfl)) (hts _ (List.mem_of_getElem? (i := 17) rfl)) (hts _ (List.mem_of_getElem? (i := 33) rfl)) (hts _ (List.mem_of_getElem? (i := 34) rfl)) okX0_setIsle (qX0_setIsle l D cI cB g 10 T 1 (dt_ L ln (at_ + 1)) (by show sn_ T ≤ 7; omega)) [2, 3, 4, 5, 6, 7] rfl (by decide) (fun _ => rfl) rfl rfl rfl (by decide) hl.1 rfl rfl (Nat.le_of_ble_eq_true rfl) dX1_carryOut_147 (by decide) (fun u_71 H locs hw_72 hP hD hS => ?_)
    replace hw_72 : u_71 = uv_ T 1 (dt_ L ln (at_ + 1)) := hw_72
    subst u_71
    replace hP : va_P D vwCl (lW cI g L ln ++ bW cI g 10 (uv_ T 1 (dt_ L ln (at_ + 1)))) H := (va_P.m [false, false, true, true, true, true, true, true] [] hP)
    replace hD : va_D A (lW cI g L ln ++ bW cI g 10 (uv_ T 1 (dt_ L ln (at_ + 1)))) := (va_D.m [false, false, true, true, true, true, true, true] [] hD)
    refine lv_goto (tgt := 164) hx hb dX1_carryOut_150 (by decide) ?_
    refine rMv hx hb hr hlk hS (uv_ T 1 (dt_ L ln (at_ + 1))) hP ?_ dX1_carryOut_164
    first | exact (cst_s c_13_115).symm | exact (cst_p c_13_112 e_ (by omega)).symm | exact (cst_q c_13_113 e_ (by omega)).symm | exact (cst_i c_13_105).symm | exact (cst_v c_13_118).symm | (exact (cst_h (by rw [c_13_106]; decide) (by rw [c_13_106]; decide) (by rw [c_13_106]; decide) (by rw [c_13_106]; decide) (by rw [c_13_106]; decide) e_ (by omega)).symm) | (exact (cst_h (by rw [c_13_107]; decide) (by rw [c_13_107]; decide) (by rw [c_13_107]; decide) (by rw [c_13_107]; decide) (by rw [c_13_107]; decide) e_ (by omega)).symm) | (exact (cst_h (by rw [c_13_108]; decide) (by rw [c_13_108]; decide) (by rw [c_13_108]; decide) (by rw [c_13_108]; decide) (by rw [c_13_108]; decide) e_ (by omega)).symm) | (exact (cst_h (by rw [c_13_109]; decide) (by rw [c_13_109]; decide) (by rw [c_13_109]; decide) (by rw [c_13_109]; decide) (by rw [c_13_109]; decide) e_ (by omega)).symm) | (exact (cst_h (by rw [c_13_110]; decide) (by rw [c_13_110]; decide) (by rw [c_13_110]; decide) (by rw [c_13_110]; decide) (by rw [c_13_110]; decide) e_ (by omega)).symm) | (exact (cst_h (by rw [c_13_111]; decide) (by rw [c_13_111]; decide) (by rw [c_13_111]; decide) (by rw [c_13_111]; decide) (by rw [c_13_111]; decide) e_ (by omega)).symm) | (exact (cst_h (by rw [c_13_114]; decide) (by rw [c_13_114]; decide) (by rw [c_13_114]; decide) (by rw [c_13_114]; decide) (by rw [c_13_114]; decide) e_ (by omega)).symm) | (exact (cst_h (by rw [c_13_116]; decide) (by rw [c_13_116]; decide) (by rw [c_13_116]; decide) (by rw [c_13_116]; decide) (by rw [c_13_116]; decide) e_ (by omega)).symm) | (exact (cst_h (by rw [c_13_117]; decide) (by rw [c_13_117]; decide) (by rw [c_13_117]; decide) (by rw [c_13_117]; decide) (by rw [c_13_117]; decide) e_ (by omega)).symm) | exact (cst_h c_13_115 c_13_112 c_13_113 c_13_105 c_13_118 e_ (by omega)).symm
  refine lv_tableOut (tgt := 153) hx hb dX1_carryOut_13 (by have t0 := lv_neT c_13_105 (a := 105) (by decide); have t1 := lv_neT c_13_106 (a := 106) (by decide); have t2 := lv_neT c_13_107 (a := 107) (by decide); have t3 := lv_neT c_13_108 (a := 108) (by decide); have t4 := lv_neT c_13_109 (a := 109) (by decide); have t5 := lv_neT c_13_110 (a := 110) (by decide); have t6 := lv_neT c_13_111 (a := 111) (by decide); have t7 := lv_neT c_13_112 (a := 112) (by decide); have t8 := lv_neT c_13_113 (a := 113) (by decide); have t9 := lv_neT c_13_114 (a := 114) (by decide); have t10 := lv_neT c_13_115 (a := 115) (by decide); have t11 := lv_neT c_13_116 (a := 116) (by decide); have t12 := lv_neT c_13_117 (a := 117) (by decide); have t13 := lv_neT c_13_118 (a := 118) (by decide); omega) (by decide) ?_
  refine lv_aload_n hx hb dX1_carryOut_153 rfl (lv_at hl 3 rfl) ?_
  refine lv_aload_n hx hb dX1_carryOut_154 rfl (lv_at hl 1 rfl) ?_
  refine lv_iload_n hx hb dX1_carryOut_155 rfl (lv_at hl 2 rfl) ?_
  refine lv_iconst (v := 1) hx hb dX1_carryOut_156 (by decide) ?_
  refine lv_iadd hx hb dX1_carryOut_157 ?_
  refine sti (x := (nI at_) + 1) (y := nI (at_ + 1)) (nI_1 _) ?_
  refine kSiV hx hb hml hown hts hK hP gX1_carryOut_X1_numberAt okX1_numberAt (qX1_numberAt l D cI cB g L ln (at_ + 1) (by omega) (by omega)) [0, 1] rfl rfl rfl rfl (by decide) hl.1 rfl rfl (Nat.le_of_ble_eq_true rfl) dX1_carryOut_158 (by decide) (fun r_73 hr_74 => ?_)
  replace hr_74 : r_73 = nm_ L ln (at_ + 1) := hr_74
  subst r_73
  obtain ⟨k_, hk_, e_⟩ : ∃ k, k ≤ 99 ∧ nm_ L ln (at_ + 1) = nI k := by first | (have h9 := h0; rw [rst_h (by rw [c_13_106]; decide) (by rw [c_13_106]; decide) (by rw [c_13_106]; decide) (by rw [c_13_106]; decide) (by rw [c_13_106]; decide)] at h9; exact rh_k h9) | (have h9 := h0; rw [rst_h (by rw [c_13_107]; decide) (by rw [c_13_107]; decide) (by rw [c_13_107]; decide) (by rw [c_13_107]; decide) (by rw [c_13_107]; decide)] at h9; exact rh_k h9) | (have h9 := h0; rw [rst_h (by rw [c_13_108]; decide) (by rw [c_13_108]; decide) (by rw [c_13_108]; decide) (by rw [c_13_108]; decide) (by rw [c_13_108]; decide)] at h9; exact rh_k h9) | (have h9 := h0; rw [rst_h (by rw [c_13_109]; decide) (by rw [c_13_109]; decide) (by rw [c_13_109]; decide) (by rw [c_13_109]; decide) (by rw [c_13_109]; decide)] at h9; exact rh_k h9) | (have h9 := h0; rw [rst_h (by rw [c_13_110]; decide) (by rw [c_13_110]; decide) (by rw [c_13_110]; decide) (by rw [c_13_110]; decide) (by rw [c_13_110]; decide)] at h9; exact rh_k h9) | (have h9 := h0; rw [rst_h (by rw [c_13_111]; decide) (by rw [c_13_111]; decide) (by rw [c_13_111]; decide) (by rw [c_13_111]; decide) (by rw [c_13_111]; decide)] at h9; exact rh_k h9) | (have h9 := h0; rw [rst_h (by rw [c_13_114]; decide) (by rw [c_13_114]; decide) (by rw [c_13_114]; decide) (by rw [c_13_114]; decide) (by rw [c_13_114]; decide)] at h9; exact rh_k h9) | (have h9 := h0; rw [rst_h (by rw [c_13_116]; decide) (by rw [c_13_116]; decide) (by rw [c_13_116]; decide) (by rw [c_13_116]; decide) (by rw [c_13_116]; decide)] at h9; exact rh_k h9) | (have h9 := h0; rw [rst_h (by rw [c_13_117]; decide) (by rw [c_13_117]; decide) (by rw [c_13_117]; decide) (by rw [c_13_117]; decide) (by rw [c_13_117]; decide)] at h9; exact rh_k h9) | (have h9 := h0; rw [rst_h c_13_115 c_13_112 c_13_113 c_13_105 c_13_118] at h9; exact rh_k h9)
  refine sti (x := nm_ L ln (at_ + 1)) (y := nI k_) (e_) ?_
  refine kMvN hx hb hml hown hts hK hP hD hA hS gX1_carryOut_X0_passHours_n73 (hK.2 _ (List.mem_of_getElem? (i := 49) rfl)) (hts _ (List.mem_of_getElem? (i := 17) rfl)) (hts _ (List.mem_of_getElem? (i := 38) rfl)) (hts _ (List.mem_of_getElem? (i := 39) rfl)) okX0_passHours (qX0_passHours l D cI cB g 10 T k_ (by show sn_ T ≤ 7; omega) (by omega)) [2, 3, 4, 5, 6, 7] rfl (by decide) (fun _ => rfl) rfl rfl rfl (by decide) hl.1 rfl rfl (Nat.le_of_ble_eq_true rfl) dX1_carryOut_161 (by decide) (fun u_76 H locs hw_77 hP hD hS => ?_)
  replace hw_77 : u_76 = hs_ k_ T := hw_77
  subst u_76
  replace hP : va_P D vwCl (lW cI g L ln ++ bW cI g 10 (hs_ k_ T)) H := (va_P.m [false, false, true, true, true, true, true, true] [] hP)
  replace hD : va_D A (lW cI g L ln ++ bW cI g 10 (hs_ k_ T)) := (va_D.m [false, false, true, true, true, true, true, true] [] hD)
  refine rMv hx hb hr hlk hS (hs_ k_ T) hP ?_ dX1_carryOut_164
  first | exact (cst_s c_13_115).symm | exact (cst_p c_13_112 e_ (by omega)).symm | exact (cst_q c_13_113 e_ (by omega)).symm | exact (cst_i c_13_105).symm | exact (cst_v c_13_118).symm | (exact (cst_h (by rw [c_13_106]; decide) (by rw [c_13_106]; decide) (by rw [c_13_106]; decide) (by rw [c_13_106]; decide) (by rw [c_13_106]; decide) e_ (by omega)).symm) | (exact (cst_h (by rw [c_13_107]; decide) (by rw [c_13_107]; decide) (by rw [c_13_107]; decide) (by rw [c_13_107]; decide) (by rw [c_13_107]; decide) e_ (by omega)).symm) | (exact (cst_h (by rw [c_13_108]; decide) (by rw [c_13_108]; decide) (by rw [c_13_108]; decide) (by rw [c_13_108]; decide) (by rw [c_13_108]; decide) e_ (by omega)).symm) | (exact (cst_h (by rw [c_13_109]; decide) (by rw [c_13_109]; decide) (by rw [c_13_109]; decide) (by rw [c_13_109]; decide) (by rw [c_13_109]; decide) e_ (by omega)).symm) | (exact (cst_h (by rw [c_13_110]; decide) (by rw [c_13_110]; decide) (by rw [c_13_110]; decide) (by rw [c_13_110]; decide) (by rw [c_13_110]; decide) e_ (by omega)).symm) | (exact (cst_h (by rw [c_13_111]; decide) (by rw [c_13_111]; decide) (by rw [c_13_111]; decide) (by rw [c_13_111]; decide) (by rw [c_13_111]; decide) e_ (by omega)).symm) | (exact (cst_h (by rw [c_13_114]; decide) (by rw [c_13_114]; decide) (by rw [c_13_114]; decide) (by rw [c_13_114]; decide) (by rw [c_13_114]; decide) e_ (by omega)).symm) | (exact (cst_h (by rw [c_13_116]; decide) (by rw [c_13_116]; decide) (by rw [c_13_116]; decide) (by rw [c_13_116]; decide) (by rw [c_13_116]; decide) e_ (by omega)).symm) | (exact (cst_h (by rw [c_13_117]; decide) (by rw [c_13_117]; decide) (by rw [c_13_117]; decide) (by rw [c_13_117]; decide) (by rw [c_13_117]; decide) e_ (by omega)).symm) | exact (cst_h c_13_115 c_13_112 c_13_113 c_13_105 c_13_118 e_ (by omega)).symm
