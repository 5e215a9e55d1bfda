theorem okX2_timesByTreaty : jok yX2_timesByTreaty wsX2_timesByTreaty cX2_timesByTreaty 6 (some .int) 4 := ⟨⟨_, rfl⟩, by decide +kernel, by decide +kernel⟩
set_option maxHeartbeats 1000000 in
set_option maxRecDepth 100000 in
theorem qX2_timesByTreaty (l : Launch) (D : va_G) (cI cB : ClassId) (g : Nat → Nat) (B : BayT) (T : BayT) (a : Nat) (b : Nat) (j : Nat) (k : Nat) (hn7 : sn_ B ≤ 7) (ha : a < 7) (hb7 : b < 7) (hj : j < 4) (hk : k < 7) : jMi D cI cB l yX2_timesByTreaty wsX2_timesByTreaty 5 [.ref (g 1), .int (nI a), .int (nI b), .int (nI j), .int (nI k)] (miO g ++ bW cI g 4 B ++ bW cI g 10 T) (S := BayT) (fun r u => r = tc_ (tt_ B a b j) k 12) (fun u => miO g ++ bW cI g 4 B ++ bW cI g 10 u) := by
  refine jMi.of (cc := cX2_timesByTreaty) (maxL := 6) (ret := (some .int)) okX2_timesByTreaty (Nat.le_of_ble_eq_true rfl) ?_
  intro p e s m below meth c ls A hx hb hr hts hown hlk hml hP hK hD hA hS hl
  replace hown : s.vm.findClass RX2 = some m.cls := hown
  replace hl : lv_has ls 6 [(0, .ref (g 1)), (1, .int (nI a)), (2, .int (nI b)), (3, .int (nI j)), (4, .int (nI k))] := hl
  refine lv_aload_n hx hb dX2_timesByTreaty_0 rfl (lv_at hl 0 rfl) ?_
  refine kMrV hx hb hml hown hts hK hP hD hA hS gX2_timesByTreaty_X2_asNow okX2_asNow (qX2_asNow l D cI cB g B T ) [0, 1, 2, 3, 4, 5, 6, 7, 8, 9, 10, 11, 12] rfl (by decide) (fun _ => rfl) rfl rfl rfl (by decide) hl.1 rfl rfl (Nat.le_of_ble_eq_true rfl) dX2_timesByTreaty_1 (by decide) (fun u_2 H locs hw_3 hP hD hS => ?_)
  replace hw_3 : u_2 = B := hw_3
  subst u_2
  replace hP : va_P D vwCl (miO g ++ bW cI g 4 B ++ bW cI g 10 (B)) H := hP
  replace hD : va_D A (miO g ++ bW cI g 4 B ++ bW cI g 10 (B)) := hD
  refine lv_astore (lv' := [(5, .ref (g 10)), (0, .ref (g 1)), (1, .int (nI a)), (2, .int (nI b)), (3, .int (nI j)), (4, .int (nI k))]) hx hb dX2_timesByTreaty_4 hl (by decide) rfl (fun ls hl => ?_)
  refine lv_aload hx hb dX2_timesByTreaty_6 (lv_at hl 0 rfl) ?_
  refine lv_iload_n hx hb dX2_timesByTreaty_8 rfl (lv_at hl 2 rfl) ?_
  refine lv_iload_n hx hb dX2_timesByTreaty_9 rfl (lv_at hl 4 rfl) ?_
  refine lv_iconst (v := 2) hx hb dX2_timesByTreaty_10 (by decide) ?_
  refine lv_idiv hx hb dX2_timesByTreaty_11 (by decide) ?_
  refine lv_if_ne (tgt := 19) hx hb dX2_timesByTreaty_12 (by decide) (fun c_12 => ?_) (fun c_12 => ?_)
  · rw [(jd2 hj).1] at c_12
    refine lv_iconst (v := 0) hx hb dX2_timesByTreaty_19 (by decide) ?_
    refine kMvN hx hb hml hown hts hK hP hD hA hS gX2_timesByTreaty_X0_setQuiet_n144 (hK.2 _ (List.mem_of_getElem? (i := 109) rfl)) (hts _ (List.mem_of_getElem? (i := 9) rfl)) (hts _ (List.mem_of_getElem? (i := 27) rfl)) (hts _ (List.mem_of_getElem? (i := 28) rfl)) okX0_setQuiet (qX0_setQuiet l D cI cB g 10 (B) a False inferInstance (by show sn_ (B) ≤ 7; omega) (by omega)) [7, 8, 9, 10, 11, 12] rfl (by decide) (fun _ => rfl) rfl rfl rfl (by decide) hl.1 rfl rfl (Nat.le_of_ble_eq_true rfl) dX2_timesByTreaty_20 (by decide) (fun u_5 H locs hw_6 hP hD hS => ?_)
    replace hw_6 : u_5 = uq_ (B) (sq_ False (qt_ (B)) a) := hw_6
    subst u_5
    replace hP : va_P D vwCl (miO g ++ bW cI g 4 B ++ bW cI g 10 (uq_ (B) (sq_ False (qt_ (B)) a))) H := hP
    replace hD : va_D A (miO g ++ bW cI g 4 B ++ bW cI g 10 (uq_ (B) (sq_ False (qt_ (B)) a))) := hD
    refine lv_aload hx hb dX2_timesByTreaty_23 (lv_at hl 0 rfl) ?_
    refine lv_iload_n hx hb dX2_timesByTreaty_25 rfl (lv_at hl 3 rfl) ?_
    refine lv_iload_n hx hb dX2_timesByTreaty_26 rfl (lv_at hl 4 rfl) ?_
    refine lv_iconst (v := 2) hx hb dX2_timesByTreaty_27 (by decide) ?_
    refine lv_irem hx hb dX2_timesByTreaty_28 (by decide) ?_
    refine lv_if_ne (tgt := 36) hx hb dX2_timesByTreaty_29 (by decide) (fun c_29 => ?_) (fun c_29 => ?_)
    · rw [(jd2 hj).2] at c_29
      refine lv_iconst (v := 0) hx hb dX2_timesByTreaty_36 (by decide) ?_
      refine kMvN hx hb hml hown hts hK hP hD hA hS gX2_timesByTreaty_X0_setQuiet_n144 (hK.2 _ (List.mem_of_getElem? (i := 109) rfl)) (hts _ (List.mem_of_getElem? (i := 9) rfl)) (hts _ (List.mem_of_getElem? (i := 27) rfl)) (hts _ (List.mem_of_getElem? (i := 28) rfl)) okX0_setQuiet (qX0_setQuiet l D cI cB g 10 (uq_ (B) (sq_ False (qt_ (B)) a)) b False inferInstance (by show sn_ (B) ≤ 7; omega) (by omega)) [7, 8, 9, 10, 11, 12] rfl (by decide) (fun _ => rfl) rfl rfl rfl (by decide) hl.1 rfl rfl (Nat.le_of_ble_eq_true rfl) dX2_timesByTreaty_37 (by decide) (fun u_8 H locs hw_9 hP hD hS => ?_)
      replace hw_9 : u_8 = uq_ (uq_ (B) (sq_ False (qt_ (B)) a)) (sq_ False (qt_ (uq_ (B) (sq_ False (qt_ (B)) a))) b) := hw_9
      subst u_8
      replace hP : va_P D vwCl (miO g ++ bW cI g 4 B ++ bW cI g 10 (uq_ (uq_ (B) (sq_ False (qt_ (B)) a)) (sq_ False (qt_ (uq_ (B) (sq_ False (qt_ (B)) a))) b))) H := hP
      replace hD : va_D A (miO g ++ bW cI g 4 B ++ bW cI g 10 (uq_ (uq_ (B) (sq_ False (qt_ (B)) a)) (sq_ False (qt_ (uq_ (B) (sq_ False (qt_ (B)) a))) b))) := hD
      refine lv_aload_n hx hb dX2_timesByTreaty_40 rfl (lv_at hl 1 rfl) ?_
      refine lv_iload hx hb dX2_timesByTreaty_41 (lv_at hl 5 rfl) ?_
      refine lv_bipush (v := 12) hx hb dX2_timesByTreaty_43 (by decide) ?_
      refine kMiV hx hb hml hown hts hK hP hD hA hS gX2_timesByTreaty_X2_timesFromHere okX2_timesFromHere (qX2_timesFromHere l D cI cB g B (uq_ (uq_ (B) (sq_ False (qt_ (B)) a)) (sq_ False (qt_ (uq_ (B) (sq_ False (qt_ (B)) a))) b)) k 12 (by show sn_ B ≤ 7; omega) (by show sn_ B ≤ 7; omega) (by omega) (by omega)) [0, 1, 2, 3, 4, 5, 6, 7, 8, 9, 10, 11, 12] rfl (by decide) (fun _ => rfl) rfl rfl rfl (by decide) hl.1 rfl rfl (Nat.le_of_ble_eq_true rfl) dX2_timesByTreaty_45 (by decide) (fun r_10 u_11 H locs hw_12 hP hD hS => ?_)
      replace hw_12 : r_10 = tc_ (uq_ (uq_ (B) (sq_ False (qt_ (B)) a)) (sq_ False (qt_ (uq_ (B) (sq_ False (qt_ (B)) a))) b)) k 12 ∧ u_11 = hs_ 12 (uq_ (uq_ (B) (sq_ False (qt_ (B)) a)) (sq_ False (qt_ (uq_ (B) (sq_ False (qt_ (B)) a))) b)) := hw_12
      obtain ⟨hw_12a, hw_12b⟩ := hw_12
      subst r_10
      subst u_11
      replace hP : va_P D vwCl (miO g ++ bW cI g 4 B ++ bW cI g 10 (hs_ 12 (uq_ (uq_ (B) (sq_ False (qt_ (B)) a)) (sq_ False (qt_ (uq_ (B) (sq_ False (qt_ (B)) a))) b)))) H := hP
      replace hD : va_D A (miO g ++ bW cI g 4 B ++ bW cI g 10 (hs_ 12 (uq_ (uq_ (B) (sq_ False (qt_ (B)) a)) (sq_ False (qt_ (uq_ (B) (sq_ False (qt_ (B)) a))) b)))) := hD
      refine rMi hx hb hr hlk hS (hs_ 12 (uq_ (uq_ (B) (sq_ False (qt_ (B)) a)) (sq_ False (qt_ (uq_ (B) (sq_ False (qt_ (B)) a))) b))) hP ?_ dX2_timesByTreaty_48
      first | exact congrArg (fun X => tc_ X k 12) (tt_e (P := True) (Q := True) (j := j) (by simp [c_12]) (by simp [c_29])) | exact congrArg (fun X => tc_ X k 12) (tt_e (P := True) (Q := False) (j := j) (by simp [c_12]) (by simp [c_29])) | exact congrArg (fun X => tc_ X k 12) (tt_e (P := False) (Q := True) (j := j) (by simp [c_12]) (by simp [c_29])) | exact congrArg (fun X => tc_ X k 12) (tt_e (P := False) (Q := False) (j := j) (by simp [c_12]) (by simp [c_29]))
    · rw [(jd2 hj).2] at c_29
      refine lv_iconst (v := 1) hx hb dX2_timesByTreaty_32 (by decide) ?_
      refine lv_goto (tgt := 37) hx hb dX2_timesByTreaty_33 (by decide) ?_
      refine kMvN hx hb hml hown hts hK hP hD hA hS gX2_timesByTreaty_X0_setQuiet_n144 (hK.2 _ (List.mem_of_getElem? (i := 109) rfl)) (hts _ (List.mem_of_getElem? (i := 9) rfl)) (hts _ (List.mem_of_getElem? (i := 27) rfl)) (hts _ (List.mem_of_getElem? (i := 28) rfl)) okX0_setQuiet (qX0_setQuiet l D cI cB g 10 (uq_ (B) (sq_ False (qt_ (B)) a)) b True inferInstance (by show sn_ (B) ≤ 7; omega) (by omega)) [7, 8, 9, 10, 11, 12] rfl (by decide) (fun _ => rfl) rfl rfl rfl (by decide) hl.1 rfl rfl (Nat.le_of_ble_eq_true rfl) dX2_timesByTreaty_37 (by decide) (fun u_14 H locs hw_15 hP hD hS => ?_)
      replace hw_15 : u_14 = uq_ (uq_ (B) (sq_ False (qt_ (B)) a)) (sq_ True (qt_ (uq_ (B) (sq_ False (qt_ (B)) a))) b) := hw_15
      subst u_14
      replace hP : va_P D vwCl (miO g ++ bW cI g 4 B ++ bW cI g 10 (uq_ (uq_ (B) (sq_ False (qt_ (B)) a)) (sq_ True (qt_ (uq_ (B) (sq_ False (qt_ (B)) a))) b))) H := hP
      replace hD : va_D A (miO g ++ bW cI g 4 B ++ bW cI g 10 (uq_ (uq_ (B) (sq_ False (qt_ (B)) a)) (sq_ True (qt_ (uq_ (B) (sq_ False (qt_ (B)) a))) b))) := hD
      refine lv_aload_n hx hb dX2_timesByTreaty_40 rfl (lv_at hl 1 rfl) ?_
      refine lv_iload hx hb dX2_timesByTreaty_41 (lv_at hl 5 rfl) ?_
      refine lv_bipush (v := 12) hx hb dX2_timesByTreaty_43 (by decide) ?_
      refine kMiV hx hb hml hown hts hK hP hD hA hS gX2_timesByTreaty_X2_timesFromHere okX2_timesFromHere (qX2_timesFromHere l D cI cB g B (uq_ (uq_ (B) (sq_ False (qt_ (B)) a)) (sq_ True (qt_ (uq_ (B) (sq_ False (qt_ (B)) a))) b)) k 12 (by show sn_ B ≤ 7; omega) (by show sn_ B ≤ 7; omega) (by omega) (by omega)) [0, 1, 2, 3, 4, 5, 6, 7, 8, 9, 10, 11, 12] rfl (by decide) (fun _ => rfl) rfl rfl rfl (by decide) hl.1 rfl rfl (Nat.le_of_ble_eq_true rfl) dX2_timesByTreaty_45 (by decide) (fun r_16 u_17 H locs hw_18 hP hD hS => ?_)
      replace hw_18 : r_16 = tc_ (uq_ (uq_ (B) (sq_ False (qt_ (B)) a)) (sq_ True (qt_ (uq_ (B) (sq_ False (qt_ (B)) a))) b)) k 12 ∧ u_17 = hs_ 12 (uq_ (uq_ (B) (sq_ False (qt_ (B)) a)) (sq_ True (qt_ (uq_ (B) (sq_ False (qt_ (B)) a))) b)) := hw_18
      obtain ⟨hw_18a, hw_18b⟩ := hw_18
      subst r_16
      subst u_17
      replace hP : va_P D vwCl (miO g ++ bW cI g 4 B ++ bW cI g 10 (hs_ 12 (uq_ (uq_ (B) (sq_ False (qt_ (B)) a)) (sq_ True (qt_ (uq_ (B) (sq_ False (qt_ (B)) a))) b)))) H := hP
      replace hD : va_D A (miO g ++ bW cI g 4 B ++ bW cI g 10 (hs_ 12 (uq_ (uq_ (B) (sq_ False (qt_ (B)) a)) (sq_ True (qt_ (uq_ (B) (sq_ False (qt_ (B)) a))) b)))) := hD
      refine rMi hx hb hr hlk hS (hs_ 12 (uq_ (uq_ (B) (sq_ False (qt_ (B)) a)) (sq_ True (qt_ (uq_ (B) (sq_ False (qt_ (B)) a))) b))) hP ?_ dX2_timesByTreaty_48
      first | exact congrArg (fun X => tc_ X k 12) (tt_e (P := True) (Q := True) (j := j) (by simp [c_12]) (by simp [c_29])) | exact congrArg (fun X => tc_ X k 12) (tt_e (P := True) (Q := False) (j := j) (by simp [c_12]) (by simp [c_29])) | exact congrArg (fun X => tc_ X k 12) (tt_e (P := False) (Q := True) (j := j) (by simp [c_12]) (by simp [c_29])) | exact congrArg (fun X => tc_ X k 12) (tt_e (P := False) (Q := False) (j := j) (by simp [c_12]) (by simp [c_29]))
  · rw [(jd2 hj).1] at c_12
    refine lv_iconst (v := 1) hx hb dX2_timesByTreaty_15 (by decide) ?_
    refine lv_goto (tgt := 20) hx hb dX2_timesByTreaty_16 (by decide) ?_
    refine kMvN hx hb hml hown hts hK hP hD hA hS gX2_timesByTreaty_X0_setQuiet_n144 (hK.2 _ (List.mem_of_getElem? (i := 109) rfl)) (hts _ (List.mem_of_getElem? (i := 9) rfl)) (hts _ (List.mem_of_getElem? (i := 27) rfl)) (hts _ (List.mem_of_getElem? (i := 28) rfl)) okX0_setQuiet (qX0_setQuiet l D cI cB g 10 (B) a True inferInstance (by show sn_ (B) ≤ 7; omega) (by omega)) [7, 8, 9, 10, 11, 12] rfl (by decide) (fun _ => rfl) rfl rfl rfl (by decide) hl.1 rfl rfl (Nat.le_of_ble_eq_true rfl) dX2_timesByTreaty_20 (by decide) (fun u_20 H locs hw_21 hP hD hS => ?_)
    replace hw_21 : u_20 = uq_ (B) (sq_ True (qt_ (B)) a) := hw_21
    subst u_20
    replace hP : va_P D vwCl (miO g ++ bW cI g 4 B ++ bW cI g 10 (uq_ (B) (sq_ True (qt_ (B)) a))) H := hP
    replace hD : va_D A (miO g ++ bW cI g 4 B ++ bW cI g 10 (uq_ (B) (sq_ True (qt_ (B)) a))) := hD
    refine lv_aload hx hb dX2_timesByTreaty_23 (lv_at hl 0 rfl) ?_
    refine lv_iload_n hx hb dX2_timesByTreaty_25 rfl (lv_at hl 3 rfl) ?_
    refine lv_iload_n hx hb dX2_timesByTreaty_26 rfl (lv_at hl 4 rfl) ?_
    refine lv_iconst (v := 2) hx hb dX2_timesByTreaty_27 (by decide) ?_
    refine lv_irem hx hb dX2_timesByTreaty_28 (by decide) ?_
    refine lv_if_ne (tgt := 36) hx hb dX2_timesByTreaty_29 (by decide) (fun c_29 => ?_) (fun c_29 => ?_)
    · rw [(jd2 hj).2] at c_29
      refine lv_iconst (v := 0) hx hb dX2_timesByTreaty_36 (by decide) ?_
      refine kMvN hx hb hml hown hts hK hP hD hA hS gX2_timesByTreaty_X0_setQuiet_n144 (hK.2 _ (List.mem_of_getElem? (i := 109) rfl)) (hts _ (List.mem_of_getElem? (i := 9) rfl)) (hts _ (List.mem_of_getElem? (i := 27) rfl)) (hts _ (List.mem_of_getElem? (i := 28) rfl)) okX0_setQuiet (qX0_setQuiet l D cI cB g 10 (uq_ (B) (sq_ True (qt_ (B)) a)) b False inferInstance (by show sn_ (B) ≤ 7; omega) (by omega)) [7, 8, 9, 10, 11, 12] rfl (by decide) (fun _ => rfl) rfl rfl rfl (by decide) hl.1 rfl rfl (Nat.le_of_ble_eq_true rfl) dX2_timesByTreaty_37 (by decide) (fun u_23 H locs hw_24 hP hD hS => ?_)
      replace hw_24 : u_23 = uq_ (uq_ (B) (sq_ True (qt_ (B)) a)) (sq_ False (qt_ (uq_ (B) (sq_ True (qt_ (B)) a))) b) := hw_24
      subst u_23
      replace hP : va_P D vwCl (miO g ++ bW cI g 4 B ++ bW cI g 10 (uq_ (uq_ (B) (sq_ True (qt_ (B)) a)) (sq_ False (qt_ (uq_ (B) (sq_ True (qt_ (B)) a))) b))) H := hP
      replace hD : va_D A (miO g ++ bW cI g 4 B ++ bW cI g 10 (uq_ (uq_ (B) (sq_ True (qt_ (B)) a)) (sq_ False (qt_ (uq_ (B) (sq_ True (qt_ (B)) a))) b))) := hD
      refine lv_aload_n hx hb dX2_timesByTreaty_40 rfl (lv_at hl 1 rfl) ?_
      refine lv_iload hx hb dX2_timesByTreaty_41 (lv_at hl 5 rfl) ?_
      refine lv_bipush (v := 12) hx hb dX2_timesByTreaty_43 (by decide) ?_
      refine kMiV hx hb hml hown hts hK hP hD hA hS gX2_timesByTreaty_X2_timesFromHere okX2_timesFromHere (qX2_timesFromHere l D cI cB g B (uq_ (uq_ (B) (sq_ True (qt_ (B)) a)) (sq_ False (qt_ (uq_ (B) (sq_ True (qt_ (B)) a))) b)) k 12 (by show sn_ B ≤ 7; omega) (by show sn_ B ≤ 7; omega) (by omega) (by omega)) [0, 1, 2, 3, 4, 5, 6, 7, 8, 9, 10, 11, 12] rfl (by decide) (fun _ => rfl) rfl rfl rfl (by decide) hl.1 rfl rfl (Nat.le_of_ble_eq_true rfl) dX2_timesByTreaty_45 (by decide) (fun r_25 u_26 H locs hw_27 hP hD hS => ?_)
      replace hw_27 : r_25 = tc_ (uq_ (uq_ (B) (sq_ True (qt_ (B)) a)) (sq_ False (qt_ (uq_ (B) (sq_ True (qt_ (B)) a))) b)) k 12 ∧ u_26 = hs_ 12 (uq_ (uq_ (B) (sq_ True (qt_ (B)) a)) (sq_ False (qt_ (uq_ (B) (sq_ True (qt_ (B)) a))) b)) := hw_27
      obtain ⟨hw_27a, hw_27b⟩ := hw_27
      subst r_25
      subst u_26
      replace hP : va_P D vwCl (miO g ++ bW cI g 4 B ++ bW cI g 10 (hs_ 12 (uq_ (uq_ (B) (sq_ True (qt_ (B)) a)) (sq_ False (qt_ (uq_ (B) (sq_ True (qt_ (B)) a))) b)))) H := hP
      replace hD : va_D A (miO g ++ bW cI g 4 B ++ bW cI g 10 (hs_ 12 (uq_ (uq_ (B) (sq_ True (qt_ (B)) a)) (sq_ False (qt_ (uq_ (B) (sq_ True (qt_ (B)) a))) b)))) := hD
      refine rMi hx hb hr hlk hS (hs_ 12 (uq_ (uq_ (B) (sq_ True (qt_ (B)) a)) (sq_ False (qt_ (uq_ (B) (sq_ True (qt_ (B)) a))) b))) hP ?_ dX2_timesByTreaty_48
      first | exact congrArg (fun X => tc_ X k 12) (tt_e (P := True) (Q := True) (j := j) (by simp [c_12]) (by simp [c_29])) | exact congrArg (fun X => tc_ X k 12) (tt_e (P := True) (Q := False) (j := j) (by simp [c_12]) (by simp [c_29])) | exact congrArg (fun X => tc_ X k 12) (tt_e (P := False) (Q := True) (j := j) (by simp [c_12]) (by simp [c_29])) | exact congrArg (fun X => tc_ X k 12) (tt_e (P := False) (Q := False) (j := j) (by simp [c_12]) (by simp [c_29]))
    · rw [(jd2 hj).2] at c_29
      refine lv_iconst (v := 1) hx hb dX2_timesByTreaty_32 (by decide) ?_
      refine lv_goto (tgt := 37) hx hb dX2_timesByTreaty_33 (by decide) ?_
      refine kMvN hx hb hml hown hts hK hP hD hA hS gX2_timesByTreaty_X0_setQuiet_n144 (hK.2 _ (List.mem_of_getElem? (i := 109) rfl)) (hts _ (List.mem_of_getElem? (i := 9) rfl)) (hts _ (List.mem_of_getElem? (i := 27) rfl)) (hts _ (List.mem_of_getElem? (i := 28) rfl)) okX0_setQuiet (qX0_setQuiet l D cI cB g 10 (uq_ (B) (sq_ True (qt_ (B)) a)) b True inferInstance (by show sn_ (B) ≤ 7; omega) (by omega)) [7, 8, 9, 10, 11, 12] rfl (by decide) (fun _ => rfl) rfl rfl rfl (by decide) hl.1 rfl rfl (Nat.le_of_ble_eq_true rfl) dX2_timesByTreaty_37 (by decide) (fun u_29 H locs hw_30 hP hD hS => ?_)
      replace hw_30 : u_29 = uq_ (uq_ (B) (sq_ True (qt_ (B)) a)) (sq_ True (qt_ (uq_ (B) (sq_ True (qt_ (B)) a))) b) := hw_30
      subst u_29
      replace hP : va_P D vwCl (miO g ++ bW cI g 4 B ++ bW cI g 10 (uq_ (uq_ (B) (sq_ True (qt_ (B)) a)) (sq_ True (qt_ (uq_ (B) (sq_ True (qt_ (B)) a))) b))) H := hP
      replace hD : va_D A (miO g ++ bW cI g 4 B ++ bW cI g 10 (uq_ (uq_ (B) (sq_ True (qt_ (B)) a)) (sq_ True (qt_ (uq_ (B) (sq_ True (qt_ (B)) a))) b))) := hD
      refine lv_aload_n hx hb dX2_timesByTreaty_40 rfl (lv_at hl 1 rfl) ?_
      refine lv_iload hx hb dX2_timesByTreaty_41 (lv_at hl 5 rfl) ?_
      refine lv_bipush (v := 12) hx hb dX2_timesByTreaty_43 (by decide) ?_
      refine kMiV hx hb hml hown hts hK hP hD hA hS gX2_timesByTreaty_X2_timesFromHere okX2_timesFromHere (qX2_timesFromHere l D cI cB g B (uq_ (uq_ (B) (sq_ True (qt_ (B)) a)) (sq_ True (qt_ (uq_ (B) (sq_ True (qt_ (B)) a))) b)) k 12 (by show sn_ B ≤ 7; omega) (by show sn_ B ≤ 7; omega) (by omega) (by omega)) [0, 1, 2, 3, 4, 5, 6, 7, 8, 9, 10, 11, 12] rfl (by decide) (fun _ => rfl) rfl rfl rfl (by decide) hl.1 rfl rfl (Nat.le_of_ble_eq_true rfl) dX2_timesByTreaty_45 (by decide) (fun r_31 u_32 H locs hw_33 hP hD hS => ?_)
      replace hw_33 : r_31 = tc_ (uq_ (uq_ (B) (sq_ True (qt_ (B)) a)) (sq_ True (qt_ (uq_ (B) (sq_ True (qt_ (B)) a))) b)) k 12 ∧ u_32 = hs_ 12 (uq_ (uq_ (B) (sq_ True (qt_ (B)) a)) (sq_ True (qt_ (uq_ (B) (sq_ True (qt_ (B)) a))) b)) := hw_33
      obtain ⟨hw_33a, hw_33b⟩ := hw_33
      subst r_31
      subst u_32
      replace hP : va_P D vwCl (miO g ++ bW cI g 4 B ++ bW cI g 10 (hs_ 12 (uq_ (uq_ (B) (sq_ True (qt_ (B)) a)) (sq_ True (qt_ (uq_ (B) (sq_ True (qt_ (B)) a))) b)))) H := hP
      replace hD : va_D A (miO g ++ bW cI g 4 B ++ bW cI g 10 (hs_ 12 (uq_ (uq_ (B) (sq_ True (qt_ (B)) a)) (sq_ True (qt_ (uq_ (B) (sq_ True (qt_ (B)) a))) b)))) := hD
      refine rMi hx hb hr hlk hS (hs_ 12 (uq_ (uq_ (B) (sq_ True (qt_ (B)) a)) (sq_ True (qt_ (uq_ (B) (sq_ True (qt_ (B)) a))) b))) hP ?_ dX2_timesByTreaty_48
      first | exact congrArg (fun X => tc_ X k 12) (tt_e (P := True) (Q := True) (j := j) (by simp [c_12]) (by simp [c_29])) | exact congrArg (fun X => tc_ X k 12) (tt_e (P := True) (Q := False) (j := j) (by simp [c_12]) (by simp [c_29])) | exact congrArg (fun X => tc_ X k 12) (tt_e (P := False) (Q := True) (j := j) (by simp [c_12]) (by simp [c_29])) | exact congrArg (fun X => tc_ X k 12) (tt_e (P := False) (Q := False) (j := j) (by simp [c_12]) (by simp [c_29]))

theorem okX2_weighTreaty : jok yX2_weighTreaty wsX2_weighTreaty cX2_weighTreaty 4 none 2 := ⟨⟨_, rfl⟩, by decide +kernel, by decide +kernel⟩
set_option maxHeartbeats 1000000 in
set_option maxRecDepth 100000 in
theorem qX2_weighTreaty (l : Launch) (D : va_G) (cI cB : ClassId) (g : Nat → Nat) (B : BayT) (T : BayT) (f1 : Nat → Int32) (f2 : Nat → Int32) (a : Nat) (b : Nat) (hn7 : sn_ B ≤ 7) (ha : a < 7) (hb7 : b < 7) : jMv D cI cB l yX2_weighTreaty wsX2_weighTreaty 6 [.ref (g 1), .int (nI a), .int (nI b)] (miO g ++ bW cI g 4 B ++ bW cI g 10 T ++ [(g 2, .inl (cI, 4, .inl f1))] ++ [(g 3, .inl (cI, 4, .inl f2))]) (S := BayT) (fun u => True) (fun u => miO g ++ bW cI g 4 B ++ bW cI g 10 u ++ [(g 2, .inl (cI, 4, .inl (fun j => tc_ (tt_ B a b j) a 12)))] ++ [(g 3, .inl (cI, 4, .inl (fun j => tc_ (tt_ B a b j) b 12)))]) := by
  refine jMv.of (cc := cX2_weighTreaty) (maxL := 4) (ret := none) okX2_weighTreaty (Nat.le_of_ble_eq_true rfl) ?_
  intro p e s m below meth c ls A hx hb hr hts hown hlk hml hP hK hD hA hS hl
  replace hown : s.vm.findClass RX2 = some m.cls := hown
  replace hl : lv_has ls 4 [(0, .ref (g 1)), (1, .int (nI a)), (2, .int (nI b))] := hl
  have hinX2 : ∀ w ∈ wsX20, w ∈ wsX2_weighTreaty := by decide +kernel
  refine lv_iconst (v := 0) hx hb dX2_weighTreaty_0 (by decide) ?_
  refine lv_istore_n (lv' := [(3, .int 0), (0, .ref (g 1)), (1, .int (nI a)), (2, .int (nI b))]) hx hb dX2_weighTreaty_1 rfl hl (by decide) rfl (fun ls hl => ?_)
  have lp_2 : ∀ (fu_2 : Nat) (i : Nat) (x3_2 : Int32) (T2 : BayT) (F1 : Nat → Int32) (F2 : Nat → Int32), (x3_2 = nI i) → (F1 = ta_ B a b a f1 i) → (F2 = ta_ B a b b f2 i) → (i ≤ 4) → 4 - i < fu_2 → ∀ (H : Heap) (locs : List Loc), va_P D vwCl (miO g ++ bW cI g 4 B ++ bW cI g 10 T2 ++ [(g 2, .inl (cI, 4, .inl F1))] ++ [(g 3, .inl (cI, 4, .inl F2))]) H → va_D A (miO g ++ bW cI g 4 B ++ bW cI g 10 T2 ++ [(g 2, .inl (cI, 4, .inl F1))] ++ [(g 3, .inl (cI, 4, .inl F2))]) → va_S A s.heap H locs → ∀ ls : Array Slot, lv_has ls 4 [(3, .int x3_2), (0, .ref (g 1)), (1, .int (nI a)), (2, .int (nI b))] → W p l e (jR 6) s m ([.ref (g 1), .int (nI a), .int (nI b)] : List Value).toArray below meth c H locs 0 0 (MQ below (va_Qv (S := BayT) (fun u => True) (fun u t => va_P D vwCl ((fun u => miO g ++ bW cI g 4 B ++ bW cI g 10 u ++ [(g 2, .inl (cI, 4, .inl (fun j => tc_ (tt_ B a b j) a 12)))] ++ [(g 3, .inl (cI, 4, .inl (fun j => tc_ (tt_ B a b j) b 12)))]) u) t.heap) A) ([.ref (g 1), .int (nI a), .int (nI b)] : List Value).toArray s 0 0 A) (F0 m 2 ls []) := by
    intro fu_2
    induction fu_2 with
    | zero => intro i x3_2 T2 F1 F2 hx3_2 hF1 hF2 hi hfu; exact absurd hfu (Nat.not_lt_zero _)
    | succ fu_2 ih_2 =>
      intro i x3_2 T2 F1 F2 hx3_2 hF1 hF2 hi hfu_2 H locs hP hD hS ls hl
      subst x3_2
      subst F1
      subst F2
      replace hl : lv_has ls 4 [(3, .int (nI i)), (0, .ref (g 1)), (1, .int (nI a)), (2, .int (nI b))] := hl
      replace hP : va_P D vwCl (miO g ++ bW cI g 4 B ++ bW cI g 10 T2 ++ [(g 2, .inl (cI, 4, .inl (ta_ B a b a f1 i)))] ++ [(g 3, .inl (cI, 4, .inl (ta_ B a b b f2 i)))]) H := hP
      replace hD : va_D A (miO g ++ bW cI g 4 B ++ bW cI g 10 T2 ++ [(g 2, .inl (cI, 4, .inl (ta_ B a b a f1 i)))] ++ [(g 3, .inl (cI, 4, .inl (ta_ B a b b f2 i)))]) := hD
      refine lv_iload_n hx hb dX2_weighTreaty_2 rfl (lv_at hl 0 rfl) ?_
      refine lv_iconst (v := 4) hx hb dX2_weighTreaty_3 (by decide) ?_
      refine lv_icmp_ge (tgt := 41) hx hb dX2_weighTreaty_4 (by decide) (fun c_4 => ?_) (fun c_4 => ?_)
      · replace c_4 : nI 4 ≤ nI i := c_4
        rw [jle (by omega) (by omega)] at c_4
        replace hP := va_P.cong (g := (fun j => tc_ (tt_ B a b j) a 12)) hP 13 rfl (fun j hj => by show ta_ B a b a f1 i j = _; unfold ta_; rw [if_pos (by omega)])
        replace hP : va_P D vwCl (miO g ++ bW cI g 4 B ++ bW cI g 10 T2 ++ [(g 2, .inl (cI, 4, .inl (fun j => tc_ (tt_ B a b j) a 12)))] ++ [(g 3, .inl (cI, 4, .inl (ta_ B a b b f2 i)))]) H := hP
        replace hD : va_D A (miO g ++ bW cI g 4 B ++ bW cI g 10 T2 ++ [(g 2, .inl (cI, 4, .inl (fun j => tc_ (tt_ B a b j) a 12)))] ++ [(g 3, .inl (cI, 4, .inl (ta_ B a b b f2 i)))]) := va_D.adr hD rfl
        replace hP := va_P.cong (g := (fun j => tc_ (tt_ B a b j) b 12)) hP 14 rfl (fun j hj => by show ta_ B a b b f2 i j = _; unfold ta_; rw [if_pos (by omega)])
        replace hP : va_P D vwCl (miO g ++ bW cI g 4 B ++ bW cI g 10 T2 ++ [(g 2, .inl (cI, 4, .inl (fun j => tc_ (tt_ B a b j) a 12)))] ++ [(g 3, .inl (cI, 4, .inl (fun j => tc_ (tt_ B a b j) b 12)))]) H := hP
        replace hD : va_D A (miO g ++ bW cI g 4 B ++ bW cI g 10 T2 ++ [(g 2, .inl (cI, 4, .inl (fun j => tc_ (tt_ B a b j) a 12)))] ++ [(g 3, .inl (cI, 4, .inl (fun j => tc_ (tt_ B a b j) b 12)))]) := va_D.adr hD rfl
        refine rMv hx hb hr hlk hS T2 hP ?_ dX2_weighTreaty_41
        trivial
      · replace c_4 : ¬ nI 4 ≤ nI i := c_4
        rw [jle (by omega) (by omega)] at c_4
        refine lv_aload_n hx hb dX2_weighTreaty_7 rfl (lv_at hl 1 rfl) ?_
        refine va_get (ci := 2) (C := RX2) (T := TX2) (N := 4) hx hb hts hinX2 hown hK.1 hP 0 rfl rfl 2 (by decide) (hts _ (List.mem_of_getElem? (i := 1) rfl)) (fun _ h9 => h9) rfl dX2_weighTreaty_8 ?_
        refine lv_iload_n hx hb dX2_weighTreaty_11 rfl (lv_at hl 0 rfl) ?_
        refine lv_aload_n hx hb dX2_weighTreaty_12 rfl (lv_at hl 1 rfl) ?_
        refine lv_iload_n hx hb dX2_weighTreaty_13 rfl (lv_at hl 2 rfl) ?_
        refine lv_iload_n hx hb dX2_weighTreaty_14 rfl (lv_at hl 3 rfl) ?_
        refine lv_iload_n hx hb dX2_weighTreaty_15 rfl (lv_at hl 0 rfl) ?_
        refine lv_iload_n hx hb dX2_weighTreaty_16 rfl (lv_at hl 2 rfl) ?_
        refine kMiV hx hb hml hown hts hK hP hD hA hS gX2_weighTreaty_X2_timesByTreaty okX2_timesByTreaty (qX2_timesByTreaty l D cI cB g B T2 a b i a (by show sn_ B ≤ 7; omega) (by omega) (by omega) (by omega) (by omega)) [0, 1, 2, 3, 4, 5, 6, 7, 8, 9, 10, 11, 12] rfl (by decide) (fun _ => rfl) rfl rfl rfl (by decide) hl.1 rfl rfl (Nat.le_of_ble_eq_true rfl) dX2_weighTreaty_17 (by decide) (fun r_1 u_2 H locs hw_3 hP hD hS => ?_)
        replace hw_3 : r_1 = tc_ (tt_ B a b i) a 12 := hw_3
        subst r_1
        replace hP : va_P D vwCl (miO g ++ bW cI g 4 B ++ bW cI g 10 u_2 ++ [(g 2, .inl (cI, 4, .inl (ta_ B a b a f1 i)))] ++ [(g 3, .inl (cI, 4, .inl (ta_ B a b b f2 i)))]) H := hP
        replace hD : va_D A (miO g ++ bW cI g 4 B ++ bW cI g 10 u_2 ++ [(g 2, .inl (cI, 4, .inl (ta_ B a b a f1 i)))] ++ [(g 3, .inl (cI, 4, .inl (ta_ B a b b f2 i)))]) := hD
        refine jast hx hb hK.1 hP hD hS 13 0 i rfl rfl rfl (by omega) (Nat.le_of_ble_eq_true rfl) dX2_weighTreaty_20 (fun f_4 ef_4 H locs hP hD hS => ?_)
        replace ef_4 : f_4 = upd (ta_ B a b a f1 i) i (tc_ (tt_ B a b i) a 12) := ef_4
        replace hP : va_P D vwCl (miO g ++ bW cI g 4 B ++ bW cI g 10 u_2 ++ [(g 2, .inl (cI, 4, .inl f_4))] ++ [(g 3, .inl (cI, 4, .inl (ta_ B a b b f2 i)))]) H := hP
        replace hD : va_D A (miO g ++ bW cI g 4 B ++ bW cI g 10 u_2 ++ [(g 2, .inl (cI, 4, .inl f_4))] ++ [(g 3, .inl (cI, 4, .inl (ta_ B a b b f2 i)))]) := hD
        refine lv_aload_n hx hb dX2_weighTreaty_21 rfl (lv_at hl 1 rfl) ?_
        refine va_get (ci := 2) (C := RX2) (T := TX2) (N := 4) hx hb hts hinX2 hown hK.1 hP 0 rfl rfl 3 (by decide) (hts _ (List.mem_of_getElem? (i := 2) rfl)) (fun _ h9 => h9) rfl dX2_weighTreaty_22 ?_
        refine lv_iload_n hx hb dX2_weighTreaty_25 rfl (lv_at hl 0 rfl) ?_
        refine lv_aload_n hx hb dX2_weighTreaty_26 rfl (lv_at hl 1 rfl) ?_
        refine lv_iload_n hx hb dX2_weighTreaty_27 rfl (lv_at hl 2 rfl) ?_
        refine lv_iload_n hx hb dX2_weighTreaty_28 rfl (lv_at hl 3 rfl) ?_
        refine lv_iload_n hx hb dX2_weighTreaty_29 rfl (lv_at hl 0 rfl) ?_
        refine lv_iload_n hx hb dX2_weighTreaty_30 rfl (lv_at hl 3 rfl) ?_
        refine kMiV hx hb hml hown hts hK hP hD hA hS gX2_weighTreaty_X2_timesByTreaty okX2_timesByTreaty (qX2_timesByTreaty l D cI cB g B u_2 a b i b (by show sn_ B ≤ 7; omega) (by omega) (by omega) (by omega) (by omega)) [0, 1, 2, 3, 4, 5, 6, 7, 8, 9, 10, 11, 12] rfl (by decide) (fun _ => rfl) rfl rfl rfl (by decide) hl.1 rfl rfl (Nat.le_of_ble_eq_true rfl) dX2_weighTreaty_31 (by decide) (fun r_5 u_6 H locs hw_7 hP hD hS => ?_)
        replace hw_7 : r_5 = tc_ (tt_ B a b i) b 12 := hw_7
        subst r_5
        replace hP : va_P D vwCl (miO g ++ bW cI g 4 B ++ bW cI g 10 u_6 ++ [(g 2, .inl (cI, 4, .inl f_4))] ++ [(g 3, .inl (cI, 4, .inl (ta_ B a b b f2 i)))]) H := hP
        replace hD : va_D A (miO g ++ bW cI g 4 B ++ bW cI g 10 u_6 ++ [(g 2, .inl (cI, 4, .inl f_4))] ++ [(g 3, .inl (cI, 4, .inl (ta_ B a b b f2 i)))]) := hD
        refine jast hx hb hK.1 hP hD hS 14 0 i rfl rfl rfl (by omega) (Nat.le_of_ble_eq_true rfl) dX2_weighTreaty_34 (fun f_8 ef_8 H locs hP hD hS => ?_)
        replace ef_8 : f_8 = upd (ta_ B a b b f2 i) i (tc_ (tt_ B a b i) b 12) := ef_8
        replace hP : va_P D vwCl (miO g ++ bW cI g 4 B ++ bW cI g 10 u_6 ++ [(g 2, .inl (cI, 4, .inl f_4))] ++ [(g 3, .inl (cI, 4, .inl f_8))]) H := hP
        replace hD : va_D A (miO g ++ bW cI g 4 B ++ bW cI g 10 u_6 ++ [(g 2, .inl (cI, 4, .inl f_4))] ++ [(g 3, .inl (cI, 4, .inl f_8))]) := hD
        refine lv_iinc (v := (nI i) + 1) (lv' := [(3, .int ((nI i) + 1)), (0, .ref (g 1)), (1, .int (nI a)), (2, .int (nI b))]) hx hb dX2_weighTreaty_35 hl (k := 0) rfl (by first | rfl | decide) (by decide) rfl (fun ls hl => ?_)
        refine lv_goto (tgt := 2) hx hb dX2_weighTreaty_38 (by decide) ?_
        (try rw [ef_8] at hP); (try rw [ef_8] at hD); (try rw [ef_8] at hl); (try rw [ef_8] at c_4); (try rw [ef_8])
        (try rw [ef_4] at hP); (try rw [ef_4] at hD); (try rw [ef_4] at hl); (try rw [ef_4] at c_4); (try rw [ef_4])
        exact ih_2 (i + 1) ((nI i) + 1) u_6 (upd (ta_ B a b a f1 i) i (tc_ (tt_ B a b i) a 12)) (upd (ta_ B a b b f2 i) i (tc_ (tt_ B a b i) b 12)) (by first | rfl | exact nI_1 _) (ta_s B a b a f1 i) (ta_s B a b b f2 i) (by omega) (by omega) _ _ hP hD hS ls (lv_sub hl [0, 1, 2, 3] rfl)
  exact lp_2 (4 + 1) 0 0 T f1 f2 (by first | rfl | exact nI_0.symm) (by funext j; unfold ta_; rw [if_neg (Nat.not_lt_zero _)]) (by funext j; unfold ta_; rw [if_neg (Nat.not_lt_zero _)]) (by omega) (by omega) _ _ hP hD hS ls (lv_sub hl [0, 1, 2, 3] rfl)

theorem okX2_thunderWays : jok yX2_thunderWays wsX2_thunderWays cX2_thunderWays 12 (some .long) 3 := ⟨⟨_, rfl⟩, by decide +kernel, by decide +kernel⟩
set_option maxHeartbeats 1000000 in
set_option maxRecDepth 100000 in
theorem qX2_thunderWays (l : Launch) (D : va_G) (cI cB : ClassId) (g : Nat → Nat) (B : BayT) (T : BayT) (k : Nat) (n : Nat) (t : Int32) (hn7 : sn_ B ≤ 7) (hk : k < 7) (hn : n ≤ 7) : jMl D cI cB l yX2_thunderWays wsX2_thunderWays 4 [.ref (g 1), .int (nI k), .int (nI n), .int t] (miO g ++ bW cI g 4 B ++ bW cI g 10 T) (S := BayT) (fun r u => r = wy_ B k n t (p2_ n)) (fun u => miO g ++ bW cI g 4 B ++ bW cI g 10 u) := by
  refine jMl.of (cc := cX2_thunderWays) (maxL := 12) (ret := (some .long)) okX2_thunderWays (Nat.le_of_ble_eq_true rfl) ?_
  intro p e s m below meth c ls A hx hb hr hts hown hlk hml hP hK hD hA hS hl
  replace hown : s.vm.findClass RX2 = some m.cls := hown
  replace hl : lv_has ls 12 [(0, .ref (g 1)), (1, .int (nI k)), (2, .int (nI n)), (3, .int t)] := hl
  have hp2 := p2_7 hn
  refine lv_lconst (v := 0) hx hb dX2_thunderWays_0 rfl ?_
  refine lv_lstore (lv' := [(4, .long 0), (0, .ref (g 1)), (1, .int (nI k)), (2, .int (nI n)), (3, .int t)]) hx hb dX2_thunderWays_1 hl (by decide) rfl (fun ls hl => ?_)
  refine lv_iconst (v := 0) hx hb dX2_thunderWays_3 (by decide) ?_
  refine lv_istore (lv' := [(6, .int 0), (4, .long 0), (0, .ref (g 1)), (1, .int (nI k)), (2, .int (nI n)), (3, .int t)]) hx hb dX2_thunderWays_4 hl (by decide) rfl (fun ls hl => ?_)
  have lp_6 : ∀ (fu_6 : Nat) (i : Nat) (x4_6 : Int64) (x6_6 : Int32) (T2 : BayT), (x4_6 = wy_ B k n t i) → (x6_6 = nI i) → (i ≤ p2_ n) → p2_ n - i < fu_6 → ∀ (H : Heap) (locs : List Loc), va_P D vwCl (miO g ++ bW cI g 4 B ++ bW cI g 10 T2) H → va_D A (miO g ++ bW cI g 4 B ++ bW cI g 10 T2) → va_S A s.heap H locs → ∀ ls : Array Slot, lv_has ls 12 [(6, .int x6_6), (4, .long x4_6), (0, .ref (g 1)), (1, .int (nI k)), (2, .int (nI n)), (3, .int t)] → W p l e (jR 4) s m ([.ref (g 1), .int (nI k), .int (nI n), .int t] : List Value).toArray below meth c H locs 0 0 (MQ below (va_Ql (S := BayT) (fun r u => r = wy_ B k n t (p2_ n)) (fun u t => va_P D vwCl ((fun u => miO g ++ bW cI g 4 B ++ bW cI g 10 u) u) t.heap) A) ([.ref (g 1), .int (nI k), .int (nI n), .int t] : List Value).toArray s 0 0 A) (F0 m 6 ls []) := by
    intro fu_6
    induction fu_6 with
    | zero => intro i x4_6 x6_6 T2 hx4_6 hx6_6 hi hfu; exact absurd hfu (Nat.not_lt_zero _)
    | succ fu_6 ih_6 =>
      intro i x4_6 x6_6 T2 hx4_6 hx6_6 hi hfu_6 H locs hP hD hS ls hl
      subst x4_6
      subst x6_6
      replace hl : lv_has ls 12 [(6, .int (nI i)), (4, .long (wy_ B k n t i)), (0, .ref (g 1)), (1, .int (nI k)), (2, .int (nI n)), (3, .int t)] := hl
      replace hP : va_P D vwCl (miO g ++ bW cI g 4 B ++ bW cI g 10 T2) H := hP
      replace hD : va_D A (miO g ++ bW cI g 4 B ++ bW cI g 10 T2) := hD
      refine lv_iload hx hb dX2_thunderWays_6 (lv_at hl 0 rfl) ?_
      refine lv_iconst (v := 1) hx hb dX2_thunderWays_8 (by decide) ?_
      refine lv_iload_n hx hb dX2_thunderWays_9 rfl (lv_at hl 4 rfl) ?_
      refine lv_ishl hx hb dX2_thunderWays_10 ?_
      refine lv_icmp_ge (tgt := 107) hx hb dX2_thunderWays_11 (by decide) (fun c_11 => ?_) (fun c_11 => ?_)
      · rw [sh_n hn, jle (by omega) (by omega)] at c_11
        refine lv_lload hx hb dX2_thunderWays_107 (lv_at hl 1 rfl) ?_
        refine rMl hx hb hr hlk hS T2 hP ?_ dX2_thunderWays_109
        have e9 : i = p2_ n := by omega
        rw [e9]
      · rw [sh_n hn, jle (by omega) (by omega)] at c_11
        refine lv_aload_n hx hb dX2_thunderWays_14 rfl (lv_at hl 2 rfl) ?_
        refine kMrV hx hb hml hown hts hK hP hD hA hS gX2_thunderWays_X2_asNow okX2_asNow (qX2_asNow l D cI cB g B T2 ) [0, 1, 2, 3, 4, 5, 6, 7, 8, 9, 10, 11, 12] rfl (by decide) (fun _ => rfl) rfl rfl rfl (by decide) hl.1 rfl rfl (Nat.le_of_ble_eq_true rfl) dX2_thunderWays_15 (by decide) (fun u_2 H locs hw_3 hP hD hS => ?_)
        replace hw_3 : u_2 = B := hw_3
        subst u_2
        replace hP : va_P D vwCl (miO g ++ bW cI g 4 B ++ bW cI g 10 (B)) H := hP
        replace hD : va_D A (miO g ++ bW cI g 4 B ++ bW cI g 10 (B)) := hD
        refine lv_astore (lv' := [(7, .ref (g 10)), (6, .int (nI i)), (4, .long (wy_ B k n t i)), (0, .ref (g 1)), (1, .int (nI k)), (2, .int (nI n)), (3, .int t)]) hx hb dX2_thunderWays_18 hl (by decide) rfl (fun ls hl => ?_)
        refine lv_lconst (v := 1) hx hb dX2_thunderWays_20 rfl ?_
        refine lv_lstore (lv' := [(8, .long 1), (7, .ref (g 10)), (6, .int (nI i)), (4, .long (wy_ B k n t i)), (0, .ref (g 1)), (1, .int (nI k)), (2, .int (nI n)), (3, .int t)]) hx hb dX2_thunderWays_21 hl (by decide) rfl (fun ls hl => ?_)
        refine lv_iconst (v := 0) hx hb dX2_thunderWays_23 (by decide) ?_
        refine lv_istore (lv' := [(10, .int 0), (8, .long 1), (7, .ref (g 10)), (6, .int (nI i)), (4, .long (wy_ B k n t i)), (0, .ref (g 1)), (1, .int (nI k)), (2, .int (nI n)), (3, .int t)]) hx hb dX2_thunderWays_24 hl (by decide) rfl (fun ls hl => ?_)
        have lp_26 : ∀ (fu_26 : Nat) (j : Nat) (x8_26 : Int64) (x10_26 : Int32) (T3 : BayT), (x8_26 = al_ t i j) → (x10_26 = nI j) → (T3 = th_ B i j) → (j ≤ n) → n - j < fu_26 → ∀ (H : Heap) (locs : List Loc), va_P D vwCl (miO g ++ bW cI g 4 B ++ bW cI g 10 T3) H → va_D A (miO g ++ bW cI g 4 B ++ bW cI g 10 T3) → va_S A s.heap H locs → ∀ ls : Array Slot, lv_has ls 12 [(10, .int x10_26), (8, .long x8_26), (7, .ref (g 10)), (6, .int (nI i)), (4, .long (wy_ B k n t i)), (0, .ref (g 1)), (1, .int (nI k)), (2, .int (nI n)), (3, .int t)] → W p l e (jR 4) s m ([.ref (g 1), .int (nI k), .int (nI n), .int t] : List Value).toArray below meth c H locs 0 0 (MQ below (va_Ql (S := BayT) (fun r u => r = wy_ B k n t (p2_ n)) (fun u t => va_P D vwCl ((fun u => miO g ++ bW cI g 4 B ++ bW cI g 10 u) u) t.heap) A) ([.ref (g 1), .int (nI k), .int (nI n), .int t] : List Value).toArray s 0 0 A) (F0 m 26 ls []) := by
          intro fu_26
          induction fu_26 with
          | zero => intro j x8_26 x10_26 T3 hx8_26 hx10_26 hT3 hj hfu; exact absurd hfu (Nat.not_lt_zero _)
          | succ fu_26 ih_26 =>
            intro j x8_26 x10_26 T3 hx8_26 hx10_26 hT3 hj hfu_26 H locs hP hD hS ls hl
            subst x8_26
            subst x10_26
            subst T3
            replace hl : lv_has ls 12 [(10, .int (nI j)), (8, .long (al_ t i j)), (7, .ref (g 10)), (6, .int (nI i)), (4, .long (wy_ B k n t i)), (0, .ref (g 1)), (1, .int (nI k)), (2, .int (nI n)), (3, .int t)] := hl
            replace hP : va_P D vwCl (miO g ++ bW cI g 4 B ++ bW cI g 10 (th_ B i j)) H := hP
            replace hD : va_D A (miO g ++ bW cI g 4 B ++ bW cI g 10 (th_ B i j)) := hD
            refine lv_iload hx hb dX2_thunderWays_26 (lv_at hl 0 rfl) ?_
            refine lv_iload_n hx hb dX2_thunderWays_28 rfl (lv_at hl 7 rfl) ?_
            refine lv_icmp_ge (tgt := 81) hx hb dX2_thunderWays_29 (by decide) (fun c_29 => ?_) (fun c_29 => ?_)
            · replace c_29 : nI n ≤ nI j := c_29
              rw [jle (by omega) (by omega)] at c_29
              refine lv_lload hx hb dX2_thunderWays_81 (lv_at hl 4 rfl) ?_
              refine lv_aload hx hb dX2_thunderWays_83 (lv_at hl 2 rfl) ?_
              refine lv_iload_n hx hb dX2_thunderWays_85 rfl (lv_at hl 6 rfl) ?_
              refine kSiN hx hb hml hown hts hK hP gX2_thunderWays_X0_hasIsle_n44 (hK.2 _ (List.mem_of_getElem? (i := 84) rfl)) (hts _ (List.mem_of_getElem? (i := 9) rfl)) (hts _ (List.mem_of_getElem? (i := 47) rfl)) (hts _ (List.mem_of_getElem? (i := 48) rfl)) okX0_hasIsle (qX0_hasIsle l D cI cB g 10 (th_ B i j) k (by show sn_ (th_ _ _ _) ≤ 7; rw [sn_th]; omega) (by omega)) [7, 8, 9, 10, 11, 12] rfl rfl rfl rfl (by decide) hl.1 rfl rfl (Nat.le_of_ble_eq_true rfl) dX2_thunderWays_86 (by decide) (fun r_4 hr_5 => ?_)
              replace hr_5 : r_4 = b1 (pl_ (th_ B i j) k = il_ (th_ B i j)) := hr_5
              subst r_4
              refine lv_if_eq (tgt := 97) hx hb dX2_thunderWays_89 (by decide) (fun c_89 => ?_) (fun c_89 => ?_)
              · replace c_89 := b1_z c_89
                refine lv_lconst (v := 0) hx hb dX2_thunderWays_97 rfl ?_
                refine lv_ladd hx hb dX2_thunderWays_98 ?_
                refine lv_lstore (lv' := [(4, .long ((wy_ B k n t i) + 0)), (10, .int (nI j)), (8, .long (al_ t i j)), (7, .ref (g 10)), (6, .int (nI i)), (0, .ref (g 1)), (1, .int (nI k)), (2, .int (nI n)), (3, .int t)]) hx hb dX2_thunderWays_99 hl (by decide) rfl (fun ls hl => ?_)
                refine lv_iinc (v := (nI i) + 1) (lv' := [(6, .int ((nI i) + 1)), (4, .long ((wy_ B k n t i) + 0)), (10, .int (nI j)), (8, .long (al_ t i j)), (7, .ref (g 10)), (0, .ref (g 1)), (1, .int (nI k)), (2, .int (nI n)), (3, .int t)]) hx hb dX2_thunderWays_101 hl (k := 4) rfl (by first | rfl | decide) (by decide) rfl (fun ls hl => ?_)
                refine lv_goto (tgt := 6) hx hb dX2_thunderWays_104 (by decide) ?_
                exact ih_6 (i + 1) ((wy_ B k n t i) + 0) ((nI i) + 1) (th_ B i j) (by first | exact wy_y (by show j = n; omega) c_89 | exact wy_n (by show j = n; omega) c_89) (by first | rfl | exact nI_1 _) (by omega) (by omega) _ _ hP hD hS ls (lv_sub hl [0, 1, 5, 6, 7, 8] rfl)
              · replace c_89 := b1_n c_89
                refine lv_lload hx hb dX2_thunderWays_92 (lv_at hl 1 rfl) ?_
                refine lv_goto (tgt := 98) hx hb dX2_thunderWays_94 (by decide) ?_
                refine lv_ladd hx hb dX2_thunderWays_98 ?_
                refine lv_lstore (lv' := [(4, .long ((wy_ B k n t i) + (al_ t i j))), (10, .int (nI j)), (8, .long (al_ t i j)), (7, .ref (g 10)), (6, .int (nI i)), (0, .ref (g 1)), (1, .int (nI k)), (2, .int (nI n)), (3, .int t)]) hx hb dX2_thunderWays_99 hl (by decide) rfl (fun ls hl => ?_)
                refine lv_iinc (v := (nI i) + 1) (lv' := [(6, .int ((nI i) + 1)), (4, .long ((wy_ B k n t i) + (al_ t i j))), (10, .int (nI j)), (8, .long (al_ t i j)), (7, .ref (g 10)), (0, .ref (g 1)), (1, .int (nI k)), (2, .int (nI n)), (3, .int t)]) hx hb dX2_thunderWays_101 hl (k := 4) rfl (by first | rfl | decide) (by decide) rfl (fun ls hl => ?_)
                refine lv_goto (tgt := 6) hx hb dX2_thunderWays_104 (by decide) ?_
                exact ih_6 (i + 1) ((wy_ B k n t i) + (al_ t i j)) ((nI i) + 1) (th_ B i j) (by first | exact wy_y (by show j = n; omega) c_89 | exact wy_n (by show j = n; omega) c_89) (by first | rfl | exact nI_1 _) (by omega) (by omega) _ _ hP hD hS ls (lv_sub hl [0, 1, 5, 6, 7, 8] rfl)
            · replace c_29 : ¬ nI n ≤ nI j := c_29
              rw [jle (by omega) (by omega)] at c_29
              refine lv_iload hx hb dX2_thunderWays_32 (lv_at hl 3 rfl) ?_
              refine lv_iload hx hb dX2_thunderWays_34 (lv_at hl 0 rfl) ?_
              refine lv_ishr hx hb dX2_thunderWays_36 ?_
              refine lv_iconst (v := 1) hx hb dX2_thunderWays_37 (by decide) ?_
              refine lv_iand hx hb dX2_thunderWays_38 ?_
              refine lv_iconst (v := 1) hx hb dX2_thunderWays_39 (by decide) ?_
              refine lv_icmp_ne (tgt := 47) hx hb dX2_thunderWays_40 (by decide) (fun c_40 => ?_) (fun c_40 => ?_)
              · skip
                refine lv_iconst (v := 0) hx hb dX2_thunderWays_47 (by decide) ?_
                refine lv_istore (lv' := [(11, .int 0), (10, .int (nI j)), (8, .long (al_ t i j)), (7, .ref (g 10)), (6, .int (nI i)), (4, .long (wy_ B k n t i)), (0, .ref (g 1)), (1, .int (nI k)), (2, .int (nI n)), (3, .int t)]) hx hb dX2_thunderWays_48 hl (by decide) rfl (fun ls hl => ?_)
                refine lv_lload hx hb dX2_thunderWays_50 (lv_at hl 2 rfl) ?_
                refine lv_iload hx hb dX2_thunderWays_52 (lv_at hl 0 rfl) ?_
                refine lv_if_eq (tgt := 61) hx hb dX2_thunderWays_54 (by decide) (fun _ => ?_) (fun q => absurd q (by decide))
                refine lv_iload_n hx hb dX2_thunderWays_61 rfl (lv_at hl 9 rfl) ?_
                refine lv_iconst (v := 1) hx hb dX2_thunderWays_62 (by decide) ?_
                refine lv_isub hx hb dX2_thunderWays_63 ?_
                refine lv_i2l (v := (t - 1 : Int32).toInt64) hx hb dX2_thunderWays_64 rfl ?_
                refine lv_lmul hx hb dX2_thunderWays_65 ?_
                refine lv_lstore (lv' := [(8, .long ((al_ t i j) * ((t - 1 : Int32).toInt64))), (11, .int 0), (10, .int (nI j)), (7, .ref (g 10)), (6, .int (nI i)), (4, .long (wy_ B k n t i)), (0, .ref (g 1)), (1, .int (nI k)), (2, .int (nI n)), (3, .int t)]) hx hb dX2_thunderWays_66 hl (by decide) rfl (fun ls hl => ?_)
                refine lv_aload hx hb dX2_thunderWays_68 (lv_at hl 3 rfl) ?_
                refine lv_iload hx hb dX2_thunderWays_70 (lv_at hl 1 rfl) ?_
                refine kMvN hx hb hml hown hts hK hP hD hA hS gX2_thunderWays_X0_passHour_n40 (hK.2 _ (List.mem_of_getElem? (i := 85) rfl)) (hts _ (List.mem_of_getElem? (i := 9) rfl)) (hts _ (List.mem_of_getElem? (i := 27) rfl)) (hts _ (List.mem_of_getElem? (i := 28) rfl)) okX0_passHour (qX0_passHour l D cI cB g 10 (th_ B i j) False inferInstance (by show sn_ (th_ _ _ _) ≤ 7; rw [sn_th]; omega)) [7, 8, 9, 10, 11, 12] rfl (by decide) (fun _ => rfl) rfl rfl rfl (by decide) hl.1 rfl rfl (Nat.le_of_ble_eq_true rfl) dX2_thunderWays_72 (by decide) (fun u_7 H locs hw_8 hP hD hS => ?_)
                replace hw_8 : u_7 = hb_ False (th_ B i j) := hw_8
                subst u_7
                replace hP : va_P D vwCl (miO g ++ bW cI g 4 B ++ bW cI g 10 (hb_ False (th_ B i j))) H := hP
                replace hD : va_D A (miO g ++ bW cI g 4 B ++ bW cI g 10 (hb_ False (th_ B i j))) := hD
                refine lv_iinc (v := (nI j) + 1) (lv' := [(10, .int ((nI j) + 1)), (8, .long ((al_ t i j) * ((t - 1 : Int32).toInt64))), (11, .int 0), (7, .ref (g 10)), (6, .int (nI i)), (4, .long (wy_ B k n t i)), (0, .ref (g 1)), (1, .int (nI k)), (2, .int (nI n)), (3, .int t)]) hx hb dX2_thunderWays_75 hl (k := 2) rfl (by first | rfl | decide) (by decide) rfl (fun ls hl => ?_)
                refine lv_goto (tgt := 26) hx hb dX2_thunderWays_78 (by decide) ?_
                exact ih_26 (j + 1) ((al_ t i j) * ((t - 1 : Int32).toInt64)) ((nI j) + 1) (hb_ False (th_ B i j)) (al_n c_40) (by first | rfl | exact nI_1 _) (th_n c_40) (by omega) (by omega) _ _ hP hD hS ls (lv_sub hl [0, 1, 3, 4, 5, 6, 7, 8, 9] rfl)
              · skip
                refine lv_iconst (v := 1) hx hb dX2_thunderWays_43 (by decide) ?_
                refine lv_goto (tgt := 48) hx hb dX2_thunderWays_44 (by decide) ?_
                refine lv_istore (lv' := [(11, .int 1), (10, .int (nI j)), (8, .long (al_ t i j)), (7, .ref (g 10)), (6, .int (nI i)), (4, .long (wy_ B k n t i)), (0, .ref (g 1)), (1, .int (nI k)), (2, .int (nI n)), (3, .int t)]) hx hb dX2_thunderWays_48 hl (by decide) rfl (fun ls hl => ?_)
                refine lv_lload hx hb dX2_thunderWays_50 (lv_at hl 2 rfl) ?_
                refine lv_iload hx hb dX2_thunderWays_52 (lv_at hl 0 rfl) ?_
                refine lv_if_eq (tgt := 61) hx hb dX2_thunderWays_54 (by decide) (fun q => absurd q (by decide)) (fun _ => ?_)
                refine lv_lconst (v := 1) hx hb dX2_thunderWays_57 rfl ?_
                refine lv_goto (tgt := 65) hx hb dX2_thunderWays_58 (by decide) ?_
                refine lv_lmul hx hb dX2_thunderWays_65 ?_
                refine lv_lstore (lv' := [(8, .long ((al_ t i j) * 1)), (11, .int 1), (10, .int (nI j)), (7, .ref (g 10)), (6, .int (nI i)), (4, .long (wy_ B k n t i)), (0, .ref (g 1)), (1, .int (nI k)), (2, .int (nI n)), (3, .int t)]) hx hb dX2_thunderWays_66 hl (by decide) rfl (fun ls hl => ?_)
                refine lv_aload hx hb dX2_thunderWays_68 (lv_at hl 3 rfl) ?_
                refine lv_iload hx hb dX2_thunderWays_70 (lv_at hl 1 rfl) ?_
                refine kMvN hx hb hml hown hts hK hP hD hA hS gX2_thunderWays_X0_passHour_n40 (hK.2 _ (List.mem_of_getElem? (i := 85) rfl)) (hts _ (List.mem_of_getElem? (i := 9) rfl)) (hts _ (List.mem_of_getElem? (i := 27) rfl)) (hts _ (List.mem_of_getElem? (i := 28) rfl)) okX0_passHour (qX0_passHour l D cI cB g 10 (th_ B i j) True inferInstance (by show sn_ (th_ _ _ _) ≤ 7; rw [sn_th]; omega)) [7, 8, 9, 10, 11, 12] rfl (by decide) (fun _ => rfl) rfl rfl rfl (by decide) hl.1 rfl rfl (Nat.le_of_ble_eq_true rfl) dX2_thunderWays_72 (by decide) (fun u_10 H locs hw_11 hP hD hS => ?_)
                replace hw_11 : u_10 = hb_ True (th_ B i j) := hw_11
                subst u_10
                replace hP : va_P D vwCl (miO g ++ bW cI g 4 B ++ bW cI g 10 (hb_ True (th_ B i j))) H := hP
                replace hD : va_D A (miO g ++ bW cI g 4 B ++ bW cI g 10 (hb_ True (th_ B i j))) := hD
                refine lv_iinc (v := (nI j) + 1) (lv' := [(10, .int ((nI j) + 1)), (8, .long ((al_ t i j) * 1)), (11, .int 1), (7, .ref (g 10)), (6, .int (nI i)), (4, .long (wy_ B k n t i)), (0, .ref (g 1)), (1, .int (nI k)), (2, .int (nI n)), (3, .int t)]) hx hb dX2_thunderWays_75 hl (k := 2) rfl (by first | rfl | decide) (by decide) rfl (fun ls hl => ?_)
                refine lv_goto (tgt := 26) hx hb dX2_thunderWays_78 (by decide) ?_
                exact ih_26 (j + 1) ((al_ t i j) * 1) ((nI j) + 1) (hb_ True (th_ B i j)) (al_y c_40) (by first | rfl | exact nI_1 _) (th_y c_40) (by omega) (by omega) _ _ hP hD hS ls (lv_sub hl [0, 1, 3, 4, 5, 6, 7, 8, 9] rfl)
        exact lp_26 (n + 1) 0 1 0 (B) (rfl) (by first | rfl | exact nI_0.symm) (rfl) (by omega) (by omega) _ _ hP hD hS ls (lv_sub hl [0, 1, 2, 3, 4, 5, 6, 7, 8] rfl)
  exact lp_6 ((p2_ n) + 1) 0 0 0 T (rfl) (by first | rfl | exact nI_0.symm) (by omega) (by omega) _ _ hP hD hS ls (lv_sub hl [0, 1, 2, 3, 4, 5] rfl)
