theorem okX5_no : jok yX5_no wsX5_no cX5_no 2 (some .int) 1 := ⟨⟨_, rfl⟩, by decide +kernel, by decide +kernel⟩
set_option maxHeartbeats 4000000 in
set_option maxRecDepth 100000 in
theorem qX5_no (l : Launch) (D : va_G) (cI cB : ClassId) (r : Nat → Nat) (B : BayT) (M : MT) (w : Int32) (hw : rc_ w) : jMi D cI cB l yX5_no wsX5_no 0 [.ref (r 0), .int w] (mW cI r B M) (S := MT) (fun r u => r = w ∧ u = rfm_ M w) (fun u => mW cI r B u) := by
  refine jMi.of (cc := cX5_no) (maxL := 2) (ret := (some .int)) okX5_no (Nat.le_of_ble_eq_true rfl) ?_
  intro p e s m below meth c ls A hx hb hr hts hown hlk hml hP hK hD hA hS hl
  replace hown : s.vm.findClass RX5 = some m.cls := hown
  replace hl : lv_has ls 2 [(0, .ref (r 0)), (1, .int w)] := hl
  have hwn := rc_n hw
  have hwi := rc_i hw
  have hinX5 : ∀ w ∈ wsX50, w ∈ wsX5_no := by decide +kernel
  refine lv_aload_n hx hb dX5_no_0 rfl (lv_at hl 0 rfl) ?_
  refine va_get (ci := 5) (C := RX5) (T := TX5) (N := 33) hx hb hts hinX5 hown hK.1 hP 0 rfl rfl 0 (by decide) (hts _ (List.mem_of_getElem? (i := 1) rfl)) (fun _ h9 => h9) rfl dX5_no_1 ?_
  refine lv_iload_n hx hb dX5_no_4 rfl (lv_at hl 1 rfl) ?_
  refine lv_ineg hx hb dX5_no_5 ?_
  refine lv_dup2_11 hx hb dX5_no_6 rfl rfl ?_
  refine jald hx hb hK.1 hP 1 0 (ri_ w) rfl rfl hwi.1 hwi.2 (Nat.le_of_ble_eq_true rfl) dX5_no_7 ?_
  refine lv_iconst (v := 1) hx hb dX5_no_8 (by decide) ?_
  refine lv_iadd hx hb dX5_no_9 ?_
  refine jast hx hb hK.1 hP hD hS 1 0 (ri_ w) rfl rfl hwi.1 hwi.2 (Nat.le_of_ble_eq_true rfl) dX5_no_10 (fun f_1 ef_1 H locs hP hD hS => ?_)
  replace ef_1 : f_1 = upd (mrf_ M) (ri_ w) (((mrf_ M) (ri_ w)) + 1) := ef_1
  replace hP : va_P D vwCl ([(r 0, .inr (5, [.ref (r 1), .ref (r 2), .ref (r 3), .ref (r 4), .ref (r 5), .ref (r 6), .int (nI (sn_ B)), .int (qt_ B), .int (il_ B), .int (pa_ B), .int (ho_ B), .int (dy_ B), .ref (r 13), .ref (r 14), .ref (r 15), .ref (r 16), .int (nI (mtn_ M)), .int (nI (mrd_ M)), .int (nI (msm_ M)), .ref (r 20), .int (mhi_ M), .int (mik_ M), .int (nI (mcu_ M)), .int (nI (mbk_ M)), .ref (r 25), .ref (r 26), .int (mlw_ M), .int (mhg_ M), .int (msl_ M), .ref (r 30), .int (nI (mrm_ M)), .ref (r 32), .int (mlo_ M)])), (r 1, .inl (cI, 7, .inl f_1)), (r 2, .inl (cI, 7, .inl (kd_ B))), (r 3, .inl (cI, 7, .inl (fg_ B))), (r 4, .inl (cI, 7, .inl (pl_ B))), (r 5, .inl (cI, 7, .inl (pw_ B))), (r 6, .inl (cI, 7, .inl (jy_ B))), (r 13, .inl (cI, 96, .inl (mtp_ M))), (r 14, .inl (cI, 48, .inl (mlt_ M))), (r 15, .inl (cI, 48, .inl (mla_ M))), (r 16, .inl (cI, 144, .inl (mtd_ M))), (r 20, .inl (cI, 451, .inl (flatK (mkp_ M)))), (r 25, .inl (cI, 7, .inl (mof_ M))), (r 26, .inl (cI, 7, .inl (mfa_ M))), (r 30, .inl (cI, 12, .inl (mrw_ M))), (r 32, .inl (cI, 8, .inl (mhb_ M)))]) H := hP
  replace hD : va_D A ([(r 0, .inr (5, [.ref (r 1), .ref (r 2), .ref (r 3), .ref (r 4), .ref (r 5), .ref (r 6), .int (nI (sn_ B)), .int (qt_ B), .int (il_ B), .int (pa_ B), .int (ho_ B), .int (dy_ B), .ref (r 13), .ref (r 14), .ref (r 15), .ref (r 16), .int (nI (mtn_ M)), .int (nI (mrd_ M)), .int (nI (msm_ M)), .ref (r 20), .int (mhi_ M), .int (mik_ M), .int (nI (mcu_ M)), .int (nI (mbk_ M)), .ref (r 25), .ref (r 26), .int (mlw_ M), .int (mhg_ M), .int (msl_ M), .ref (r 30), .int (nI (mrm_ M)), .ref (r 32), .int (mlo_ M)])), (r 1, .inl (cI, 7, .inl f_1)), (r 2, .inl (cI, 7, .inl (kd_ B))), (r 3, .inl (cI, 7, .inl (fg_ B))), (r 4, .inl (cI, 7, .inl (pl_ B))), (r 5, .inl (cI, 7, .inl (pw_ B))), (r 6, .inl (cI, 7, .inl (jy_ B))), (r 13, .inl (cI, 96, .inl (mtp_ M))), (r 14, .inl (cI, 48, .inl (mlt_ M))), (r 15, .inl (cI, 48, .inl (mla_ M))), (r 16, .inl (cI, 144, .inl (mtd_ M))), (r 20, .inl (cI, 451, .inl (flatK (mkp_ M)))), (r 25, .inl (cI, 7, .inl (mof_ M))), (r 26, .inl (cI, 7, .inl (mfa_ M))), (r 30, .inl (cI, 12, .inl (mrw_ M))), (r 32, .inl (cI, 8, .inl (mhb_ M)))]) := hD
  refine lv_iload_n hx hb dX5_no_11 rfl (lv_at hl 1 rfl) ?_
  (try rw [ef_1] at hP); (try rw [ef_1] at hD); (try rw [ef_1] at hl); (try rw [ef_1])
  refine rMi hx hb hr hlk hS (mkM (upd (mrf_ M) (ri_ w) (((mrf_ M) (ri_ w)) + 1)) (mtp_ M) (mlt_ M) (mla_ M) (mtd_ M) (mkp_ M) (mof_ M) (mfa_ M) (mrw_ M) (mhb_ M) (mtn_ M) (mrd_ M) (msm_ M) (mcu_ M) (mbk_ M) (mrm_ M) (mhi_ M) (mik_ M) (mlw_ M) (mhg_ M) (msl_ M) (mlo_ M)) hP ?_ dX5_no_12
  exact ⟨rfl, rfm_e hwn.1⟩

theorem okX5_lowestOf : jok yX5_lowestOf wsX5_lowestOf cX5_lowestOf 2 (some .long) 1 := ⟨⟨_, rfl⟩, by decide +kernel, by decide +kernel⟩
set_option maxHeartbeats 4000000 in
set_option maxRecDepth 100000 in
theorem qX5_lowestOf (l : Launch) (D : va_G) (cI cB : ClassId) (r : Nat → Nat) (B : BayT) (M : MT) (w : Int32) (hw : rc_ w) : jMl D cI cB l yX5_lowestOf wsX5_lowestOf 0 [.ref (r 0), .int w] (mW cI r B M) (S := MT) (fun r u => r = lref_ w ∧ u = rfm_ M w) (fun u => mW cI r B u) := by
  refine jMl.of (cc := cX5_lowestOf) (maxL := 2) (ret := (some .long)) okX5_lowestOf (Nat.le_of_ble_eq_true rfl) ?_
  intro p e s m below meth c ls A hx hb hr hts hown hlk hml hP hK hD hA hS hl
  replace hown : s.vm.findClass RX5 = some m.cls := hown
  replace hl : lv_has ls 2 [(0, .ref (r 0)), (1, .int w)] := hl
  have hwn := rc_n hw
  have hwi := rc_i hw
  have hinX5 : ∀ w ∈ wsX50, w ∈ wsX5_lowestOf := by decide +kernel
  refine lv_aload_n hx hb dX5_lowestOf_0 rfl (lv_at hl 0 rfl) ?_
  refine va_get (ci := 5) (C := RX5) (T := TX5) (N := 33) hx hb hts hinX5 hown hK.1 hP 0 rfl rfl 0 (by decide) (hts _ (List.mem_of_getElem? (i := 1) rfl)) (fun _ h9 => h9) rfl dX5_lowestOf_1 ?_
  refine lv_iload_n hx hb dX5_lowestOf_4 rfl (lv_at hl 1 rfl) ?_
  refine lv_ineg hx hb dX5_lowestOf_5 ?_
  refine lv_dup2_11 hx hb dX5_lowestOf_6 rfl rfl ?_
  refine jald hx hb hK.1 hP 1 0 (ri_ w) rfl rfl hwi.1 hwi.2 (Nat.le_of_ble_eq_true rfl) dX5_lowestOf_7 ?_
  refine lv_iconst (v := 1) hx hb dX5_lowestOf_8 (by decide) ?_
  refine lv_iadd hx hb dX5_lowestOf_9 ?_
  refine jast hx hb hK.1 hP hD hS 1 0 (ri_ w) rfl rfl hwi.1 hwi.2 (Nat.le_of_ble_eq_true rfl) dX5_lowestOf_10 (fun f_1 ef_1 H locs hP hD hS => ?_)
  replace ef_1 : f_1 = upd (mrf_ M) (ri_ w) (((mrf_ M) (ri_ w)) + 1) := ef_1
  replace hP : va_P D vwCl ([(r 0, .inr (5, [.ref (r 1), .ref (r 2), .ref (r 3), .ref (r 4), .ref (r 5), .ref (r 6), .int (nI (sn_ B)), .int (qt_ B), .int (il_ B), .int (pa_ B), .int (ho_ B), .int (dy_ B), .ref (r 13), .ref (r 14), .ref (r 15), .ref (r 16), .int (nI (mtn_ M)), .int (nI (mrd_ M)), .int (nI (msm_ M)), .ref (r 20), .int (mhi_ M), .int (mik_ M), .int (nI (mcu_ M)), .int (nI (mbk_ M)), .ref (r 25), .ref (r 26), .int (mlw_ M), .int (mhg_ M), .int (msl_ M), .ref (r 30), .int (nI (mrm_ M)), .ref (r 32), .int (mlo_ M)])), (r 1, .inl (cI, 7, .inl f_1)), (r 2, .inl (cI, 7, .inl (kd_ B))), (r 3, .inl (cI, 7, .inl (fg_ B))), (r 4, .inl (cI, 7, .inl (pl_ B))), (r 5, .inl (cI, 7, .inl (pw_ B))), (r 6, .inl (cI, 7, .inl (jy_ B))), (r 13, .inl (cI, 96, .inl (mtp_ M))), (r 14, .inl (cI, 48, .inl (mlt_ M))), (r 15, .inl (cI, 48, .inl (mla_ M))), (r 16, .inl (cI, 144, .inl (mtd_ M))), (r 20, .inl (cI, 451, .inl (flatK (mkp_ M)))), (r 25, .inl (cI, 7, .inl (mof_ M))), (r 26, .inl (cI, 7, .inl (mfa_ M))), (r 30, .inl (cI, 12, .inl (mrw_ M))), (r 32, .inl (cI, 8, .inl (mhb_ M)))]) H := hP
  replace hD : va_D A ([(r 0, .inr (5, [.ref (r 1), .ref (r 2), .ref (r 3), .ref (r 4), .ref (r 5), .ref (r 6), .int (nI (sn_ B)), .int (qt_ B), .int (il_ B), .int (pa_ B), .int (ho_ B), .int (dy_ B), .ref (r 13), .ref (r 14), .ref (r 15), .ref (r 16), .int (nI (mtn_ M)), .int (nI (mrd_ M)), .int (nI (msm_ M)), .ref (r 20), .int (mhi_ M), .int (mik_ M), .int (nI (mcu_ M)), .int (nI (mbk_ M)), .ref (r 25), .ref (r 26), .int (mlw_ M), .int (mhg_ M), .int (msl_ M), .ref (r 30), .int (nI (mrm_ M)), .ref (r 32), .int (mlo_ M)])), (r 1, .inl (cI, 7, .inl f_1)), (r 2, .inl (cI, 7, .inl (kd_ B))), (r 3, .inl (cI, 7, .inl (fg_ B))), (r 4, .inl (cI, 7, .inl (pl_ B))), (r 5, .inl (cI, 7, .inl (pw_ B))), (r 6, .inl (cI, 7, .inl (jy_ B))), (r 13, .inl (cI, 96, .inl (mtp_ M))), (r 14, .inl (cI, 48, .inl (mlt_ M))), (r 15, .inl (cI, 48, .inl (mla_ M))), (r 16, .inl (cI, 144, .inl (mtd_ M))), (r 20, .inl (cI, 451, .inl (flatK (mkp_ M)))), (r 25, .inl (cI, 7, .inl (mof_ M))), (r 26, .inl (cI, 7, .inl (mfa_ M))), (r 30, .inl (cI, 12, .inl (mrw_ M))), (r 32, .inl (cI, 8, .inl (mhb_ M)))]) := hD
  refine lv_ldc2 hx hb hown (hts _ (List.mem_of_getElem? (i := 2) rfl)) dX5_lowestOf_11 ?_
  refine lv_iload_n hx hb dX5_lowestOf_14 rfl (lv_at hl 1 rfl) ?_
  refine lv_i2l (v := (w : Int32).toInt64) hx hb dX5_lowestOf_15 rfl ?_
  refine lv_lsub hx hb dX5_lowestOf_16 ?_
  (try rw [ef_1] at hP); (try rw [ef_1] at hD); (try rw [ef_1] at hl); (try rw [ef_1])
  refine rMl hx hb hr hlk hS (mkM (upd (mrf_ M) (ri_ w) (((mrf_ M) (ri_ w)) + 1)) (mtp_ M) (mlt_ M) (mla_ M) (mtd_ M) (mkp_ M) (mof_ M) (mfa_ M) (mrw_ M) (mhb_ M) (mtn_ M) (mrd_ M) (msm_ M) (mcu_ M) (mbk_ M) (mrm_ M) (mhi_ M) (mik_ M) (mlw_ M) (mhg_ M) (msl_ M) (mlo_ M)) hP ?_ dX5_lowestOf_17
  exact ⟨rfl, rfm_e hwn.1⟩

theorem okX5_allJoy : jok yX5_allJoy wsX5_allJoy cX5_allJoy 3 (some .int) 0 := ⟨⟨_, rfl⟩, by decide +kernel, by decide +kernel⟩
set_option maxHeartbeats 4000000 in
set_option maxRecDepth 100000 in
theorem qX5_allJoy (l : Launch) (D : va_G) (cI cB : ClassId) (r : Nat → Nat) (B : BayT) (M : MT) (hn7 : sn_ B ≤ 7) : jSi D cI cB l yX5_allJoy wsX5_allJoy 0 [.ref (r 0)] (mW cI r B M) (fun r => r = su_ (jy_ B) (sn_ B)) := by
  refine jSi.of (cc := cX5_allJoy) (maxL := 3) (ret := (some .int)) okX5_allJoy (Nat.le_of_ble_eq_true rfl) ?_
  intro p e s m below meth c ls hx hb hr hts hown hlk hml hP hK hl
  replace hown : s.vm.findClass RX5 = some m.cls := hown
  replace hl : lv_has ls 3 [(0, .ref (r 0))] := hl
  have hinX5 : ∀ w ∈ wsX50, w ∈ wsX5_allJoy := by decide +kernel
  refine lv_iconst (v := 0) hx hb dX5_allJoy_0 (by decide) ?_
  refine lv_istore_n (lv' := [(1, .int 0), (0, .ref (r 0))]) hx hb dX5_allJoy_1 rfl hl (by decide) rfl (fun ls hl => ?_)
  refine lv_iconst (v := 0) hx hb dX5_allJoy_2 (by decide) ?_
  refine lv_istore_n (lv' := [(2, .int 0), (1, .int 0), (0, .ref (r 0))]) hx hb dX5_allJoy_3 rfl hl (by decide) rfl (fun ls hl => ?_)
  have lp_4 : ∀ (fu_4 : Nat) (i : Nat) (x1_4 : Int32) (x2_4 : Int32) , (x1_4 = su_ (jy_ B) i) → (x2_4 = nI i) → (i ≤ sn_ B) → sn_ B - i < fu_4 → ∀ ls : Array Slot, lv_has ls 3 [(2, .int x2_4), (1, .int x1_4), (0, .ref (r 0))] → W p l e (jR 0) s m ([.ref (r 0)] : List Value).toArray below meth c s.heap [] 0 0 (MQ below (vp_Si (fun r => r = su_ (jy_ B) (sn_ B))) ([.ref (r 0)] : List Value).toArray s 0 0 (fun _ => False)) (F0 m 4 ls []) := by
    intro fu_4
    induction fu_4 with
    | zero => intro i x1_4 x2_4 hx1_4 hx2_4 hi hfu; exact absurd hfu (Nat.not_lt_zero _)
    | succ fu_4 ih_4 =>
      intro i x1_4 x2_4 hx1_4 hx2_4 hi hfu_4 ls hl
      subst x1_4
      subst x2_4
      replace hl : lv_has ls 3 [(2, .int (nI i)), (1, .int (su_ (jy_ B) i)), (0, .ref (r 0))] := hl
      refine lv_iload_n hx hb dX5_allJoy_4 rfl (lv_at hl 0 rfl) ?_
      refine lv_aload_n hx hb dX5_allJoy_5 rfl (lv_at hl 2 rfl) ?_
      refine va_get (ci := 5) (C := RX5) (T := TX5) (N := 33) hx hb hts hinX5 hown hK.1 hP 0 rfl rfl 6 (by decide) (hts _ (List.mem_of_getElem? (i := 1) rfl)) (fun _ h9 => h9) rfl dX5_allJoy_6 ?_
      refine lv_icmp_ge (tgt := 27) hx hb dX5_allJoy_9 (by decide) (fun c_9 => ?_) (fun c_9 => ?_)
      · replace c_9 : nI (sn_ B) ≤ nI i := c_9
        rw [jle (by omega) (by omega)] at c_9
        refine lv_iload_n hx hb dX5_allJoy_27 rfl (lv_at hl 1 rfl) ?_
        refine rSi hx hb hr hlk ?_ dX5_allJoy_28
        show (su_ (jy_ B) i) = _
        have e9 : i = sn_ B := by omega
        rw [e9]
      · replace c_9 : ¬ nI (sn_ B) ≤ nI i := c_9
        rw [jle (by omega) (by omega)] at c_9
        refine lv_iload_n hx hb dX5_allJoy_12 rfl (lv_at hl 1 rfl) ?_
        refine lv_aload_n hx hb dX5_allJoy_13 rfl (lv_at hl 2 rfl) ?_
        refine va_get (ci := 5) (C := RX5) (T := TX5) (N := 33) hx hb hts hinX5 hown hK.1 hP 0 rfl rfl 5 (by decide) (hts _ (List.mem_of_getElem? (i := 2) rfl)) (fun _ h9 => h9) rfl dX5_allJoy_14 ?_
        refine lv_iload_n hx hb dX5_allJoy_17 rfl (lv_at hl 0 rfl) ?_
        refine jald hx hb hK.1 hP 6 0 i rfl rfl rfl (by omega) (Nat.le_of_ble_eq_true rfl) dX5_allJoy_18 ?_
        refine lv_iadd hx hb dX5_allJoy_19 ?_
        refine lv_istore_n (lv' := [(1, .int ((su_ (jy_ B) i) + ((jy_ B) i))), (2, .int (nI i)), (0, .ref (r 0))]) hx hb dX5_allJoy_20 rfl hl (by decide) rfl (fun ls hl => ?_)
        refine lv_iinc (v := (nI i) + 1) (lv' := [(2, .int ((nI i) + 1)), (1, .int ((su_ (jy_ B) i) + ((jy_ B) i))), (0, .ref (r 0))]) hx hb dX5_allJoy_21 hl (k := 1) rfl (by first | rfl | decide) (by decide) rfl (fun ls hl => ?_)
        refine lv_goto (tgt := 4) hx hb dX5_allJoy_24 (by decide) ?_
        exact ih_4 (i + 1) ((su_ (jy_ B) i) + ((jy_ B) i)) ((nI i) + 1)  (by first | rfl | exact nI_1 _) (by first | rfl | exact nI_1 _) (by omega) (by omega) ls (lv_sub hl [0, 1, 2] rfl)
  exact lp_4 ((sn_ B) + 1) 0 0 0  (by first | rfl | exact nI_0.symm) (by first | rfl | exact nI_0.symm) (by omega) (by omega) ls (lv_sub hl [0, 1, 2] rfl)

theorem okX5_allPowder : jok yX5_allPowder wsX5_allPowder cX5_allPowder 3 (some .int) 0 := ⟨⟨_, rfl⟩, by decide +kernel, by decide +kernel⟩
set_option maxHeartbeats 4000000 in
set_option maxRecDepth 100000 in
theorem qX5_allPowder (l : Launch) (D : va_G) (cI cB : ClassId) (r : Nat → Nat) (B : BayT) (M : MT) (hn7 : sn_ B ≤ 7) : jSi D cI cB l yX5_allPowder wsX5_allPowder 0 [.ref (r 0)] (mW cI r B M) (fun r => r = su_ (pw_ B) (sn_ B)) := by
  refine jSi.of (cc := cX5_allPowder) (maxL := 3) (ret := (some .int)) okX5_allPowder (Nat.le_of_ble_eq_true rfl) ?_
  intro p e s m below meth c ls hx hb hr hts hown hlk hml hP hK hl
  replace hown : s.vm.findClass RX5 = some m.cls := hown
  replace hl : lv_has ls 3 [(0, .ref (r 0))] := hl
  have hinX5 : ∀ w ∈ wsX50, w ∈ wsX5_allPowder := by decide +kernel
  refine lv_iconst (v := 0) hx hb dX5_allPowder_0 (by decide) ?_
  refine lv_istore_n (lv' := [(1, .int 0), (0, .ref (r 0))]) hx hb dX5_allPowder_1 rfl hl (by decide) rfl (fun ls hl => ?_)
  refine lv_iconst (v := 0) hx hb dX5_allPowder_2 (by decide) ?_
  refine lv_istore_n (lv' := [(2, .int 0), (1, .int 0), (0, .ref (r 0))]) hx hb dX5_allPowder_3 rfl hl (by decide) rfl (fun ls hl => ?_)
  have lp_4 : ∀ (fu_4 : Nat) (i : Nat) (x1_4 : Int32) (x2_4 : Int32) , (x1_4 = su_ (pw_ B) i) → (x2_4 = nI i) → (i ≤ sn_ B) → sn_ B - i < fu_4 → ∀ ls : Array Slot, lv_has ls 3 [(2, .int x2_4), (1, .int x1_4), (0, .ref (r 0))] → W p l e (jR 0) s m ([.ref (r 0)] : List Value).toArray below meth c s.heap [] 0 0 (MQ below (vp_Si (fun r => r = su_ (pw_ B) (sn_ B))) ([.ref (r 0)] : List Value).toArray s 0 0 (fun _ => False)) (F0 m 4 ls []) := by
    intro fu_4
    induction fu_4 with
    | zero => intro i x1_4 x2_4 hx1_4 hx2_4 hi hfu; exact absurd hfu (Nat.not_lt_zero _)
    | succ fu_4 ih_4 =>
      intro i x1_4 x2_4 hx1_4 hx2_4 hi hfu_4 ls hl
      subst x1_4
      subst x2_4
      replace hl : lv_has ls 3 [(2, .int (nI i)), (1, .int (su_ (pw_ B) i)), (0, .ref (r 0))] := hl
      refine lv_iload_n hx hb dX5_allPowder_4 rfl (lv_at hl 0 rfl) ?_
      refine lv_aload_n hx hb dX5_allPowder_5 rfl (lv_at hl 2 rfl) ?_
      refine va_get (ci := 5) (C := RX5) (T := TX5) (N := 33) hx hb hts hinX5 hown hK.1 hP 0 rfl rfl 6 (by decide) (hts _ (List.mem_of_getElem? (i := 1) rfl)) (fun _ h9 => h9) rfl dX5_allPowder_6 ?_
      refine lv_icmp_ge (tgt := 27) hx hb dX5_allPowder_9 (by decide) (fun c_9 => ?_) (fun c_9 => ?_)
      · replace c_9 : nI (sn_ B) ≤ nI i := c_9
        rw [jle (by omega) (by omega)] at c_9
        refine lv_iload_n hx hb dX5_allPowder_27 rfl (lv_at hl 1 rfl) ?_
        refine rSi hx hb hr hlk ?_ dX5_allPowder_28
        show (su_ (pw_ B) i) = _
        have e9 : i = sn_ B := by omega
        rw [e9]
      · replace c_9 : ¬ nI (sn_ B) ≤ nI i := c_9
        rw [jle (by omega) (by omega)] at c_9
        refine lv_iload_n hx hb dX5_allPowder_12 rfl (lv_at hl 1 rfl) ?_
        refine lv_aload_n hx hb dX5_allPowder_13 rfl (lv_at hl 2 rfl) ?_
        refine va_get (ci := 5) (C := RX5) (T := TX5) (N := 33) hx hb hts hinX5 hown hK.1 hP 0 rfl rfl 4 (by decide) (hts _ (List.mem_of_getElem? (i := 2) rfl)) (fun _ h9 => h9) rfl dX5_allPowder_14 ?_
        refine lv_iload_n hx hb dX5_allPowder_17 rfl (lv_at hl 0 rfl) ?_
        refine jald hx hb hK.1 hP 5 0 i rfl rfl rfl (by omega) (Nat.le_of_ble_eq_true rfl) dX5_allPowder_18 ?_
        refine lv_iadd hx hb dX5_allPowder_19 ?_
        refine lv_istore_n (lv' := [(1, .int ((su_ (pw_ B) i) + ((pw_ B) i))), (2, .int (nI i)), (0, .ref (r 0))]) hx hb dX5_allPowder_20 rfl hl (by decide) rfl (fun ls hl => ?_)
        refine lv_iinc (v := (nI i) + 1) (lv' := [(2, .int ((nI i) + 1)), (1, .int ((su_ (pw_ B) i) + ((pw_ B) i))), (0, .ref (r 0))]) hx hb dX5_allPowder_21 hl (k := 1) rfl (by first | rfl | decide) (by decide) rfl (fun ls hl => ?_)
        refine lv_goto (tgt := 4) hx hb dX5_allPowder_24 (by decide) ?_
        exact ih_4 (i + 1) ((su_ (pw_ B) i) + ((pw_ B) i)) ((nI i) + 1)  (by first | rfl | exact nI_1 _) (by first | rfl | exact nI_1 _) (by omega) (by omega) ls (lv_sub hl [0, 1, 2] rfl)
  exact lp_4 ((sn_ B) + 1) 0 0 0  (by first | rfl | exact nI_0.symm) (by first | rfl | exact nI_0.symm) (by omega) (by omega) ls (lv_sub hl [0, 1, 2] rfl)

theorem okX5_joyless : jok yX5_joyless wsX5_joyless cX5_joyless 3 (some .int) 0 := ⟨⟨_, rfl⟩, by decide +kernel, by decide +kernel⟩
set_option maxHeartbeats 4000000 in
set_option maxRecDepth 100000 in
theorem qX5_joyless (l : Launch) (D : va_G) (cI cB : ClassId) (r : Nat → Nat) (B : BayT) (M : MT) (hn7 : sn_ B ≤ 7) : jSi D cI cB l yX5_joyless wsX5_joyless 0 [.ref (r 0)] (mW cI r B M) (fun r => r = bi_ (jy_ B) 0 (sn_ B)) := by
  refine jSi.of (cc := cX5_joyless) (maxL := 3) (ret := (some .int)) okX5_joyless (Nat.le_of_ble_eq_true rfl) ?_
  intro p e s m below meth c ls hx hb hr hts hown hlk hml hP hK hl
  replace hown : s.vm.findClass RX5 = some m.cls := hown
  replace hl : lv_has ls 3 [(0, .ref (r 0))] := hl
  have hinX5 : ∀ w ∈ wsX50, w ∈ wsX5_joyless := by decide +kernel
  refine lv_iconst (v := 0) hx hb dX5_joyless_0 (by decide) ?_
  refine lv_istore_n (lv' := [(1, .int 0), (0, .ref (r 0))]) hx hb dX5_joyless_1 rfl hl (by decide) rfl (fun ls hl => ?_)
  refine lv_iconst (v := 0) hx hb dX5_joyless_2 (by decide) ?_
  refine lv_istore_n (lv' := [(2, .int 0), (1, .int 0), (0, .ref (r 0))]) hx hb dX5_joyless_3 rfl hl (by decide) rfl (fun ls hl => ?_)
  have lp_4 : ∀ (fu_4 : Nat) (i : Nat) (x1_4 : Int32) (x2_4 : Int32) , (x1_4 = bi_ (jy_ B) 0 i) → (x2_4 = nI i) → (i ≤ sn_ B) → sn_ B - i < fu_4 → ∀ ls : Array Slot, lv_has ls 3 [(2, .int x2_4), (1, .int x1_4), (0, .ref (r 0))] → W p l e (jR 0) s m ([.ref (r 0)] : List Value).toArray below meth c s.heap [] 0 0 (MQ below (vp_Si (fun r => r = bi_ (jy_ B) 0 (sn_ B))) ([.ref (r 0)] : List Value).toArray s 0 0 (fun _ => False)) (F0 m 4 ls []) := by
    intro fu_4
    induction fu_4 with
    | zero => intro i x1_4 x2_4 hx1_4 hx2_4 hi hfu; exact absurd hfu (Nat.not_lt_zero _)
    | succ fu_4 ih_4 =>
      intro i x1_4 x2_4 hx1_4 hx2_4 hi hfu_4 ls hl
      subst x1_4
      subst x2_4
      replace hl : lv_has ls 3 [(2, .int (nI i)), (1, .int (bi_ (jy_ B) 0 i)), (0, .ref (r 0))] := hl
      refine lv_iload_n hx hb dX5_joyless_4 rfl (lv_at hl 0 rfl) ?_
      refine lv_aload_n hx hb dX5_joyless_5 rfl (lv_at hl 2 rfl) ?_
      refine va_get (ci := 5) (C := RX5) (T := TX5) (N := 33) hx hb hts hinX5 hown hK.1 hP 0 rfl rfl 6 (by decide) (hts _ (List.mem_of_getElem? (i := 1) rfl)) (fun _ h9 => h9) rfl dX5_joyless_6 ?_
      refine lv_icmp_ge (tgt := 37) hx hb dX5_joyless_9 (by decide) (fun c_9 => ?_) (fun c_9 => ?_)
      · replace c_9 : nI (sn_ B) ≤ nI i := c_9
        rw [jle (by omega) (by omega)] at c_9
        refine lv_iload_n hx hb dX5_joyless_37 rfl (lv_at hl 1 rfl) ?_
        refine rSi hx hb hr hlk ?_ dX5_joyless_38
        show (bi_ (jy_ B) 0 i) = _
        have e9 : i = sn_ B := by omega
        rw [e9]
      · replace c_9 : ¬ nI (sn_ B) ≤ nI i := c_9
        rw [jle (by omega) (by omega)] at c_9
        refine lv_iload_n hx hb dX5_joyless_12 rfl (lv_at hl 1 rfl) ?_
        refine lv_aload_n hx hb dX5_joyless_13 rfl (lv_at hl 2 rfl) ?_
        refine va_get (ci := 5) (C := RX5) (T := TX5) (N := 33) hx hb hts hinX5 hown hK.1 hP 0 rfl rfl 5 (by decide) (hts _ (List.mem_of_getElem? (i := 2) rfl)) (fun _ h9 => h9) rfl dX5_joyless_14 ?_
        refine lv_iload_n hx hb dX5_joyless_17 rfl (lv_at hl 0 rfl) ?_
        refine jald hx hb hK.1 hP 6 0 i rfl rfl rfl (by omega) (Nat.le_of_ble_eq_true rfl) dX5_joyless_18 ?_
        refine lv_if_ne (tgt := 28) hx hb dX5_joyless_19 (by decide) (fun c_19 => ?_) (fun c_19 => ?_)
        · skip
          refine lv_iconst (v := 0) hx hb dX5_joyless_28 (by decide) ?_
          refine lv_ior hx hb dX5_joyless_29 ?_
          refine lv_istore_n (lv' := [(1, .int ((bi_ (jy_ B) 0 i) ||| 0)), (2, .int (nI i)), (0, .ref (r 0))]) hx hb dX5_joyless_30 rfl hl (by decide) rfl (fun ls hl => ?_)
          refine lv_iinc (v := (nI i) + 1) (lv' := [(2, .int ((nI i) + 1)), (1, .int ((bi_ (jy_ B) 0 i) ||| 0)), (0, .ref (r 0))]) hx hb dX5_joyless_31 hl (k := 1) rfl (by first | rfl | decide) (by decide) rfl (fun ls hl => ?_)
          refine lv_goto (tgt := 4) hx hb dX5_joyless_34 (by decide) ?_
          exact ih_4 (i + 1) ((bi_ (jy_ B) 0 i) ||| 0) ((nI i) + 1)  (by first | exact bi_y c_19 | exact bi_n c_19) (by first | rfl | exact nI_1 _) (by omega) (by omega) ls (lv_sub hl [0, 1, 2] rfl)
        · skip
          refine lv_iconst (v := 1) hx hb dX5_joyless_22 (by decide) ?_
          refine lv_iload_n hx hb dX5_joyless_23 rfl (lv_at hl 0 rfl) ?_
          refine lv_ishl hx hb dX5_joyless_24 ?_
          refine lv_goto (tgt := 29) hx hb dX5_joyless_25 (by decide) ?_
          refine lv_ior hx hb dX5_joyless_29 ?_
          refine lv_istore_n (lv' := [(1, .int ((bi_ (jy_ B) 0 i) ||| (1 <<< ((nI i) &&& 31)))), (2, .int (nI i)), (0, .ref (r 0))]) hx hb dX5_joyless_30 rfl hl (by decide) rfl (fun ls hl => ?_)
          refine lv_iinc (v := (nI i) + 1) (lv' := [(2, .int ((nI i) + 1)), (1, .int ((bi_ (jy_ B) 0 i) ||| (1 <<< ((nI i) &&& 31)))), (0, .ref (r 0))]) hx hb dX5_joyless_31 hl (k := 1) rfl (by first | rfl | decide) (by decide) rfl (fun ls hl => ?_)
          refine lv_goto (tgt := 4) hx hb dX5_joyless_34 (by decide) ?_
          exact ih_4 (i + 1) ((bi_ (jy_ B) 0 i) ||| (1 <<< ((nI i) &&& 31))) ((nI i) + 1)  (by first | exact bi_y c_19 | exact bi_n c_19) (by first | rfl | exact nI_1 _) (by omega) (by omega) ls (lv_sub hl [0, 1, 2] rfl)
  exact lp_4 ((sn_ B) + 1) 0 0 0  (by first | rfl | exact nI_0.symm) (by first | rfl | exact nI_0.symm) (by omega) (by omega) ls (lv_sub hl [0, 1, 2] rfl)

theorem okX5_bits : jok yX5_bits wsX5_bits cX5_bits 3 (some .int) 1 := ⟨⟨_, rfl⟩, by decide +kernel, by decide +kernel⟩
set_option maxHeartbeats 4000000 in
set_option maxRecDepth 100000 in
theorem qX5_bits (l : Launch) (D : va_G) (cI cB : ClassId) (b : Nat) (hb_9 : b < 128) : jSi D cI cB l yX5_bits wsX5_bits 0 [.int (nI b)] ([] : va_W) (fun r => r = nI (pn_ b)) := by
  refine jSi.of (cc := cX5_bits) (maxL := 3) (ret := (some .int)) okX5_bits (Nat.le_of_ble_eq_true rfl) ?_
  intro p e s m below meth c ls hx hb hr hts hown hlk hml hP hK hl
  replace hown : s.vm.findClass RX5 = some m.cls := hown
  replace hl : lv_has ls 3 [(0, .int (nI b))] := hl
  refine lv_iconst (v := 0) hx hb dX5_bits_0 (by decide) ?_
  refine lv_istore_n (lv' := [(1, .int 0), (0, .int (nI b))]) hx hb dX5_bits_1 rfl hl (by decide) rfl (fun ls hl => ?_)
  refine lv_iconst (v := 0) hx hb dX5_bits_2 (by decide) ?_
  refine lv_istore_n (lv' := [(2, .int 0), (1, .int 0), (0, .int (nI b))]) hx hb dX5_bits_3 rfl hl (by decide) rfl (fun ls hl => ?_)
  have lp_4 : ∀ (fu_4 : Nat) (i : Nat) (x1_4 : Int32) (x2_4 : Int32) , (x1_4 = bb_ (nI b) i) → (x2_4 = nI i) → (i ≤ 31) → 31 - i < fu_4 → ∀ ls : Array Slot, lv_has ls 3 [(2, .int x2_4), (1, .int x1_4), (0, .int (nI b))] → W p l e (jR 0) s m ([.int (nI b)] : List Value).toArray below meth c s.heap [] 0 0 (MQ below (vp_Si (fun r => r = nI (pn_ b))) ([.int (nI b)] : List Value).toArray s 0 0 (fun _ => False)) (F0 m 4 ls []) := by
    intro fu_4
    induction fu_4 with
    | zero => intro i x1_4 x2_4 hx1_4 hx2_4 hi hfu; exact absurd hfu (Nat.not_lt_zero _)
    | succ fu_4 ih_4 =>
      intro i x1_4 x2_4 hx1_4 hx2_4 hi hfu_4 ls hl
      subst x1_4
      subst x2_4
      replace hl : lv_has ls 3 [(2, .int (nI i)), (1, .int (bb_ (nI b) i)), (0, .int (nI b))] := hl
      refine lv_iload_n hx hb dX5_bits_4 rfl (lv_at hl 0 rfl) ?_
      refine lv_bipush (v := 31) hx hb dX5_bits_5 (by decide) ?_
      refine lv_icmp_ge (tgt := 24) hx hb dX5_bits_7 (by decide) (fun c_7 => ?_) (fun c_7 => ?_)
      · replace c_7 : nI 31 ≤ nI i := c_7
        rw [jle (by omega) (by omega)] at c_7
        refine lv_iload_n hx hb dX5_bits_24 rfl (lv_at hl 1 rfl) ?_
        refine rSi hx hb hr hlk ?_ dX5_bits_25
        show (bb_ (nI b) i) = _
        have e9 : i = 31 := by omega
        rw [e9]
        exact bb_pn hb_9
      · replace c_7 : ¬ nI 31 ≤ nI i := c_7
        rw [jle (by omega) (by omega)] at c_7
        refine lv_iload_n hx hb dX5_bits_10 rfl (lv_at hl 1 rfl) ?_
        refine lv_iload_n hx hb dX5_bits_11 rfl (lv_at hl 2 rfl) ?_
        refine lv_iload_n hx hb dX5_bits_12 rfl (lv_at hl 0 rfl) ?_
        refine lv_ishr hx hb dX5_bits_13 ?_
        refine lv_iconst (v := 1) hx hb dX5_bits_14 (by decide) ?_
        refine lv_iand hx hb dX5_bits_15 ?_
        refine lv_iadd hx hb dX5_bits_16 ?_
        refine lv_istore_n (lv' := [(1, .int ((bb_ (nI b) i) + (((nI b) >>> ((nI i) &&& 31)) &&& 1))), (2, .int (nI i)), (0, .int (nI b))]) hx hb dX5_bits_17 rfl hl (by decide) rfl (fun ls hl => ?_)
        refine lv_iinc (v := (nI i) + 1) (lv' := [(2, .int ((nI i) + 1)), (1, .int ((bb_ (nI b) i) + (((nI b) >>> ((nI i) &&& 31)) &&& 1))), (0, .int (nI b))]) hx hb dX5_bits_18 hl (k := 1) rfl (by first | rfl | decide) (by decide) rfl (fun ls hl => ?_)
        refine lv_goto (tgt := 4) hx hb dX5_bits_21 (by decide) ?_
        exact ih_4 (i + 1) ((bb_ (nI b) i) + (((nI b) >>> ((nI i) &&& 31)) &&& 1)) ((nI i) + 1)  (rfl) (by first | rfl | exact nI_1 _) (by omega) (by omega) ls (lv_sub hl [0, 1, 2] rfl)
  exact lp_4 (31 + 1) 0 0 0  (by first | rfl | exact nI_0.symm) (by first | rfl | exact nI_0.symm) (by omega) (by omega) ls (lv_sub hl [0, 1, 2] rfl)

theorem okX5_oftenOf : jok yX5_oftenOf wsX5_oftenOf cX5_oftenOf 3 (some .int) 2 := ⟨⟨_, rfl⟩, by decide +kernel, by decide +kernel⟩
set_option maxHeartbeats 4000000 in
set_option maxRecDepth 100000 in
theorem qX5_oftenOf (l : Launch) (D : va_G) (cI cB : ClassId) (r : Nat → Nat) (B : BayT) (M : MT) (k : Nat) (n : Nat) (hI : bI_ B) (hk : k < sn_ B) (hn : n ≤ 99) : jMi D cI cB l yX5_oftenOf wsX5_oftenOf 7 [.ref (r 0), .int (nI k), .int (nI n)] (mW cI r B M) (S := MT) (fun r u => r = tc_ B k n ∧ oN_ M u) (fun u => mW cI r B u) := by
  refine jMi.of (cc := cX5_oftenOf) (maxL := 3) (ret := (some .int)) okX5_oftenOf (Nat.le_of_ble_eq_true rfl) ?_
  intro p e s m below meth c ls A hx hb hr hts hown hlk hml hP hK hD hA hS hl
  replace hown : s.vm.findClass RX5 = some m.cls := hown
  replace hl : lv_has ls 3 [(0, .ref (r 0)), (1, .int (nI k)), (2, .int (nI n))] := hl
  have hn7 := hI.1
  have hinX5 : ∀ w ∈ wsX50, w ∈ wsX5_oftenOf := by decide +kernel
  refine lv_aload_n hx hb dX5_oftenOf_0 rfl (lv_at hl 0 rfl) ?_
  refine lv_iconst (v := 1) hx hb dX5_oftenOf_1 (by decide) ?_
  refine lv_iload_n hx hb dX5_oftenOf_2 rfl (lv_at hl 2 rfl) ?_
  refine kMvV hx hb hml hown hts hK hP hD hA hS gX5_oftenOf_X5_findOften okX5_findOften (qX5_findOften l D cI cB r B M 1 n hI (by decide) hn) [0, 1, 2, 3, 4, 5, 6, 7, 8, 9, 10, 11, 12, 13, 14, 15] rfl (by decide) (fun _ => mW_adr _ _ _ _ _ _) rfl rfl rfl (by decide) hl.1 rfl rfl (Nat.le_of_ble_eq_true rfl) dX5_oftenOf_3 (by decide) (fun u_2 H locs hw_3 hP hD hS => ?_)
  replace hw_3 : u_2 = pu_ (fom_ M B 1 (n + 1)) 2 := hw_3
  have hNu_2 : oN_ M u_2 := by rw [hw_3]; exact oN_fo _ _ _ _
  replace hP : va_P D vwCl ([(r 0, .inr (5, [.ref (r 1), .ref (r 2), .ref (r 3), .ref (r 4), .ref (r 5), .ref (r 6), .int (nI (sn_ B)), .int (qt_ B), .int (il_ B), .int (pa_ B), .int (ho_ B), .int (dy_ B), .ref (r 13), .ref (r 14), .ref (r 15), .ref (r 16), .int (nI (mtn_ u_2)), .int (nI (mrd_ u_2)), .int (nI (msm_ u_2)), .ref (r 20), .int (mhi_ u_2), .int (mik_ u_2), .int (nI (mcu_ u_2)), .int (nI (mbk_ u_2)), .ref (r 25), .ref (r 26), .int (mlw_ u_2), .int (mhg_ u_2), .int (msl_ u_2), .ref (r 30), .int (nI (mrm_ u_2)), .ref (r 32), .int (mlo_ u_2)])), (r 1, .inl (cI, 7, .inl (mrf_ u_2))), (r 2, .inl (cI, 7, .inl (kd_ B))), (r 3, .inl (cI, 7, .inl (fg_ B))), (r 4, .inl (cI, 7, .inl (pl_ B))), (r 5, .inl (cI, 7, .inl (pw_ B))), (r 6, .inl (cI, 7, .inl (jy_ B))), (r 13, .inl (cI, 96, .inl (mtp_ u_2))), (r 14, .inl (cI, 48, .inl (mlt_ u_2))), (r 15, .inl (cI, 48, .inl (mla_ u_2))), (r 16, .inl (cI, 144, .inl (mtd_ u_2))), (r 20, .inl (cI, 451, .inl (flatK (mkp_ u_2)))), (r 25, .inl (cI, 7, .inl (mof_ u_2))), (r 26, .inl (cI, 7, .inl (mfa_ u_2))), (r 30, .inl (cI, 12, .inl (mrw_ u_2))), (r 32, .inl (cI, 8, .inl (mhb_ u_2)))]) H := (va_P.m [true, true, true, true, true, true, true, true, true, true, true, true, true, true, true, true] [] hP)
  replace hD : va_D A ([(r 0, .inr (5, [.ref (r 1), .ref (r 2), .ref (r 3), .ref (r 4), .ref (r 5), .ref (r 6), .int (nI (sn_ B)), .int (qt_ B), .int (il_ B), .int (pa_ B), .int (ho_ B), .int (dy_ B), .ref (r 13), .ref (r 14), .ref (r 15), .ref (r 16), .int (nI (mtn_ u_2)), .int (nI (mrd_ u_2)), .int (nI (msm_ u_2)), .ref (r 20), .int (mhi_ u_2), .int (mik_ u_2), .int (nI (mcu_ u_2)), .int (nI (mbk_ u_2)), .ref (r 25), .ref (r 26), .int (mlw_ u_2), .int (mhg_ u_2), .int (msl_ u_2), .ref (r 30), .int (nI (mrm_ u_2)), .ref (r 32), .int (mlo_ u_2)])), (r 1, .inl (cI, 7, .inl (mrf_ u_2))), (r 2, .inl (cI, 7, .inl (kd_ B))), (r 3, .inl (cI, 7, .inl (fg_ B))), (r 4, .inl (cI, 7, .inl (pl_ B))), (r 5, .inl (cI, 7, .inl (pw_ B))), (r 6, .inl (cI, 7, .inl (jy_ B))), (r 13, .inl (cI, 96, .inl (mtp_ u_2))), (r 14, .inl (cI, 48, .inl (mlt_ u_2))), (r 15, .inl (cI, 48, .inl (mla_ u_2))), (r 16, .inl (cI, 144, .inl (mtd_ u_2))), (r 20, .inl (cI, 451, .inl (flatK (mkp_ u_2)))), (r 25, .inl (cI, 7, .inl (mof_ u_2))), (r 26, .inl (cI, 7, .inl (mfa_ u_2))), (r 30, .inl (cI, 12, .inl (mrw_ u_2))), (r 32, .inl (cI, 8, .inl (mhb_ u_2)))]) := (va_D.m [true, true, true, true, true, true, true, true, true, true, true, true, true, true, true, true] [] hD)
  have emof_u_2 : mof_ u_2 = ofn_ B 1 (n + 1) := fo_mof hw_3
  have emfa_u_2 : mfa_ u_2 = fan_ B (n + 1) := fo_mfa hw_3
  have emlw_u_2 : mlw_ u_2 = lwn_ B (n + 1) := fo_mlw hw_3
  have emhg_u_2 : mhg_ u_2 = hgn_ B (n + 1) := fo_mhg hw_3
  have emsl_u_2 : msl_ u_2 = sln_ B (n + 1) := fo_msl hw_3
  rw [emof_u_2, emfa_u_2, emlw_u_2, emhg_u_2, emsl_u_2] at hP hD
  replace hP : va_P D vwCl ([(r 0, .inr (5, [.ref (r 1), .ref (r 2), .ref (r 3), .ref (r 4), .ref (r 5), .ref (r 6), .int (nI (sn_ B)), .int (qt_ B), .int (il_ B), .int (pa_ B), .int (ho_ B), .int (dy_ B), .ref (r 13), .ref (r 14), .ref (r 15), .ref (r 16), .int (nI (mtn_ u_2)), .int (nI (mrd_ u_2)), .int (nI (msm_ u_2)), .ref (r 20), .int (mhi_ u_2), .int (mik_ u_2), .int (nI (mcu_ u_2)), .int (nI (mbk_ u_2)), .ref (r 25), .ref (r 26), .int (lwn_ B (n + 1)), .int (hgn_ B (n + 1)), .int (sln_ B (n + 1)), .ref (r 30), .int (nI (mrm_ u_2)), .ref (r 32), .int (mlo_ u_2)])), (r 1, .inl (cI, 7, .inl (mrf_ u_2))), (r 2, .inl (cI, 7, .inl (kd_ B))), (r 3, .inl (cI, 7, .inl (fg_ B))), (r 4, .inl (cI, 7, .inl (pl_ B))), (r 5, .inl (cI, 7, .inl (pw_ B))), (r 6, .inl (cI, 7, .inl (jy_ B))), (r 13, .inl (cI, 96, .inl (mtp_ u_2))), (r 14, .inl (cI, 48, .inl (mlt_ u_2))), (r 15, .inl (cI, 48, .inl (mla_ u_2))), (r 16, .inl (cI, 144, .inl (mtd_ u_2))), (r 20, .inl (cI, 451, .inl (flatK (mkp_ u_2)))), (r 25, .inl (cI, 7, .inl (ofn_ B 1 (n + 1)))), (r 26, .inl (cI, 7, .inl (fan_ B (n + 1)))), (r 30, .inl (cI, 12, .inl (mrw_ u_2))), (r 32, .inl (cI, 8, .inl (mhb_ u_2)))]) H := hP
  replace hD : va_D A ([(r 0, .inr (5, [.ref (r 1), .ref (r 2), .ref (r 3), .ref (r 4), .ref (r 5), .ref (r 6), .int (nI (sn_ B)), .int (qt_ B), .int (il_ B), .int (pa_ B), .int (ho_ B), .int (dy_ B), .ref (r 13), .ref (r 14), .ref (r 15), .ref (r 16), .int (nI (mtn_ u_2)), .int (nI (mrd_ u_2)), .int (nI (msm_ u_2)), .ref (r 20), .int (mhi_ u_2), .int (mik_ u_2), .int (nI (mcu_ u_2)), .int (nI (mbk_ u_2)), .ref (r 25), .ref (r 26), .int (lwn_ B (n + 1)), .int (hgn_ B (n + 1)), .int (sln_ B (n + 1)), .ref (r 30), .int (nI (mrm_ u_2)), .ref (r 32), .int (mlo_ u_2)])), (r 1, .inl (cI, 7, .inl (mrf_ u_2))), (r 2, .inl (cI, 7, .inl (kd_ B))), (r 3, .inl (cI, 7, .inl (fg_ B))), (r 4, .inl (cI, 7, .inl (pl_ B))), (r 5, .inl (cI, 7, .inl (pw_ B))), (r 6, .inl (cI, 7, .inl (jy_ B))), (r 13, .inl (cI, 96, .inl (mtp_ u_2))), (r 14, .inl (cI, 48, .inl (mlt_ u_2))), (r 15, .inl (cI, 48, .inl (mla_ u_2))), (r 16, .inl (cI, 144, .inl (mtd_ u_2))), (r 20, .inl (cI, 451, .inl (flatK (mkp_ u_2)))), (r 25, .inl (cI, 7, .inl (ofn_ B 1 (n + 1)))), (r 26, .inl (cI, 7, .inl (fan_ B (n + 1)))), (r 30, .inl (cI, 12, .inl (mrw_ u_2))), (r 32, .inl (cI, 8, .inl (mhb_ u_2)))]) := hD
  refine lv_aload_n hx hb dX5_oftenOf_6 rfl (lv_at hl 0 rfl) ?_
  refine va_get (ci := 5) (C := RX5) (T := TX5) (N := 33) hx hb hts hinX5 hown hK.1 hP 0 rfl rfl 24 (by decide) (hts _ (List.mem_of_getElem? (i := 1) rfl)) (fun _ h9 => h9) rfl dX5_oftenOf_7 ?_
  refine lv_iload_n hx hb dX5_oftenOf_10 rfl (lv_at hl 1 rfl) ?_
  refine jald hx hb hK.1 hP 12 0 k rfl rfl rfl (by omega) (Nat.le_of_ble_eq_true rfl) dX5_oftenOf_11 ?_
  refine rMi hx hb hr hlk hS (mkM (mrf_ u_2) (mtp_ u_2) (mlt_ u_2) (mla_ u_2) (mtd_ u_2) (mkp_ u_2) (ofn_ B 1 (n + 1)) (fan_ B (n + 1)) (mrw_ u_2) (mhb_ u_2) (mtn_ u_2) (mrd_ u_2) (msm_ u_2) (mcu_ u_2) (mbk_ u_2) (mrm_ u_2) (mhi_ u_2) (mik_ u_2) (lwn_ B (n + 1)) (hgn_ B (n + 1)) (sln_ B (n + 1)) (mlo_ u_2)) hP ?_ dX5_oftenOf_12
  exact ⟨ofn_tc hI hk n, by assumption⟩

