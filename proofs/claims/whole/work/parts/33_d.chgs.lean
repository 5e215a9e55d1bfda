theorem okX5_next : jok yX5_next wsX5_next cX5_next 1 (some .int) 0 := ⟨⟨_, rfl⟩, by decide +kernel, by decide +kernel⟩
set_option maxHeartbeats 2000000 in
set_option maxRecDepth 100000 in
theorem qX5_next (l : Launch) (D : va_G) (cI cB : ClassId) (r : Nat → Nat) (B : BayT) (M : MT) (htn : mtn_ M ≤ 96) (hrd : mrd_ M ≤ 200) : jSi D cI cB l yX5_next wsX5_next 0 [.ref (r 0)] (mW cI r B M) (fun r => r = la_ (mtp_ M) (mtn_ M) (mrd_ M)) := by
  refine jSi.of (cc := cX5_next) (maxL := 1) (ret := (some .int)) okX5_next (Nat.le_of_ble_eq_true rfl) ?_
  intro p e s m below meth c ls hx hb hr hts hown hlk hml hP hK hl
  replace hown : s.vm.findClass RX5 = some m.cls := hown
  replace hl : lv_has ls 1 [(0, .ref (r 0))] := hl
  have hinX5 : ∀ w ∈ wsX50, w ∈ wsX5_next := by decide +kernel
  refine lv_aload_n hx hb dX5_next_0 rfl (lv_at hl 0 rfl) ?_
  refine va_get (ci := 5) (C := RX5) (T := TX5) (N := 33) hx hb hts hinX5 hown hK.1 hP 0 rfl rfl 17 (by decide) (hts _ (List.mem_of_getElem? (i := 1) rfl)) (fun _ h9 => h9) rfl dX5_next_1 ?_
  refine lv_aload_n hx hb dX5_next_4 rfl (lv_at hl 0 rfl) ?_
  refine va_get (ci := 5) (C := RX5) (T := TX5) (N := 33) hx hb hts hinX5 hown hK.1 hP 0 rfl rfl 16 (by decide) (hts _ (List.mem_of_getElem? (i := 2) rfl)) (fun _ h9 => h9) rfl dX5_next_5 ?_
  refine lv_icmp_ge (tgt := 23) hx hb dX5_next_8 (by decide) (fun c_8 => ?_) (fun c_8 => ?_)
  · replace c_8 : nI (mtn_ M) ≤ nI (mrd_ M) := c_8
    rw [jle (by omega) (by omega)] at c_8
    refine lv_iconst (v := (-1)) hx hb dX5_next_23 (by decide) ?_
    refine rSi hx hb hr hlk ?_ dX5_next_24
    show (-1) = _
    first | (unfold la_; rw [if_pos (by omega)]; done) | (unfold la_; rw [if_neg (by omega)]; done)
  · replace c_8 : ¬ nI (mtn_ M) ≤ nI (mrd_ M) := c_8
    rw [jle (by omega) (by omega)] at c_8
    refine lv_aload_n hx hb dX5_next_11 rfl (lv_at hl 0 rfl) ?_
    refine va_get (ci := 5) (C := RX5) (T := TX5) (N := 33) hx hb hts hinX5 hown hK.1 hP 0 rfl rfl 12 (by decide) (hts _ (List.mem_of_getElem? (i := 3) rfl)) (fun _ h9 => h9) rfl dX5_next_12 ?_
    refine lv_aload_n hx hb dX5_next_15 rfl (lv_at hl 0 rfl) ?_
    refine va_get (ci := 5) (C := RX5) (T := TX5) (N := 33) hx hb hts hinX5 hown hK.1 hP 0 rfl rfl 17 (by decide) (hts _ (List.mem_of_getElem? (i := 1) rfl)) (fun _ h9 => h9) rfl dX5_next_16 ?_
    refine jald hx hb hK.1 hP 7 0 (mrd_ M) rfl rfl rfl (by omega) (Nat.le_of_ble_eq_true rfl) dX5_next_19 ?_
    refine lv_goto (tgt := 24) hx hb dX5_next_20 (by decide) ?_
    refine rSi hx hb hr hlk ?_ dX5_next_24
    show ((mtp_ M) (mrd_ M)) = _
    first | (unfold la_; rw [if_pos (by omega)]; done) | (unfold la_; rw [if_neg (by omega)]; done)

theorem okX5_readsDigits : jok yX5_readsDigits wsX5_readsDigits cX5_readsDigits 5 (some .boolean) 2 := ⟨⟨_, rfl⟩, by decide +kernel, by decide +kernel⟩
set_option maxHeartbeats 2000000 in
set_option maxRecDepth 100000 in
theorem qX5_readsDigits (l : Launch) (D : va_G) (cI cB : ClassId) (r : Nat → Nat) (B : BayT) (M : MT) (p_9 : Nat) (d : Nat) (hp : p_9 < 144) (hd : d ≤ 2) (htn : mtn_ M ≤ 96) (hr1 : mrd_ M ≤ 103) : jMi D cI cB l yX5_readsDigits wsX5_readsDigits 1 [.ref (r 0), .int (nI p_9), .int (nI d)] (mW cI r B M) (S := (Nat → Int32) × Nat) (fun r u => r = b1 (dg_ (mtp_ M) (mtn_ M) d (mrd_ M) = none) ∧ u.2 = rdv_ (dg_ (mtp_ M) (mtn_ M) d (mrd_ M)) (mrd_ M + d) ∧ u.1 = (if dg_ (mtp_ M) (mtn_ M) d (mrd_ M) = none then upd (mtd_ M) p_9 (vd_ (mtp_ M) (mtn_ M) (mrd_ M) d) else mtd_ M)) (fun u => mW cI r B (wtr_ M u.1 u.2)) := by
  refine jMi.of (cc := cX5_readsDigits) (maxL := 5) (ret := (some .boolean)) okX5_readsDigits (Nat.le_of_ble_eq_true rfl) ?_
  intro p e s m below meth c ls A hx hb hr hts hown hlk hml hP hK hD hA hS hl
  replace hown : s.vm.findClass RX5 = some m.cls := hown
  replace hl : lv_has ls 5 [(0, .ref (r 0)), (1, .int (nI p_9)), (2, .int (nI d))] := hl
  have hD0 := hD
  have hinX5 : ∀ w ∈ wsX50, w ∈ wsX5_readsDigits := by decide +kernel
  refine lv_iconst (v := 0) hx hb dX5_readsDigits_0 (by decide) ?_
  refine lv_istore_n (lv' := [(3, .int 0), (0, .ref (r 0)), (1, .int (nI p_9)), (2, .int (nI d))]) hx hb dX5_readsDigits_1 rfl hl (by decide) rfl (fun ls hl => ?_)
  refine lv_iconst (v := 0) hx hb dX5_readsDigits_2 (by decide) ?_
  refine lv_istore (lv' := [(4, .int 0), (3, .int 0), (0, .ref (r 0)), (1, .int (nI p_9)), (2, .int (nI d))]) hx hb dX5_readsDigits_3 hl (by decide) rfl (fun ls hl => ?_)
  have lp_5 : ∀ (fu_5 : Nat) (i : Nat) (x3_5 : Int32) (x4_5 : Int32) (M2 : MT), (x3_5 = vd_ (mtp_ M) (mtn_ M) (mrd_ M) i) → (x4_5 = nI i) → (M2 = wtr_ M (mtd_ M) (mrd_ M + i)) → (i ≤ d) → (dg_ (mtp_ M) (mtn_ M) (d - i) (mrd_ M + i) = dg_ (mtp_ M) (mtn_ M) d (mrd_ M)) → d - i < fu_5 → ∀ (H : Heap) (locs : List Loc), va_P D vwCl (mW cI r B M2) H → va_D A (mW cI r B M2) → va_S A s.heap H locs → ∀ ls : Array Slot, lv_has ls 5 [(4, .int x4_5), (3, .int x3_5), (0, .ref (r 0)), (1, .int (nI p_9)), (2, .int (nI d))] → W p l e (jR 1) s m ([.ref (r 0), .int (nI p_9), .int (nI d)] : List Value).toArray below meth c H locs 0 0 (MQ below (va_Qi (S := (Nat → Int32) × Nat) (fun r u => r = b1 (dg_ (mtp_ M) (mtn_ M) d (mrd_ M) = none) ∧ u.2 = rdv_ (dg_ (mtp_ M) (mtn_ M) d (mrd_ M)) (mrd_ M + d) ∧ u.1 = (if dg_ (mtp_ M) (mtn_ M) d (mrd_ M) = none then upd (mtd_ M) p_9 (vd_ (mtp_ M) (mtn_ M) (mrd_ M) d) else mtd_ M)) (fun u t => va_P D vwCl ((fun u => mW cI r B (wtr_ M u.1 u.2)) u) t.heap) A) ([.ref (r 0), .int (nI p_9), .int (nI d)] : List Value).toArray s 0 0 A) (F0 m 5 ls []) := by
    intro fu_5
    induction fu_5 with
    | zero => intro i x3_5 x4_5 M2 hx3_5 hx4_5 hM2 hi hre hfu; exact absurd hfu (Nat.not_lt_zero _)
    | succ fu_5 ih_5 =>
      intro i x3_5 x4_5 M2 hx3_5 hx4_5 hM2 hi hre hfu_5 H locs hP hD hS ls hl
      subst x3_5
      subst x4_5
      subst M2
      replace hl : lv_has ls 5 [(4, .int (nI i)), (3, .int (vd_ (mtp_ M) (mtn_ M) (mrd_ M) i)), (0, .ref (r 0)), (1, .int (nI p_9)), (2, .int (nI d))] := hl
      replace hP : va_P D vwCl ([(r 0, .inr (5, [.ref (r 1), .ref (r 2), .ref (r 3), .ref (r 4), .ref (r 5), .ref (r 6), .int (nI (sn_ B)), .int (qt_ B), .int (il_ B), .int (pa_ B), .int (ho_ B), .int (dy_ B), .ref (r 13), .ref (r 14), .ref (r 15), .ref (r 16), .int (nI (mtn_ M)), .int (nI (mrd_ M + i)), .int (nI (msm_ M)), .ref (r 20), .int (mhi_ M), .int (mik_ M), .int (nI (mcu_ M)), .int (nI (mbk_ M)), .ref (r 25), .ref (r 26), .int (mlw_ M), .int (mhg_ M), .int (msl_ M), .ref (r 30), .int (nI (mrm_ M)), .ref (r 32), .int (mlo_ M)])), (r 1, .inl (cI, 7, .inl (mrf_ M))), (r 2, .inl (cI, 7, .inl (kd_ B))), (r 3, .inl (cI, 7, .inl (fg_ B))), (r 4, .inl (cI, 7, .inl (pl_ B))), (r 5, .inl (cI, 7, .inl (pw_ B))), (r 6, .inl (cI, 7, .inl (jy_ B))), (r 13, .inl (cI, 96, .inl (mtp_ M))), (r 14, .inl (cI, 48, .inl (mlt_ M))), (r 15, .inl (cI, 48, .inl (mla_ M))), (r 16, .inl (cI, 144, .inl (mtd_ M))), (r 20, .inl (cI, 451, .inl (flatK (mkp_ M)))), (r 25, .inl (cI, 7, .inl (mof_ M))), (r 26, .inl (cI, 7, .inl (mfa_ M))), (r 30, .inl (cI, 12, .inl (mrw_ M))), (r 32, .inl (cI, 8, .inl (mhb_ M)))]) H := hP
      refine lv_iload hx hb dX5_readsDigits_5 (lv_at hl 0 rfl) ?_
      refine lv_iload_n hx hb dX5_readsDigits_7 rfl (lv_at hl 4 rfl) ?_
      refine lv_icmp_ge (tgt := 56) hx hb dX5_readsDigits_8 (by decide) (fun c_8 => ?_) (fun c_8 => ?_)
      · replace c_8 : nI d ≤ nI i := c_8
        rw [jle (by omega) (by omega)] at c_8
        refine lv_aload_n hx hb dX5_readsDigits_56 rfl (lv_at hl 2 rfl) ?_
        refine va_get (ci := 5) (C := RX5) (T := TX5) (N := 33) hx hb hts hinX5 hown hK.1 hP 0 rfl rfl 15 (by decide) (hts _ (List.mem_of_getElem? (i := 2) rfl)) (fun _ h9 => h9) rfl dX5_readsDigits_57 ?_
        refine lv_iload_n hx hb dX5_readsDigits_60 rfl (lv_at hl 3 rfl) ?_
        refine lv_iload_n hx hb dX5_readsDigits_61 rfl (lv_at hl 1 rfl) ?_
        refine jast hx hb hK.1 hP (va_D.adr hD0 (mW_adE rfl)) hS 10 0 p_9 rfl rfl rfl (by omega) (Nat.le_of_ble_eq_true rfl) dX5_readsDigits_62 (fun f_1 ef_1 H locs hP hD hS => ?_)
        replace ef_1 : f_1 = upd (mtd_ M) p_9 (vd_ (mtp_ M) (mtn_ M) (mrd_ M) i) := ef_1
        replace hP : va_P D vwCl ([(r 0, .inr (5, [.ref (r 1), .ref (r 2), .ref (r 3), .ref (r 4), .ref (r 5), .ref (r 6), .int (nI (sn_ B)), .int (qt_ B), .int (il_ B), .int (pa_ B), .int (ho_ B), .int (dy_ B), .ref (r 13), .ref (r 14), .ref (r 15), .ref (r 16), .int (nI (mtn_ M)), .int (nI (mrd_ M + i)), .int (nI (msm_ M)), .ref (r 20), .int (mhi_ M), .int (mik_ M), .int (nI (mcu_ M)), .int (nI (mbk_ M)), .ref (r 25), .ref (r 26), .int (mlw_ M), .int (mhg_ M), .int (msl_ M), .ref (r 30), .int (nI (mrm_ M)), .ref (r 32), .int (mlo_ M)])), (r 1, .inl (cI, 7, .inl (mrf_ M))), (r 2, .inl (cI, 7, .inl (kd_ B))), (r 3, .inl (cI, 7, .inl (fg_ B))), (r 4, .inl (cI, 7, .inl (pl_ B))), (r 5, .inl (cI, 7, .inl (pw_ B))), (r 6, .inl (cI, 7, .inl (jy_ B))), (r 13, .inl (cI, 96, .inl (mtp_ M))), (r 14, .inl (cI, 48, .inl (mlt_ M))), (r 15, .inl (cI, 48, .inl (mla_ M))), (r 16, .inl (cI, 144, .inl f_1)), (r 20, .inl (cI, 451, .inl (flatK (mkp_ M)))), (r 25, .inl (cI, 7, .inl (mof_ M))), (r 26, .inl (cI, 7, .inl (mfa_ M))), (r 30, .inl (cI, 12, .inl (mrw_ M))), (r 32, .inl (cI, 8, .inl (mhb_ M)))]) H := hP
        refine lv_iconst (v := 1) hx hb dX5_readsDigits_63 (by decide) ?_
        (try rw [ef_1] at hP); (try rw [ef_1] at hD); (try rw [ef_1] at hl); (try rw [ef_1] at c_8); (try rw [ef_1])
        refine rMz hx hb hr hlk hS ((upd (mtd_ M) p_9 (vd_ (mtp_ M) (mtn_ M) (mrd_ M) i)), (mrd_ M + i)) hP (Or.inr rfl) ?_ dX5_readsDigits_64
        first | (rw [dg_s (by omega), if_neg c_22] at hre; rw [← hre]; exact ⟨rfl, rfl, rfl⟩) | (have e9 : i = d := (by omega); subst e9; have h0 := dg_z hre (Nat.le_refl _); rw [h0]; exact ⟨rfl, rfl, rfl⟩)
      · replace c_8 : ¬ nI d ≤ nI i := c_8
        rw [jle (by omega) (by omega)] at c_8
        refine lv_aload_n hx hb dX5_readsDigits_11 rfl (lv_at hl 2 rfl) ?_
        refine kSiV hx hb hml hown hts hK hP gX5_readsDigits_X5_next okX5_next (qX5_next l D cI cB r B (wtr_ M (mtd_ M) (mrd_ M + i)) (by show mtn_ M ≤ 96; exact htn) (by show (mrd_ M + i) ≤ 200; omega)) [0, 1, 2, 3, 4, 5, 6, 7, 8, 9, 10, 11, 12, 13, 14, 15] rfl rfl rfl rfl (by decide) hl.1 rfl rfl (Nat.le_of_ble_eq_true rfl) dX5_readsDigits_12 (by decide) (fun r_2 hr_3 => ?_)
        replace hr_3 : r_2 = la_ (mtp_ (wtr_ M (mtd_ M) (mrd_ M + i))) (mtn_ (wtr_ M (mtd_ M) (mrd_ M + i))) (mrd_ (wtr_ M (mtd_ M) (mrd_ M + i))) := hr_3
        subst r_2
        refine sti (x := la_ (mtp_ (wtr_ M (mtd_ M) (mrd_ M + i))) (mtn_ (wtr_ M (mtd_ M) (mrd_ M + i))) (mrd_ (wtr_ M (mtd_ M) (mrd_ M + i)))) (y := la_ (mtp_ M) (mtn_ M) (mrd_ M + i)) rfl ?_
        refine lv_bipush (v := 48) hx hb dX5_readsDigits_15 (by decide) ?_
        refine lv_bipush (v := 57) hx hb dX5_readsDigits_17 (by decide) ?_
        refine kSiS hx hb hml hown hts hK hP gX5_readsDigits_X5_isIn okX5_isIn (qX5_isIn l D cI cB (la_ (mtp_ M) (mtn_ M) (mrd_ M + i)) 48 57 ) [] rfl (by decide) hl.1 rfl rfl (Nat.le_of_ble_eq_true rfl) dX5_readsDigits_19 (by decide) (fun r_4 hr_5 => ?_)
        replace hr_5 : r_4 = b1 (48 ≤ (la_ (mtp_ M) (mtn_ M) (mrd_ M + i)) ∧ (la_ (mtp_ M) (mtn_ M) (mrd_ M + i)) ≤ 57) := hr_5
        subst r_4
        refine lv_if_ne (tgt := 27) hx hb dX5_readsDigits_22 (by decide) (fun c_22 => ?_) (fun c_22 => ?_)
        · replace c_22 := b1_n c_22
          refine lv_bipush (v := 10) hx hb dX5_readsDigits_27 (by decide) ?_
          refine lv_iload_n hx hb dX5_readsDigits_29 rfl (lv_at hl 1 rfl) ?_
          refine lv_imul hx hb dX5_readsDigits_30 ?_
          refine lv_aload_n hx hb dX5_readsDigits_31 rfl (lv_at hl 2 rfl) ?_
          refine kSiV hx hb hml hown hts hK hP gX5_readsDigits_X5_next okX5_next (qX5_next l D cI cB r B (wtr_ M (mtd_ M) (mrd_ M + i)) (by show mtn_ M ≤ 96; exact htn) (by show (mrd_ M + i) ≤ 200; omega)) [0, 1, 2, 3, 4, 5, 6, 7, 8, 9, 10, 11, 12, 13, 14, 15] rfl rfl rfl rfl (by decide) hl.1 rfl rfl (Nat.le_of_ble_eq_true rfl) dX5_readsDigits_32 (by decide) (fun r_6 hr_7 => ?_)
          replace hr_7 : r_6 = la_ (mtp_ (wtr_ M (mtd_ M) (mrd_ M + i))) (mtn_ (wtr_ M (mtd_ M) (mrd_ M + i))) (mrd_ (wtr_ M (mtd_ M) (mrd_ M + i))) := hr_7
          subst r_6
          refine sti (x := la_ (mtp_ (wtr_ M (mtd_ M) (mrd_ M + i))) (mtn_ (wtr_ M (mtd_ M) (mrd_ M + i))) (mrd_ (wtr_ M (mtd_ M) (mrd_ M + i)))) (y := la_ (mtp_ M) (mtn_ M) (mrd_ M + i)) rfl ?_
          refine lv_iadd hx hb dX5_readsDigits_35 ?_
          refine lv_bipush (v := 48) hx hb dX5_readsDigits_36 (by decide) ?_
          refine lv_isub hx hb dX5_readsDigits_38 ?_
          refine lv_istore_n (lv' := [(3, .int (((10 * (vd_ (mtp_ M) (mtn_ M) (mrd_ M) i)) + (la_ (mtp_ M) (mtn_ M) (mrd_ M + i))) - 48)), (4, .int (nI i)), (0, .ref (r 0)), (1, .int (nI p_9)), (2, .int (nI d))]) hx hb dX5_readsDigits_39 rfl hl (by decide) rfl (fun ls hl => ?_)
          refine lv_aload_n hx hb dX5_readsDigits_40 rfl (lv_at hl 2 rfl) ?_
          refine lv_dup hx hb dX5_readsDigits_41 rfl ?_
          refine va_get (ci := 5) (C := RX5) (T := TX5) (N := 33) hx hb hts hinX5 hown hK.1 hP 0 rfl rfl 17 (by decide) (hts _ (List.mem_of_getElem? (i := 1) rfl)) (fun _ h9 => h9) rfl dX5_readsDigits_42 ?_
          refine lv_iconst (v := 1) hx hb dX5_readsDigits_45 (by decide) ?_
          refine lv_iadd hx hb dX5_readsDigits_46 ?_
          refine sti (x := (nI (mrd_ M + i)) + 1) (y := nI (mrd_ M + i + 1)) (nI_1 _) ?_
          refine va_put (ci := 5) (ty := .int) (C := RX5) (T := TX5) (N := 33) hx hb hts hinX5 tyX5 tyX5_ok nmX5 hown hK.1 hP (va_D.adr hD0 (mW_adE rfl)) hS 0 rfl rfl 17 (by decide) (hts _ (List.mem_of_getElem? (i := 1) rfl)) (fun _ h9 => h9) rfl (by decide +kernel) (rfl) (rfl) (Nat.le_of_ble_eq_true rfl) dX5_readsDigits_47 (fun H locs hP hD hS => ?_)
          replace hP : va_P D vwCl ([(r 0, .inr (5, [.ref (r 1), .ref (r 2), .ref (r 3), .ref (r 4), .ref (r 5), .ref (r 6), .int (nI (sn_ B)), .int (qt_ B), .int (il_ B), .int (pa_ B), .int (ho_ B), .int (dy_ B), .ref (r 13), .ref (r 14), .ref (r 15), .ref (r 16), .int (nI (mtn_ M)), .int (nI (mrd_ M + i + 1)), .int (nI (msm_ M)), .ref (r 20), .int (mhi_ M), .int (mik_ M), .int (nI (mcu_ M)), .int (nI (mbk_ M)), .ref (r 25), .ref (r 26), .int (mlw_ M), .int (mhg_ M), .int (msl_ M), .ref (r 30), .int (nI (mrm_ M)), .ref (r 32), .int (mlo_ M)])), (r 1, .inl (cI, 7, .inl (mrf_ M))), (r 2, .inl (cI, 7, .inl (kd_ B))), (r 3, .inl (cI, 7, .inl (fg_ B))), (r 4, .inl (cI, 7, .inl (pl_ B))), (r 5, .inl (cI, 7, .inl (pw_ B))), (r 6, .inl (cI, 7, .inl (jy_ B))), (r 13, .inl (cI, 96, .inl (mtp_ M))), (r 14, .inl (cI, 48, .inl (mlt_ M))), (r 15, .inl (cI, 48, .inl (mla_ M))), (r 16, .inl (cI, 144, .inl (mtd_ M))), (r 20, .inl (cI, 451, .inl (flatK (mkp_ M)))), (r 25, .inl (cI, 7, .inl (mof_ M))), (r 26, .inl (cI, 7, .inl (mfa_ M))), (r 30, .inl (cI, 12, .inl (mrw_ M))), (r 32, .inl (cI, 8, .inl (mhb_ M)))]) H := hP
          refine lv_iinc (v := (nI i) + 1) (lv' := [(4, .int ((nI i) + 1)), (3, .int (((10 * (vd_ (mtp_ M) (mtn_ M) (mrd_ M) i)) + (la_ (mtp_ M) (mtn_ M) (mrd_ M + i))) - 48)), (0, .ref (r 0)), (1, .int (nI p_9)), (2, .int (nI d))]) hx hb dX5_readsDigits_50 hl (k := 1) rfl (by first | rfl | decide) (by decide) rfl (fun ls hl => ?_)
          refine lv_goto (tgt := 5) hx hb dX5_readsDigits_53 (by decide) ?_
          exact ih_5 (i + 1) (((10 * (vd_ (mtp_ M) (mtn_ M) (mrd_ M) i)) + (la_ (mtp_ M) (mtn_ M) (mrd_ M + i))) - 48) ((nI i) + 1) (mkM (mrf_ M) (mtp_ M) (mlt_ M) (mla_ M) (mtd_ M) (mkp_ M) (mof_ M) (mfa_ M) (mrw_ M) (mhb_ M) (mtn_ M) (mrd_ M + i + 1) (msm_ M) (mcu_ M) (mbk_ M) (mrm_ M) (mhi_ M) (mik_ M) (mlw_ M) (mhg_ M) (msl_ M) (mlo_ M)) (rfl) (by first | rfl | exact nI_1 _) (rfl) (by omega) (by rw [dg_s (by omega), if_pos c_22] at hre; exact hre) (by omega) _ _ hP (va_D.adr hD0 (mW_adE rfl)) hS ls (lv_sub hl [0, 1, 2, 3, 4] rfl)
        · replace c_22 := b1_z c_22
          refine lv_iconst (v := 0) hx hb dX5_readsDigits_25 (by decide) ?_
          refine rMz hx hb hr hlk hS ((mtd_ M), (mrd_ M + i)) hP (Or.inl rfl) ?_ dX5_readsDigits_26
          first | (rw [dg_s (by omega), if_neg c_22] at hre; rw [← hre]; exact ⟨rfl, rfl, rfl⟩) | (have e9 : i = d := (by omega); subst e9; have h0 := dg_z hre (Nat.le_refl _); rw [h0]; exact ⟨rfl, rfl, rfl⟩)
  exact lp_5 (d + 1) 0 0 0 M (rfl) (by first | rfl | exact nI_0.symm) (rfl) (by omega) (rfl) (by omega) _ _ hP (va_D.adr hD0 (mW_adE rfl)) hS ls (lv_sub hl [0, 1, 2, 3, 4] rfl)

theorem okX5_readsAll : jok yX5_readsAll wsX5_readsAll cX5_readsAll 3 (some .boolean) 2 := ⟨⟨_, rfl⟩, by decide +kernel, by decide +kernel⟩
set_option maxHeartbeats 2000000 in
set_option maxRecDepth 100000 in
theorem qX5_readsAll (l : Launch) (D : va_G) (cI cB : ClassId) (r : Nat → Nat) (B : BayT) (M : MT) (b : Int32) (p_9 : Nat) (hb_9 : b = 115 ∨ b = 112 ∨ b = 113 ∨ b = 105 ∨ b = 118 ∨ b = 104) (hp : p_9 + 2 < 144) (htn : mtn_ M ≤ 96) (hr1 : mrd_ M ≤ 99) : jMi D cI cB l yX5_readsAll wsX5_readsAll 2 [.ref (r 0), .int b, .int (nI p_9)] (mW cI r B M) (S := (Nat → Int32) × Nat) (fun r u => r = b1 (dg_ (mtp_ M) (mtn_ M) (db_ b) (mrd_ M) = none) ∧ u.2 = rdv_ (dg_ (mtp_ M) (mtn_ M) (db_ b) (mrd_ M)) (mrd_ M + db_ b) ∧ (∀ j, j < p_9 → u.1 j = mtd_ M j) ∧ (dg_ (mtp_ M) (mtn_ M) (db_ b) (mrd_ M) = none → okT_ (mtp_ M) (mtn_ M) (mrd_ M) b u.1 p_9)) (fun u => mW cI r B (wtr_ M u.1 u.2)) := by
  refine jMi.of (cc := cX5_readsAll) (maxL := 3) (ret := (some .boolean)) okX5_readsAll (Nat.le_of_ble_eq_true rfl) ?_
  intro p e s m below meth c ls A hx hb hr hts hown hlk hml hP hK hD hA hS hl
  replace hown : s.vm.findClass RX5 = some m.cls := hown
  replace hl : lv_has ls 3 [(0, .ref (r 0)), (1, .int b), (2, .int (nI p_9))] := hl
  have hD0 := hD
  refine lv_iload_n hx hb dX5_readsAll_0 rfl (lv_at hl 1 rfl) ?_
  by_cases c_1_112 : b = 112
  · refine lv_tableIn (off := 80) (tgt := 81) hx hb dX5_readsAll_1 (by rw [c_1_112]; decide) (by rw [c_1_112]; decide) (by rw [c_1_112]; rfl) (by decide) ?_
    refine lv_aload_n hx hb dX5_readsAll_81 rfl (lv_at hl 0 rfl) ?_
    refine lv_iload_n hx hb dX5_readsAll_82 rfl (lv_at hl 2 rfl) ?_
    refine lv_iconst (v := 1) hx hb dX5_readsAll_83 (by decide) ?_
    refine kMiV hx hb hml hown hts hK hP (va_D.adr hD0 (mW_adE rfl)) hA hS gX5_readsAll_X5_readsDigits okX5_readsDigits (qX5_readsDigits l D cI cB r B M p_9 1 (by omega) (by omega) (by show mtn_ M ≤ 96; exact htn) (by show mrd_ M ≤ 103; omega)) [0, 1, 2, 3, 4, 5, 6, 7, 8, 9, 10, 11, 12, 13, 14, 15] rfl (by decide) (fun _ => mW_adr _ _ _ _ _ _) rfl rfl rfl (by decide) hl.1 rfl rfl (Nat.le_of_ble_eq_true rfl) dX5_readsAll_84 (by decide) (fun r_1 u_2 H locs hw_3 hP hD hS => ?_)
    obtain ⟨td_4, rd_5⟩ := u_2
    replace hw_3 : r_1 = b1 (dg_ (mtp_ M) (mtn_ M) 1 (mrd_ M) = none) ∧ rd_5 = rdv_ (dg_ (mtp_ M) (mtn_ M) 1 (mrd_ M)) (mrd_ M + 1) ∧ td_4 = (if dg_ (mtp_ M) (mtn_ M) 1 (mrd_ M) = none then upd (mtd_ M) p_9 (vd_ (mtp_ M) (mtn_ M) (mrd_ M) 1) else mtd_ M) := hw_3
    obtain ⟨hw_3a, hw_3b, hw_3c⟩ := hw_3
    subst r_1
    replace hP : va_P D vwCl ([(r 0, .inr (5, [.ref (r 1), .ref (r 2), .ref (r 3), .ref (r 4), .ref (r 5), .ref (r 6), .int (nI (sn_ B)), .int (qt_ B), .int (il_ B), .int (pa_ B), .int (ho_ B), .int (dy_ B), .ref (r 13), .ref (r 14), .ref (r 15), .ref (r 16), .int (nI (mtn_ M)), .int (nI rd_5), .int (nI (msm_ M)), .ref (r 20), .int (mhi_ M), .int (mik_ M), .int (nI (mcu_ M)), .int (nI (mbk_ M)), .ref (r 25), .ref (r 26), .int (mlw_ M), .int (mhg_ M), .int (msl_ M), .ref (r 30), .int (nI (mrm_ M)), .ref (r 32), .int (mlo_ M)])), (r 1, .inl (cI, 7, .inl (mrf_ M))), (r 2, .inl (cI, 7, .inl (kd_ B))), (r 3, .inl (cI, 7, .inl (fg_ B))), (r 4, .inl (cI, 7, .inl (pl_ B))), (r 5, .inl (cI, 7, .inl (pw_ B))), (r 6, .inl (cI, 7, .inl (jy_ B))), (r 13, .inl (cI, 96, .inl (mtp_ M))), (r 14, .inl (cI, 48, .inl (mlt_ M))), (r 15, .inl (cI, 48, .inl (mla_ M))), (r 16, .inl (cI, 144, .inl td_4)), (r 20, .inl (cI, 451, .inl (flatK (mkp_ M)))), (r 25, .inl (cI, 7, .inl (mof_ M))), (r 26, .inl (cI, 7, .inl (mfa_ M))), (r 30, .inl (cI, 12, .inl (mrw_ M))), (r 32, .inl (cI, 8, .inl (mhb_ M)))]) H := (va_P.m [true, true, true, true, true, true, true, true, true, true, true, true, true, true, true, true] [] hP)
    refine lv_if_eq (tgt := 105) hx hb dX5_readsAll_87 (by decide) (fun c_87 => ?_) (fun c_87 => ?_)
    · replace c_87 := b1_z c_87
      refine lv_iconst (v := 0) hx hb dX5_readsAll_105 (by decide) ?_
      refine rMz hx hb hr hlk hS (td_4, rd_5) hP (Or.inl rfl) ?_ dX5_readsAll_106
      first | exact ra_115 c_1_115 c_50 c_61 c_72 | exact ra_115c c_1_115 c_50 c_61 c_72 hw_3b hw_3c | exact ra_115b c_1_115 c_50 c_61 hw_3b hw_3c | exact ra_115a c_1_115 c_50 hw_3b hw_3c | exact ra_112 c_1_112 c_87 c_98 | exact ra_112b c_1_112 c_87 c_98 hw_3b hw_3c | exact ra_112a c_1_112 c_87 hw_3b hw_3c | exact ra_1 (Or.inl c_1_113) hw_3b hw_3c | exact ra_1 (Or.inr c_1_118) hw_3b hw_3c | exact ra_2 (ra_o hb_9 c_1_112 c_1_113 c_1_115 c_1_118) hw_3b hw_3c
    · replace c_87 := b1_n c_87
      rw [c_87] at hw_3b
      rw [if_pos c_87] at hw_3c
      replace hw_3b : rd_5 = (mrd_ M + 1) := hw_3b
      subst rd_5
      subst td_4
      replace hP : va_P D vwCl ([(r 0, .inr (5, [.ref (r 1), .ref (r 2), .ref (r 3), .ref (r 4), .ref (r 5), .ref (r 6), .int (nI (sn_ B)), .int (qt_ B), .int (il_ B), .int (pa_ B), .int (ho_ B), .int (dy_ B), .ref (r 13), .ref (r 14), .ref (r 15), .ref (r 16), .int (nI (mtn_ M)), .int (nI (mrd_ M + 1)), .int (nI (msm_ M)), .ref (r 20), .int (mhi_ M), .int (mik_ M), .int (nI (mcu_ M)), .int (nI (mbk_ M)), .ref (r 25), .ref (r 26), .int (mlw_ M), .int (mhg_ M), .int (msl_ M), .ref (r 30), .int (nI (mrm_ M)), .ref (r 32), .int (mlo_ M)])), (r 1, .inl (cI, 7, .inl (mrf_ M))), (r 2, .inl (cI, 7, .inl (kd_ B))), (r 3, .inl (cI, 7, .inl (fg_ B))), (r 4, .inl (cI, 7, .inl (pl_ B))), (r 5, .inl (cI, 7, .inl (pw_ B))), (r 6, .inl (cI, 7, .inl (jy_ B))), (r 13, .inl (cI, 96, .inl (mtp_ M))), (r 14, .inl (cI, 48, .inl (mlt_ M))), (r 15, .inl (cI, 48, .inl (mla_ M))), (r 16, .inl (cI, 144, .inl (upd (mtd_ M) p_9 (vd_ (mtp_ M) (mtn_ M) (mrd_ M) 1)))), (r 20, .inl (cI, 451, .inl (flatK (mkp_ M)))), (r 25, .inl (cI, 7, .inl (mof_ M))), (r 26, .inl (cI, 7, .inl (mfa_ M))), (r 30, .inl (cI, 12, .inl (mrw_ M))), (r 32, .inl (cI, 8, .inl (mhb_ M)))]) H := hP
      refine lv_aload_n hx hb dX5_readsAll_90 rfl (lv_at hl 0 rfl) ?_
      refine lv_iload_n hx hb dX5_readsAll_91 rfl (lv_at hl 2 rfl) ?_
      refine lv_iconst (v := 1) hx hb dX5_readsAll_92 (by decide) ?_
      refine lv_iadd hx hb dX5_readsAll_93 ?_
      refine sti (x := (nI p_9) + 1) (y := nI (p_9 + 1)) (nI_1 _) ?_
      refine lv_iconst (v := 2) hx hb dX5_readsAll_94 (by decide) ?_
      refine kMiV hx hb hml hown hts hK hP (va_D.adr hD0 (mW_adE rfl)) hA hS gX5_readsAll_X5_readsDigits okX5_readsDigits (qX5_readsDigits l D cI cB r B (wtr_ M (upd (mtd_ M) p_9 (vd_ (mtp_ M) (mtn_ M) (mrd_ M) 1)) (mrd_ M + 1)) (p_9 + 1) 2 (by omega) (by omega) (by show mtn_ M ≤ 96; exact htn) (by show (mrd_ M + 1) ≤ 103; omega)) [0, 1, 2, 3, 4, 5, 6, 7, 8, 9, 10, 11, 12, 13, 14, 15] rfl (by decide) (fun _ => mW_adr _ _ _ _ _ _) rfl rfl rfl (by decide) hl.1 rfl rfl (Nat.le_of_ble_eq_true rfl) dX5_readsAll_95 (by decide) (fun r_6 u_7 H locs hw_8 hP hD hS => ?_)
      obtain ⟨td_9, rd_10⟩ := u_7
      replace hw_8 : r_6 = b1 (dg_ (mtp_ M) (mtn_ M) 2 (mrd_ M + 1) = none) ∧ rd_10 = rdv_ (dg_ (mtp_ M) (mtn_ M) 2 (mrd_ M + 1)) ((mrd_ M + 1) + 2) ∧ td_9 = (if dg_ (mtp_ M) (mtn_ M) 2 (mrd_ M + 1) = none then upd (upd (mtd_ M) p_9 (vd_ (mtp_ M) (mtn_ M) (mrd_ M) 1)) (p_9 + 1) (vd_ (mtp_ M) (mtn_ M) (mrd_ M + 1) 2) else (upd (mtd_ M) p_9 (vd_ (mtp_ M) (mtn_ M) (mrd_ M) 1))) := hw_8
      obtain ⟨hw_8a, hw_8b, hw_8c⟩ := hw_8
      subst r_6
      replace hP : va_P D vwCl ([(r 0, .inr (5, [.ref (r 1), .ref (r 2), .ref (r 3), .ref (r 4), .ref (r 5), .ref (r 6), .int (nI (sn_ B)), .int (qt_ B), .int (il_ B), .int (pa_ B), .int (ho_ B), .int (dy_ B), .ref (r 13), .ref (r 14), .ref (r 15), .ref (r 16), .int (nI (mtn_ M)), .int (nI rd_10), .int (nI (msm_ M)), .ref (r 20), .int (mhi_ M), .int (mik_ M), .int (nI (mcu_ M)), .int (nI (mbk_ M)), .ref (r 25), .ref (r 26), .int (mlw_ M), .int (mhg_ M), .int (msl_ M), .ref (r 30), .int (nI (mrm_ M)), .ref (r 32), .int (mlo_ M)])), (r 1, .inl (cI, 7, .inl (mrf_ M))), (r 2, .inl (cI, 7, .inl (kd_ B))), (r 3, .inl (cI, 7, .inl (fg_ B))), (r 4, .inl (cI, 7, .inl (pl_ B))), (r 5, .inl (cI, 7, .inl (pw_ B))), (r 6, .inl (cI, 7, .inl (jy_ B))), (r 13, .inl (cI, 96, .inl (mtp_ M))), (r 14, .inl (cI, 48, .inl (mlt_ M))), (r 15, .inl (cI, 48, .inl (mla_ M))), (r 16, .inl (cI, 144, .inl td_9)), (r 20, .inl (cI, 451, .inl (flatK (mkp_ M)))), (r 25, .inl (cI, 7, .inl (mof_ M))), (r 26, .inl (cI, 7, .inl (mfa_ M))), (r 30, .inl (cI, 12, .inl (mrw_ M))), (r 32, .inl (cI, 8, .inl (mhb_ M)))]) H := (va_P.m [true, true, true, true, true, true, true, true, true, true, true, true, true, true, true, true] [] hP)
      refine lv_if_eq (tgt := 105) hx hb dX5_readsAll_98 (by decide) (fun c_98 => ?_) (fun c_98 => ?_)
      · replace c_98 := b1_z c_98
        refine lv_iconst (v := 0) hx hb dX5_readsAll_105 (by decide) ?_
        refine rMz hx hb hr hlk hS (td_9, rd_10) hP (Or.inl rfl) ?_ dX5_readsAll_106
        first | exact ra_115 c_1_115 c_50 c_61 c_72 | exact ra_115c c_1_115 c_50 c_61 c_72 hw_8b hw_8c | exact ra_115b c_1_115 c_50 c_61 hw_8b hw_8c | exact ra_115a c_1_115 c_50 hw_8b hw_8c | exact ra_112 c_1_112 c_87 c_98 | exact ra_112b c_1_112 c_87 c_98 hw_8b hw_8c | exact ra_112a c_1_112 c_87 hw_8b hw_8c | exact ra_1 (Or.inl c_1_113) hw_8b hw_8c | exact ra_1 (Or.inr c_1_118) hw_8b hw_8c | exact ra_2 (ra_o hb_9 c_1_112 c_1_113 c_1_115 c_1_118) hw_8b hw_8c
      · replace c_98 := b1_n c_98
        rw [c_98] at hw_8b
        rw [if_pos c_98] at hw_8c
        replace hw_8b : rd_10 = ((mrd_ M + 1) + 2) := hw_8b
        subst rd_10
        subst td_9
        replace hP : va_P D vwCl ([(r 0, .inr (5, [.ref (r 1), .ref (r 2), .ref (r 3), .ref (r 4), .ref (r 5), .ref (r 6), .int (nI (sn_ B)), .int (qt_ B), .int (il_ B), .int (pa_ B), .int (ho_ B), .int (dy_ B), .ref (r 13), .ref (r 14), .ref (r 15), .ref (r 16), .int (nI (mtn_ M)), .int (nI ((mrd_ M + 1) + 2)), .int (nI (msm_ M)), .ref (r 20), .int (mhi_ M), .int (mik_ M), .int (nI (mcu_ M)), .int (nI (mbk_ M)), .ref (r 25), .ref (r 26), .int (mlw_ M), .int (mhg_ M), .int (msl_ M), .ref (r 30), .int (nI (mrm_ M)), .ref (r 32), .int (mlo_ M)])), (r 1, .inl (cI, 7, .inl (mrf_ M))), (r 2, .inl (cI, 7, .inl (kd_ B))), (r 3, .inl (cI, 7, .inl (fg_ B))), (r 4, .inl (cI, 7, .inl (pl_ B))), (r 5, .inl (cI, 7, .inl (pw_ B))), (r 6, .inl (cI, 7, .inl (jy_ B))), (r 13, .inl (cI, 96, .inl (mtp_ M))), (r 14, .inl (cI, 48, .inl (mlt_ M))), (r 15, .inl (cI, 48, .inl (mla_ M))), (r 16, .inl (cI, 144, .inl (upd (upd (mtd_ M) p_9 (vd_ (mtp_ M) (mtn_ M) (mrd_ M) 1)) (p_9 + 1) (vd_ (mtp_ M) (mtn_ M) (mrd_ M + 1) 2)))), (r 20, .inl (cI, 451, .inl (flatK (mkp_ M)))), (r 25, .inl (cI, 7, .inl (mof_ M))), (r 26, .inl (cI, 7, .inl (mfa_ M))), (r 30, .inl (cI, 12, .inl (mrw_ M))), (r 32, .inl (cI, 8, .inl (mhb_ M)))]) H := hP
        refine lv_iconst (v := 1) hx hb dX5_readsAll_101 (by decide) ?_
        refine lv_goto (tgt := 106) hx hb dX5_readsAll_102 (by decide) ?_
        refine rMz hx hb hr hlk hS ((upd (upd (mtd_ M) p_9 (vd_ (mtp_ M) (mtn_ M) (mrd_ M) 1)) (p_9 + 1) (vd_ (mtp_ M) (mtn_ M) (mrd_ M + 1) 2)), ((mrd_ M + 1) + 2)) hP (Or.inr rfl) ?_ dX5_readsAll_106
        first | exact ra_115 c_1_115 c_50 c_61 c_72 | exact ra_115c c_1_115 c_50 c_61 c_72 hw_8b hw_8c | exact ra_115b c_1_115 c_50 c_61 hw_8b hw_8c | exact ra_115a c_1_115 c_50 hw_8b hw_8c | exact ra_112 c_1_112 c_87 c_98 | exact ra_112b c_1_112 c_87 c_98 hw_8b hw_8c | exact ra_112a c_1_112 c_87 hw_8b hw_8c | exact ra_1 (Or.inl c_1_113) hw_8b hw_8c | exact ra_1 (Or.inr c_1_118) hw_8b hw_8c | exact ra_2 (ra_o hb_9 c_1_112 c_1_113 c_1_115 c_1_118) hw_8b hw_8c
  by_cases c_1_113 : b = 113
  · refine lv_tableIn (off := 106) (tgt := 107) hx hb dX5_readsAll_1 (by rw [c_1_113]; decide) (by rw [c_1_113]; decide) (by rw [c_1_113]; rfl) (by decide) ?_
    refine lv_aload_n hx hb dX5_readsAll_107 rfl (lv_at hl 0 rfl) ?_
    refine lv_iload_n hx hb dX5_readsAll_108 rfl (lv_at hl 2 rfl) ?_
    refine lv_iconst (v := 1) hx hb dX5_readsAll_109 (by decide) ?_
    refine kMiV hx hb hml hown hts hK hP (va_D.adr hD0 (mW_adE rfl)) hA hS gX5_readsAll_X5_readsDigits okX5_readsDigits (qX5_readsDigits l D cI cB r B M p_9 1 (by omega) (by omega) (by show mtn_ M ≤ 96; exact htn) (by show mrd_ M ≤ 103; omega)) [0, 1, 2, 3, 4, 5, 6, 7, 8, 9, 10, 11, 12, 13, 14, 15] rfl (by decide) (fun _ => mW_adr _ _ _ _ _ _) rfl rfl rfl (by decide) hl.1 rfl rfl (Nat.le_of_ble_eq_true rfl) dX5_readsAll_110 (by decide) (fun r_11 u_12 H locs hw_13 hP hD hS => ?_)
    obtain ⟨td_14, rd_15⟩ := u_12
    replace hw_13 : r_11 = b1 (dg_ (mtp_ M) (mtn_ M) 1 (mrd_ M) = none) ∧ rd_15 = rdv_ (dg_ (mtp_ M) (mtn_ M) 1 (mrd_ M)) (mrd_ M + 1) ∧ td_14 = (if dg_ (mtp_ M) (mtn_ M) 1 (mrd_ M) = none then upd (mtd_ M) p_9 (vd_ (mtp_ M) (mtn_ M) (mrd_ M) 1) else mtd_ M) := hw_13
    obtain ⟨hw_13a, hw_13b, hw_13c⟩ := hw_13
    subst r_11
    replace hP : va_P D vwCl ([(r 0, .inr (5, [.ref (r 1), .ref (r 2), .ref (r 3), .ref (r 4), .ref (r 5), .ref (r 6), .int (nI (sn_ B)), .int (qt_ B), .int (il_ B), .int (pa_ B), .int (ho_ B), .int (dy_ B), .ref (r 13), .ref (r 14), .ref (r 15), .ref (r 16), .int (nI (mtn_ M)), .int (nI rd_15), .int (nI (msm_ M)), .ref (r 20), .int (mhi_ M), .int (mik_ M), .int (nI (mcu_ M)), .int (nI (mbk_ M)), .ref (r 25), .ref (r 26), .int (mlw_ M), .int (mhg_ M), .int (msl_ M), .ref (r 30), .int (nI (mrm_ M)), .ref (r 32), .int (mlo_ M)])), (r 1, .inl (cI, 7, .inl (mrf_ M))), (r 2, .inl (cI, 7, .inl (kd_ B))), (r 3, .inl (cI, 7, .inl (fg_ B))), (r 4, .inl (cI, 7, .inl (pl_ B))), (r 5, .inl (cI, 7, .inl (pw_ B))), (r 6, .inl (cI, 7, .inl (jy_ B))), (r 13, .inl (cI, 96, .inl (mtp_ M))), (r 14, .inl (cI, 48, .inl (mlt_ M))), (r 15, .inl (cI, 48, .inl (mla_ M))), (r 16, .inl (cI, 144, .inl td_14)), (r 20, .inl (cI, 451, .inl (flatK (mkp_ M)))), (r 25, .inl (cI, 7, .inl (mof_ M))), (r 26, .inl (cI, 7, .inl (mfa_ M))), (r 30, .inl (cI, 12, .inl (mrw_ M))), (r 32, .inl (cI, 8, .inl (mhb_ M)))]) H := (va_P.m [true, true, true, true, true, true, true, true, true, true, true, true, true, true, true, true] [] hP)
    refine rMz hx hb hr hlk hS (td_14, rd_15) hP (b1_01 _) ?_ dX5_readsAll_113
    first | exact ra_115 c_1_115 c_50 c_61 c_72 | exact ra_115c c_1_115 c_50 c_61 c_72 hw_13b hw_13c | exact ra_115b c_1_115 c_50 c_61 hw_13b hw_13c | exact ra_115a c_1_115 c_50 hw_13b hw_13c | exact ra_112 c_1_112 c_87 c_98 | exact ra_112b c_1_112 c_87 c_98 hw_13b hw_13c | exact ra_112a c_1_112 c_87 hw_13b hw_13c | exact ra_1 (Or.inl c_1_113) hw_13b hw_13c | exact ra_1 (Or.inr c_1_118) hw_13b hw_13c | exact ra_2 (ra_o hb_9 c_1_112 c_1_113 c_1_115 c_1_118) hw_13b hw_13c
  by_cases c_1_114 : b = 114
  · exact absurd hb_9 (by rw [c_1_114]; decide)
  by_cases c_1_115 : b = 115
  · refine lv_tableIn (off := 43) (tgt := 44) hx hb dX5_readsAll_1 (by rw [c_1_115]; decide) (by rw [c_1_115]; decide) (by rw [c_1_115]; rfl) (by decide) ?_
    refine lv_aload_n hx hb dX5_readsAll_44 rfl (lv_at hl 0 rfl) ?_
    refine lv_iload_n hx hb dX5_readsAll_45 rfl (lv_at hl 2 rfl) ?_
    refine lv_iconst (v := 1) hx hb dX5_readsAll_46 (by decide) ?_
    refine kMiV hx hb hml hown hts hK hP (va_D.adr hD0 (mW_adE rfl)) hA hS gX5_readsAll_X5_readsDigits okX5_readsDigits (qX5_readsDigits l D cI cB r B M p_9 1 (by omega) (by omega) (by show mtn_ M ≤ 96; exact htn) (by show mrd_ M ≤ 103; omega)) [0, 1, 2, 3, 4, 5, 6, 7, 8, 9, 10, 11, 12, 13, 14, 15] rfl (by decide) (fun _ => mW_adr _ _ _ _ _ _) rfl rfl rfl (by decide) hl.1 rfl rfl (Nat.le_of_ble_eq_true rfl) dX5_readsAll_47 (by decide) (fun r_16 u_17 H locs hw_18 hP hD hS => ?_)
    obtain ⟨td_19, rd_20⟩ := u_17
    replace hw_18 : r_16 = b1 (dg_ (mtp_ M) (mtn_ M) 1 (mrd_ M) = none) ∧ rd_20 = rdv_ (dg_ (mtp_ M) (mtn_ M) 1 (mrd_ M)) (mrd_ M + 1) ∧ td_19 = (if dg_ (mtp_ M) (mtn_ M) 1 (mrd_ M) = none then upd (mtd_ M) p_9 (vd_ (mtp_ M) (mtn_ M) (mrd_ M) 1) else mtd_ M) := hw_18
    obtain ⟨hw_18a, hw_18b, hw_18c⟩ := hw_18
    subst r_16
    replace hP : va_P D vwCl ([(r 0, .inr (5, [.ref (r 1), .ref (r 2), .ref (r 3), .ref (r 4), .ref (r 5), .ref (r 6), .int (nI (sn_ B)), .int (qt_ B), .int (il_ B), .int (pa_ B), .int (ho_ B), .int (dy_ B), .ref (r 13), .ref (r 14), .ref (r 15), .ref (r 16), .int (nI (mtn_ M)), .int (nI rd_20), .int (nI (msm_ M)), .ref (r 20), .int (mhi_ M), .int (mik_ M), .int (nI (mcu_ M)), .int (nI (mbk_ M)), .ref (r 25), .ref (r 26), .int (mlw_ M), .int (mhg_ M), .int (msl_ M), .ref (r 30), .int (nI (mrm_ M)), .ref (r 32), .int (mlo_ M)])), (r 1, .inl (cI, 7, .inl (mrf_ M))), (r 2, .inl (cI, 7, .inl (kd_ B))), (r 3, .inl (cI, 7, .inl (fg_ B))), (r 4, .inl (cI, 7, .inl (pl_ B))), (r 5, .inl (cI, 7, .inl (pw_ B))), (r 6, .inl (cI, 7, .inl (jy_ B))), (r 13, .inl (cI, 96, .inl (mtp_ M))), (r 14, .inl (cI, 48, .inl (mlt_ M))), (r 15, .inl (cI, 48, .inl (mla_ M))), (r 16, .inl (cI, 144, .inl td_19)), (r 20, .inl (cI, 451, .inl (flatK (mkp_ M)))), (r 25, .inl (cI, 7, .inl (mof_ M))), (r 26, .inl (cI, 7, .inl (mfa_ M))), (r 30, .inl (cI, 12, .inl (mrw_ M))), (r 32, .inl (cI, 8, .inl (mhb_ M)))]) H := (va_P.m [true, true, true, true, true, true, true, true, true, true, true, true, true, true, true, true] [] hP)
    refine lv_if_eq (tgt := 79) hx hb dX5_readsAll_50 (by decide) (fun c_50 => ?_) (fun c_50 => ?_)
    · replace c_50 := b1_z c_50
      refine lv_iconst (v := 0) hx hb dX5_readsAll_79 (by decide) ?_
      refine rMz hx hb hr hlk hS (td_19, rd_20) hP (Or.inl rfl) ?_ dX5_readsAll_80
      first | exact ra_115 c_1_115 c_50 c_61 c_72 | exact ra_115c c_1_115 c_50 c_61 c_72 hw_18b hw_18c | exact ra_115b c_1_115 c_50 c_61 hw_18b hw_18c | exact ra_115a c_1_115 c_50 hw_18b hw_18c | exact ra_112 c_1_112 c_87 c_98 | exact ra_112b c_1_112 c_87 c_98 hw_18b hw_18c | exact ra_112a c_1_112 c_87 hw_18b hw_18c | exact ra_1 (Or.inl c_1_113) hw_18b hw_18c | exact ra_1 (Or.inr c_1_118) hw_18b hw_18c | exact ra_2 (ra_o hb_9 c_1_112 c_1_113 c_1_115 c_1_118) hw_18b hw_18c
    · replace c_50 := b1_n c_50
      rw [c_50] at hw_18b
      rw [if_pos c_50] at hw_18c
      replace hw_18b : rd_20 = (mrd_ M + 1) := hw_18b
      subst rd_20
      subst td_19
      replace hP : va_P D vwCl ([(r 0, .inr (5, [.ref (r 1), .ref (r 2), .ref (r 3), .ref (r 4), .ref (r 5), .ref (r 6), .int (nI (sn_ B)), .int (qt_ B), .int (il_ B), .int (pa_ B), .int (ho_ B), .int (dy_ B), .ref (r 13), .ref (r 14), .ref (r 15), .ref (r 16), .int (nI (mtn_ M)), .int (nI (mrd_ M + 1)), .int (nI (msm_ M)), .ref (r 20), .int (mhi_ M), .int (mik_ M), .int (nI (mcu_ M)), .int (nI (mbk_ M)), .ref (r 25), .ref (r 26), .int (mlw_ M), .int (mhg_ M), .int (msl_ M), .ref (r 30), .int (nI (mrm_ M)), .ref (r 32), .int (mlo_ M)])), (r 1, .inl (cI, 7, .inl (mrf_ M))), (r 2, .inl (cI, 7, .inl (kd_ B))), (r 3, .inl (cI, 7, .inl (fg_ B))), (r 4, .inl (cI, 7, .inl (pl_ B))), (r 5, .inl (cI, 7, .inl (pw_ B))), (r 6, .inl (cI, 7, .inl (jy_ B))), (r 13, .inl (cI, 96, .inl (mtp_ M))), (r 14, .inl (cI, 48, .inl (mlt_ M))), (r 15, .inl (cI, 48, .inl (mla_ M))), (r 16, .inl (cI, 144, .inl (upd (mtd_ M) p_9 (vd_ (mtp_ M) (mtn_ M) (mrd_ M) 1)))), (r 20, .inl (cI, 451, .inl (flatK (mkp_ M)))), (r 25, .inl (cI, 7, .inl (mof_ M))), (r 26, .inl (cI, 7, .inl (mfa_ M))), (r 30, .inl (cI, 12, .inl (mrw_ M))), (r 32, .inl (cI, 8, .inl (mhb_ M)))]) H := hP
      refine lv_aload_n hx hb dX5_readsAll_53 rfl (lv_at hl 0 rfl) ?_
      refine lv_iload_n hx hb dX5_readsAll_54 rfl (lv_at hl 2 rfl) ?_
      refine lv_iconst (v := 1) hx hb dX5_readsAll_55 (by decide) ?_
      refine lv_iadd hx hb dX5_readsAll_56 ?_
      refine sti (x := (nI p_9) + 1) (y := nI (p_9 + 1)) (nI_1 _) ?_
      refine lv_iconst (v := 1) hx hb dX5_readsAll_57 (by decide) ?_
      refine kMiV hx hb hml hown hts hK hP (va_D.adr hD0 (mW_adE rfl)) hA hS gX5_readsAll_X5_readsDigits okX5_readsDigits (qX5_readsDigits l D cI cB r B (wtr_ M (upd (mtd_ M) p_9 (vd_ (mtp_ M) (mtn_ M) (mrd_ M) 1)) (mrd_ M + 1)) (p_9 + 1) 1 (by omega) (by omega) (by show mtn_ M ≤ 96; exact htn) (by show (mrd_ M + 1) ≤ 103; omega)) [0, 1, 2, 3, 4, 5, 6, 7, 8, 9, 10, 11, 12, 13, 14, 15] rfl (by decide) (fun _ => mW_adr _ _ _ _ _ _) rfl rfl rfl (by decide) hl.1 rfl rfl (Nat.le_of_ble_eq_true rfl) dX5_readsAll_58 (by decide) (fun r_21 u_22 H locs hw_23 hP hD hS => ?_)
      obtain ⟨td_24, rd_25⟩ := u_22
      replace hw_23 : r_21 = b1 (dg_ (mtp_ M) (mtn_ M) 1 (mrd_ M + 1) = none) ∧ rd_25 = rdv_ (dg_ (mtp_ M) (mtn_ M) 1 (mrd_ M + 1)) ((mrd_ M + 1) + 1) ∧ td_24 = (if dg_ (mtp_ M) (mtn_ M) 1 (mrd_ M + 1) = none then upd (upd (mtd_ M) p_9 (vd_ (mtp_ M) (mtn_ M) (mrd_ M) 1)) (p_9 + 1) (vd_ (mtp_ M) (mtn_ M) (mrd_ M + 1) 1) else (upd (mtd_ M) p_9 (vd_ (mtp_ M) (mtn_ M) (mrd_ M) 1))) := hw_23
      obtain ⟨hw_23a, hw_23b, hw_23c⟩ := hw_23
      subst r_21
      replace hP : va_P D vwCl ([(r 0, .inr (5, [.ref (r 1), .ref (r 2), .ref (r 3), .ref (r 4), .ref (r 5), .ref (r 6), .int (nI (sn_ B)), .int (qt_ B), .int (il_ B), .int (pa_ B), .int (ho_ B), .int (dy_ B), .ref (r 13), .ref (r 14), .ref (r 15), .ref (r 16), .int (nI (mtn_ M)), .int (nI rd_25), .int (nI (msm_ M)), .ref (r 20), .int (mhi_ M), .int (mik_ M), .int (nI (mcu_ M)), .int (nI (mbk_ M)), .ref (r 25), .ref (r 26), .int (mlw_ M), .int (mhg_ M), .int (msl_ M), .ref (r 30), .int (nI (mrm_ M)), .ref (r 32), .int (mlo_ M)])), (r 1, .inl (cI, 7, .inl (mrf_ M))), (r 2, .inl (cI, 7, .inl (kd_ B))), (r 3, .inl (cI, 7, .inl (fg_ B))), (r 4, .inl (cI, 7, .inl (pl_ B))), (r 5, .inl (cI, 7, .inl (pw_ B))), (r 6, .inl (cI, 7, .inl (jy_ B))), (r 13, .inl (cI, 96, .inl (mtp_ M))), (r 14, .inl (cI, 48, .inl (mlt_ M))), (r 15, .inl (cI, 48, .inl (mla_ M))), (r 16, .inl (cI, 144, .inl td_24)), (r 20, .inl (cI, 451, .inl (flatK (mkp_ M)))), (r 25, .inl (cI, 7, .inl (mof_ M))), (r 26, .inl (cI, 7, .inl (mfa_ M))), (r 30, .inl (cI, 12, .inl (mrw_ M))), (r 32, .inl (cI, 8, .inl (mhb_ M)))]) H := (va_P.m [true, true, true, true, true, true, true, true, true, true, true, true, true, true, true, true] [] hP)
      refine lv_if_eq (tgt := 79) hx hb dX5_readsAll_61 (by decide) (fun c_61 => ?_) (fun c_61 => ?_)
      · replace c_61 := b1_z c_61
        refine lv_iconst (v := 0) hx hb dX5_readsAll_79 (by decide) ?_
        refine rMz hx hb hr hlk hS (td_24, rd_25) hP (Or.inl rfl) ?_ dX5_readsAll_80
        first | exact ra_115 c_1_115 c_50 c_61 c_72 | exact ra_115c c_1_115 c_50 c_61 c_72 hw_23b hw_23c | exact ra_115b c_1_115 c_50 c_61 hw_23b hw_23c | exact ra_115a c_1_115 c_50 hw_23b hw_23c | exact ra_112 c_1_112 c_87 c_98 | exact ra_112b c_1_112 c_87 c_98 hw_23b hw_23c | exact ra_112a c_1_112 c_87 hw_23b hw_23c | exact ra_1 (Or.inl c_1_113) hw_23b hw_23c | exact ra_1 (Or.inr c_1_118) hw_23b hw_23c | exact ra_2 (ra_o hb_9 c_1_112 c_1_113 c_1_115 c_1_118) hw_23b hw_23c
      · replace c_61 := b1_n c_61
        rw [c_61] at hw_23b
        rw [if_pos c_61] at hw_23c
        replace hw_23b : rd_25 = ((mrd_ M + 1) + 1) := hw_23b
        subst rd_25
        subst td_24
        replace hP : va_P D vwCl ([(r 0, .inr (5, [.ref (r 1), .ref (r 2), .ref (r 3), .ref (r 4), .ref (r 5), .ref (r 6), .int (nI (sn_ B)), .int (qt_ B), .int (il_ B), .int (pa_ B), .int (ho_ B), .int (dy_ B), .ref (r 13), .ref (r 14), .ref (r 15), .ref (r 16), .int (nI (mtn_ M)), .int (nI ((mrd_ M + 1) + 1)), .int (nI (msm_ M)), .ref (r 20), .int (mhi_ M), .int (mik_ M), .int (nI (mcu_ M)), .int (nI (mbk_ M)), .ref (r 25), .ref (r 26), .int (mlw_ M), .int (mhg_ M), .int (msl_ M), .ref (r 30), .int (nI (mrm_ M)), .ref (r 32), .int (mlo_ M)])), (r 1, .inl (cI, 7, .inl (mrf_ M))), (r 2, .inl (cI, 7, .inl (kd_ B))), (r 3, .inl (cI, 7, .inl (fg_ B))), (r 4, .inl (cI, 7, .inl (pl_ B))), (r 5, .inl (cI, 7, .inl (pw_ B))), (r 6, .inl (cI, 7, .inl (jy_ B))), (r 13, .inl (cI, 96, .inl (mtp_ M))), (r 14, .inl (cI, 48, .inl (mlt_ M))), (r 15, .inl (cI, 48, .inl (mla_ M))), (r 16, .inl (cI, 144, .inl (upd (upd (mtd_ M) p_9 (vd_ (mtp_ M) (mtn_ M) (mrd_ M) 1)) (p_9 + 1) (vd_ (mtp_ M) (mtn_ M) (mrd_ M + 1) 1)))), (r 20, .inl (cI, 451, .inl (flatK (mkp_ M)))), (r 25, .inl (cI, 7, .inl (mof_ M))), (r 26, .inl (cI, 7, .inl (mfa_ M))), (r 30, .inl (cI, 12, .inl (mrw_ M))), (r 32, .inl (cI, 8, .inl (mhb_ M)))]) H := hP
        refine lv_aload_n hx hb dX5_readsAll_64 rfl (lv_at hl 0 rfl) ?_
        refine lv_iload_n hx hb dX5_readsAll_65 rfl (lv_at hl 2 rfl) ?_
        refine lv_iconst (v := 2) hx hb dX5_readsAll_66 (by decide) ?_
        refine lv_iadd hx hb dX5_readsAll_67 ?_
        refine sti (x := (nI p_9) + 2) (y := nI (p_9 + 2)) (nI_2 _) ?_
        refine lv_iconst (v := 2) hx hb dX5_readsAll_68 (by decide) ?_
        refine kMiV hx hb hml hown hts hK hP (va_D.adr hD0 (mW_adE rfl)) hA hS gX5_readsAll_X5_readsDigits okX5_readsDigits (qX5_readsDigits l D cI cB r B (wtr_ M (upd (upd (mtd_ M) p_9 (vd_ (mtp_ M) (mtn_ M) (mrd_ M) 1)) (p_9 + 1) (vd_ (mtp_ M) (mtn_ M) (mrd_ M + 1) 1)) ((mrd_ M + 1) + 1)) (p_9 + 2) 2 (by omega) (by omega) (by show mtn_ M ≤ 96; exact htn) (by show ((mrd_ M + 1) + 1) ≤ 103; omega)) [0, 1, 2, 3, 4, 5, 6, 7, 8, 9, 10, 11, 12, 13, 14, 15] rfl (by decide) (fun _ => mW_adr _ _ _ _ _ _) rfl rfl rfl (by decide) hl.1 rfl rfl (Nat.le_of_ble_eq_true rfl) dX5_readsAll_69 (by decide) (fun r_26 u_27 H locs hw_28 hP hD hS => ?_)
        obtain ⟨td_29, rd_30⟩ := u_27
        replace hw_28 : r_26 = b1 (dg_ (mtp_ M) (mtn_ M) 2 ((mrd_ M + 1) + 1) = none) ∧ rd_30 = rdv_ (dg_ (mtp_ M) (mtn_ M) 2 ((mrd_ M + 1) + 1)) (((mrd_ M + 1) + 1) + 2) ∧ td_29 = (if dg_ (mtp_ M) (mtn_ M) 2 ((mrd_ M + 1) + 1) = none then upd (upd (upd (mtd_ M) p_9 (vd_ (mtp_ M) (mtn_ M) (mrd_ M) 1)) (p_9 + 1) (vd_ (mtp_ M) (mtn_ M) (mrd_ M + 1) 1)) (p_9 + 2) (vd_ (mtp_ M) (mtn_ M) ((mrd_ M + 1) + 1) 2) else (upd (upd (mtd_ M) p_9 (vd_ (mtp_ M) (mtn_ M) (mrd_ M) 1)) (p_9 + 1) (vd_ (mtp_ M) (mtn_ M) (mrd_ M + 1) 1))) := hw_28
        obtain ⟨hw_28a, hw_28b, hw_28c⟩ := hw_28
        subst r_26
        replace hP : va_P D vwCl ([(r 0, .inr (5, [.ref (r 1), .ref (r 2), .ref (r 3), .ref (r 4), .ref (r 5), .ref (r 6), .int (nI (sn_ B)), .int (qt_ B), .int (il_ B), .int (pa_ B), .int (ho_ B), .int (dy_ B), .ref (r 13), .ref (r 14), .ref (r 15), .ref (r 16), .int (nI (mtn_ M)), .int (nI rd_30), .int (nI (msm_ M)), .ref (r 20), .int (mhi_ M), .int (mik_ M), .int (nI (mcu_ M)), .int (nI (mbk_ M)), .ref (r 25), .ref (r 26), .int (mlw_ M), .int (mhg_ M), .int (msl_ M), .ref (r 30), .int (nI (mrm_ M)), .ref (r 32), .int (mlo_ M)])), (r 1, .inl (cI, 7, .inl (mrf_ M))), (r 2, .inl (cI, 7, .inl (kd_ B))), (r 3, .inl (cI, 7, .inl (fg_ B))), (r 4, .inl (cI, 7, .inl (pl_ B))), (r 5, .inl (cI, 7, .inl (pw_ B))), (r 6, .inl (cI, 7, .inl (jy_ B))), (r 13, .inl (cI, 96, .inl (mtp_ M))), (r 14, .inl (cI, 48, .inl (mlt_ M))), (r 15, .inl (cI, 48, .inl (mla_ M))), (r 16, .inl (cI, 144, .inl td_29)), (r 20, .inl (cI, 451, .inl (flatK (mkp_ M)))), (r 25, .inl (cI, 7, .inl (mof_ M))), (r 26, .inl (cI, 7, .inl (mfa_ M))), (r 30, .inl (cI, 12, .inl (mrw_ M))), (r 32, .inl (cI, 8, .inl (mhb_ M)))]) H := (va_P.m [true, true, true, true, true, true, true, true, true, true, true, true, true, true, true, true] [] hP)
        refine lv_if_eq (tgt := 79) hx hb dX5_readsAll_72 (by decide) (fun c_72 => ?_) (fun c_72 => ?_)
        · replace c_72 := b1_z c_72
          refine lv_iconst (v := 0) hx hb dX5_readsAll_79 (by decide) ?_
          refine rMz hx hb hr hlk hS (td_29, rd_30) hP (Or.inl rfl) ?_ dX5_readsAll_80
          first | exact ra_115 c_1_115 c_50 c_61 c_72 | exact ra_115c c_1_115 c_50 c_61 c_72 hw_28b hw_28c | exact ra_115b c_1_115 c_50 c_61 hw_28b hw_28c | exact ra_115a c_1_115 c_50 hw_28b hw_28c | exact ra_112 c_1_112 c_87 c_98 | exact ra_112b c_1_112 c_87 c_98 hw_28b hw_28c | exact ra_112a c_1_112 c_87 hw_28b hw_28c | exact ra_1 (Or.inl c_1_113) hw_28b hw_28c | exact ra_1 (Or.inr c_1_118) hw_28b hw_28c | exact ra_2 (ra_o hb_9 c_1_112 c_1_113 c_1_115 c_1_118) hw_28b hw_28c
        · replace c_72 := b1_n c_72
          rw [c_72] at hw_28b
          rw [if_pos c_72] at hw_28c
          replace hw_28b : rd_30 = (((mrd_ M + 1) + 1) + 2) := hw_28b
          subst rd_30
          subst td_29
          replace hP : va_P D vwCl ([(r 0, .inr (5, [.ref (r 1), .ref (r 2), .ref (r 3), .ref (r 4), .ref (r 5), .ref (r 6), .int (nI (sn_ B)), .int (qt_ B), .int (il_ B), .int (pa_ B), .int (ho_ B), .int (dy_ B), .ref (r 13), .ref (r 14), .ref (r 15), .ref (r 16), .int (nI (mtn_ M)), .int (nI (((mrd_ M + 1) + 1) + 2)), .int (nI (msm_ M)), .ref (r 20), .int (mhi_ M), .int (mik_ M), .int (nI (mcu_ M)), .int (nI (mbk_ M)), .ref (r 25), .ref (r 26), .int (mlw_ M), .int (mhg_ M), .int (msl_ M), .ref (r 30), .int (nI (mrm_ M)), .ref (r 32), .int (mlo_ M)])), (r 1, .inl (cI, 7, .inl (mrf_ M))), (r 2, .inl (cI, 7, .inl (kd_ B))), (r 3, .inl (cI, 7, .inl (fg_ B))), (r 4, .inl (cI, 7, .inl (pl_ B))), (r 5, .inl (cI, 7, .inl (pw_ B))), (r 6, .inl (cI, 7, .inl (jy_ B))), (r 13, .inl (cI, 96, .inl (mtp_ M))), (r 14, .inl (cI, 48, .inl (mlt_ M))), (r 15, .inl (cI, 48, .inl (mla_ M))), (r 16, .inl (cI, 144, .inl (upd (upd (upd (mtd_ M) p_9 (vd_ (mtp_ M) (mtn_ M) (mrd_ M) 1)) (p_9 + 1) (vd_ (mtp_ M) (mtn_ M) (mrd_ M + 1) 1)) (p_9 + 2) (vd_ (mtp_ M) (mtn_ M) ((mrd_ M + 1) + 1) 2)))), (r 20, .inl (cI, 451, .inl (flatK (mkp_ M)))), (r 25, .inl (cI, 7, .inl (mof_ M))), (r 26, .inl (cI, 7, .inl (mfa_ M))), (r 30, .inl (cI, 12, .inl (mrw_ M))), (r 32, .inl (cI, 8, .inl (mhb_ M)))]) H := hP
          refine lv_iconst (v := 1) hx hb dX5_readsAll_75 (by decide) ?_
          refine lv_goto (tgt := 80) hx hb dX5_readsAll_76 (by decide) ?_
          refine rMz hx hb hr hlk hS ((upd (upd (upd (mtd_ M) p_9 (vd_ (mtp_ M) (mtn_ M) (mrd_ M) 1)) (p_9 + 1) (vd_ (mtp_ M) (mtn_ M) (mrd_ M + 1) 1)) (p_9 + 2) (vd_ (mtp_ M) (mtn_ M) ((mrd_ M + 1) + 1) 2)), (((mrd_ M + 1) + 1) + 2)) hP (Or.inr rfl) ?_ dX5_readsAll_80
          first | exact ra_115 c_1_115 c_50 c_61 c_72 | exact ra_115c c_1_115 c_50 c_61 c_72 hw_28b hw_28c | exact ra_115b c_1_115 c_50 c_61 hw_28b hw_28c | exact ra_115a c_1_115 c_50 hw_28b hw_28c | exact ra_112 c_1_112 c_87 c_98 | exact ra_112b c_1_112 c_87 c_98 hw_28b hw_28c | exact ra_112a c_1_112 c_87 hw_28b hw_28c | exact ra_1 (Or.inl c_1_113) hw_28b hw_28c | exact ra_1 (Or.inr c_1_118) hw_28b hw_28c | exact ra_2 (ra_o hb_9 c_1_112 c_1_113 c_1_115 c_1_118) hw_28b hw_28c
  by_cases c_1_116 : b = 116
  · exact absurd hb_9 (by rw [c_1_116]; decide)
  by_cases c_1_117 : b = 117
  · exact absurd hb_9 (by rw [c_1_117]; decide)
  by_cases c_1_118 : b = 118
  · refine lv_tableIn (off := 106) (tgt := 107) hx hb dX5_readsAll_1 (by rw [c_1_118]; decide) (by rw [c_1_118]; decide) (by rw [c_1_118]; rfl) (by decide) ?_
    refine lv_aload_n hx hb dX5_readsAll_107 rfl (lv_at hl 0 rfl) ?_
    refine lv_iload_n hx hb dX5_readsAll_108 rfl (lv_at hl 2 rfl) ?_
    refine lv_iconst (v := 1) hx hb dX5_readsAll_109 (by decide) ?_
    refine kMiV hx hb hml hown hts hK hP (va_D.adr hD0 (mW_adE rfl)) hA hS gX5_readsAll_X5_readsDigits okX5_readsDigits (qX5_readsDigits l D cI cB r B M p_9 1 (by omega) (by omega) (by show mtn_ M ≤ 96; exact htn) (by show mrd_ M ≤ 103; omega)) [0, 1, 2, 3, 4, 5, 6, 7, 8, 9, 10, 11, 12, 13, 14, 15] rfl (by decide) (fun _ => mW_adr _ _ _ _ _ _) rfl rfl rfl (by decide) hl.1 rfl rfl (Nat.le_of_ble_eq_true rfl) dX5_readsAll_110 (by decide) (fun r_31 u_32 H locs hw_33 hP hD hS => ?_)
    obtain ⟨td_34, rd_35⟩ := u_32
    replace hw_33 : r_31 = b1 (dg_ (mtp_ M) (mtn_ M) 1 (mrd_ M) = none) ∧ rd_35 = rdv_ (dg_ (mtp_ M) (mtn_ M) 1 (mrd_ M)) (mrd_ M + 1) ∧ td_34 = (if dg_ (mtp_ M) (mtn_ M) 1 (mrd_ M) = none then upd (mtd_ M) p_9 (vd_ (mtp_ M) (mtn_ M) (mrd_ M) 1) else mtd_ M) := hw_33
    obtain ⟨hw_33a, hw_33b, hw_33c⟩ := hw_33
    subst r_31
    replace hP : va_P D vwCl ([(r 0, .inr (5, [.ref (r 1), .ref (r 2), .ref (r 3), .ref (r 4), .ref (r 5), .ref (r 6), .int (nI (sn_ B)), .int (qt_ B), .int (il_ B), .int (pa_ B), .int (ho_ B), .int (dy_ B), .ref (r 13), .ref (r 14), .ref (r 15), .ref (r 16), .int (nI (mtn_ M)), .int (nI rd_35), .int (nI (msm_ M)), .ref (r 20), .int (mhi_ M), .int (mik_ M), .int (nI (mcu_ M)), .int (nI (mbk_ M)), .ref (r 25), .ref (r 26), .int (mlw_ M), .int (mhg_ M), .int (msl_ M), .ref (r 30), .int (nI (mrm_ M)), .ref (r 32), .int (mlo_ M)])), (r 1, .inl (cI, 7, .inl (mrf_ M))), (r 2, .inl (cI, 7, .inl (kd_ B))), (r 3, .inl (cI, 7, .inl (fg_ B))), (r 4, .inl (cI, 7, .inl (pl_ B))), (r 5, .inl (cI, 7, .inl (pw_ B))), (r 6, .inl (cI, 7, .inl (jy_ B))), (r 13, .inl (cI, 96, .inl (mtp_ M))), (r 14, .inl (cI, 48, .inl (mlt_ M))), (r 15, .inl (cI, 48, .inl (mla_ M))), (r 16, .inl (cI, 144, .inl td_34)), (r 20, .inl (cI, 451, .inl (flatK (mkp_ M)))), (r 25, .inl (cI, 7, .inl (mof_ M))), (r 26, .inl (cI, 7, .inl (mfa_ M))), (r 30, .inl (cI, 12, .inl (mrw_ M))), (r 32, .inl (cI, 8, .inl (mhb_ M)))]) H := (va_P.m [true, true, true, true, true, true, true, true, true, true, true, true, true, true, true, true] [] hP)
    refine rMz hx hb hr hlk hS (td_34, rd_35) hP (b1_01 _) ?_ dX5_readsAll_113
    first | exact ra_115 c_1_115 c_50 c_61 c_72 | exact ra_115c c_1_115 c_50 c_61 c_72 hw_33b hw_33c | exact ra_115b c_1_115 c_50 c_61 hw_33b hw_33c | exact ra_115a c_1_115 c_50 hw_33b hw_33c | exact ra_112 c_1_112 c_87 c_98 | exact ra_112b c_1_112 c_87 c_98 hw_33b hw_33c | exact ra_112a c_1_112 c_87 hw_33b hw_33c | exact ra_1 (Or.inl c_1_113) hw_33b hw_33c | exact ra_1 (Or.inr c_1_118) hw_33b hw_33c | exact ra_2 (ra_o hb_9 c_1_112 c_1_113 c_1_115 c_1_118) hw_33b hw_33c
  refine lv_tableOut (tgt := 114) hx hb dX5_readsAll_1 (by have t0 := lv_neT c_1_112 (a := 112) (by decide); have t1 := lv_neT c_1_113 (a := 113) (by decide); have t2 := lv_neT c_1_114 (a := 114) (by decide); have t3 := lv_neT c_1_115 (a := 115) (by decide); have t4 := lv_neT c_1_116 (a := 116) (by decide); have t5 := lv_neT c_1_117 (a := 117) (by decide); have t6 := lv_neT c_1_118 (a := 118) (by decide); omega) (by decide) ?_
  refine lv_aload_n hx hb dX5_readsAll_114 rfl (lv_at hl 0 rfl) ?_
  refine lv_iload_n hx hb dX5_readsAll_115 rfl (lv_at hl 2 rfl) ?_
  refine lv_iconst (v := 2) hx hb dX5_readsAll_116 (by decide) ?_
  refine kMiV hx hb hml hown hts hK hP (va_D.adr hD0 (mW_adE rfl)) hA hS gX5_readsAll_X5_readsDigits okX5_readsDigits (qX5_readsDigits l D cI cB r B M p_9 2 (by omega) (by omega) (by show mtn_ M ≤ 96; exact htn) (by show mrd_ M ≤ 103; omega)) [0, 1, 2, 3, 4, 5, 6, 7, 8, 9, 10, 11, 12, 13, 14, 15] rfl (by decide) (fun _ => mW_adr _ _ _ _ _ _) rfl rfl rfl (by decide) hl.1 rfl rfl (Nat.le_of_ble_eq_true rfl) dX5_readsAll_117 (by decide) (fun r_36 u_37 H locs hw_38 hP hD hS => ?_)
  obtain ⟨td_39, rd_40⟩ := u_37
  replace hw_38 : r_36 = b1 (dg_ (mtp_ M) (mtn_ M) 2 (mrd_ M) = none) ∧ rd_40 = rdv_ (dg_ (mtp_ M) (mtn_ M) 2 (mrd_ M)) (mrd_ M + 2) ∧ td_39 = (if dg_ (mtp_ M) (mtn_ M) 2 (mrd_ M) = none then upd (mtd_ M) p_9 (vd_ (mtp_ M) (mtn_ M) (mrd_ M) 2) else mtd_ M) := hw_38
  obtain ⟨hw_38a, hw_38b, hw_38c⟩ := hw_38
  subst r_36
  replace hP : va_P D vwCl ([(r 0, .inr (5, [.ref (r 1), .ref (r 2), .ref (r 3), .ref (r 4), .ref (r 5), .ref (r 6), .int (nI (sn_ B)), .int (qt_ B), .int (il_ B), .int (pa_ B), .int (ho_ B), .int (dy_ B), .ref (r 13), .ref (r 14), .ref (r 15), .ref (r 16), .int (nI (mtn_ M)), .int (nI rd_40), .int (nI (msm_ M)), .ref (r 20), .int (mhi_ M), .int (mik_ M), .int (nI (mcu_ M)), .int (nI (mbk_ M)), .ref (r 25), .ref (r 26), .int (mlw_ M), .int (mhg_ M), .int (msl_ M), .ref (r 30), .int (nI (mrm_ M)), .ref (r 32), .int (mlo_ M)])), (r 1, .inl (cI, 7, .inl (mrf_ M))), (r 2, .inl (cI, 7, .inl (kd_ B))), (r 3, .inl (cI, 7, .inl (fg_ B))), (r 4, .inl (cI, 7, .inl (pl_ B))), (r 5, .inl (cI, 7, .inl (pw_ B))), (r 6, .inl (cI, 7, .inl (jy_ B))), (r 13, .inl (cI, 96, .inl (mtp_ M))), (r 14, .inl (cI, 48, .inl (mlt_ M))), (r 15, .inl (cI, 48, .inl (mla_ M))), (r 16, .inl (cI, 144, .inl td_39)), (r 20, .inl (cI, 451, .inl (flatK (mkp_ M)))), (r 25, .inl (cI, 7, .inl (mof_ M))), (r 26, .inl (cI, 7, .inl (mfa_ M))), (r 30, .inl (cI, 12, .inl (mrw_ M))), (r 32, .inl (cI, 8, .inl (mhb_ M)))]) H := (va_P.m [true, true, true, true, true, true, true, true, true, true, true, true, true, true, true, true] [] hP)
  refine rMz hx hb hr hlk hS (td_39, rd_40) hP (b1_01 _) ?_ dX5_readsAll_120
  first | exact ra_115 c_1_115 c_50 c_61 c_72 | exact ra_115c c_1_115 c_50 c_61 c_72 hw_38b hw_38c | exact ra_115b c_1_115 c_50 c_61 hw_38b hw_38c | exact ra_115a c_1_115 c_50 hw_38b hw_38c | exact ra_112 c_1_112 c_87 c_98 | exact ra_112b c_1_112 c_87 c_98 hw_38b hw_38c | exact ra_112a c_1_112 c_87 hw_38b hw_38c | exact ra_1 (Or.inl c_1_113) hw_38b hw_38c | exact ra_1 (Or.inr c_1_118) hw_38b hw_38c | exact ra_2 (ra_o hb_9 c_1_112 c_1_113 c_1_115 c_1_118) hw_38b hw_38c

