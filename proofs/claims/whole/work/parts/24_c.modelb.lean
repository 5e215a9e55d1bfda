theorem okX5_passes : jok yX5_passes wsX5_passes cX5_passes 3 none 1 := ⟨⟨_, rfl⟩, by decide +kernel, by decide +kernel⟩
set_option maxHeartbeats 400000 in
set_option maxRecDepth 100000 in
theorem qX5_passesK (l : Launch) (D : va_G) (cI cB : ClassId) (r : Nat → Nat) (B : BayT) (M : MT) (f : Nat → Int32) (q : Nat) (h : Nat → Int32) (hc : mcu_ M + 7 ≤ 451) (hk1 : mik_ M = 1) : jMv D cI cB l yX5_passes wsX5_passes 0 [.ref (r 0), .ref q] (mO r B M ++ [(r 20, .inl (cI, 451, .inl f))] ++ [(q, .inl (cI, 7, .inl h))]) (S := Unit) (fun u => True) (fun u => mO r B (ucu_ M 7) ++ [(r 20, .inl (cI, 451, .inl (kc_ f h (mcu_ M) 7)))] ++ [(q, .inl (cI, 7, .inl (h)))]) := by
  refine jMv.of (cc := cX5_passes) (maxL := 3) (ret := none) okX5_passes (Nat.le_of_ble_eq_true rfl) ?_
  intro p e s m below meth c ls A hx hb hr hts hown hlk hml hP hK hD hA hS hl
  replace hown : s.vm.findClass RX5 = some m.cls := hown
  replace hl : lv_has ls 3 [(0, .ref (r 0)), (1, .ref q)] := hl
  have hinX5 : ∀ w ∈ wsX50, w ∈ wsX5_passes := by decide +kernel
  refine lv_iconst (v := 0) hx hb dX5_passes_0 (by decide) ?_
  refine lv_istore_n (lv' := [(2, .int 0), (0, .ref (r 0)), (1, .ref q)]) hx hb dX5_passes_1 rfl hl (by decide) rfl (fun ls hl => ?_)
  have lp_2 : ∀ (fu_2 : Nat) (i : Nat) (x2_2 : Int32) (M2 : MT) (F1 : Nat → Int32) (H1 : Nat → Int32), (x2_2 = nI i) → (M2 = ucu_ M i) → (F1 = kc_ f h (mcu_ M) i) → (H1 = h) → (i ≤ 7) → 7 - i < fu_2 → ∀ (H : Heap) (locs : List Loc), va_P D vwCl (mO r B M2 ++ [(r 20, .inl (cI, 451, .inl F1))] ++ [(q, .inl (cI, 7, .inl H1))]) H → va_D A (mO r B M2 ++ [(r 20, .inl (cI, 451, .inl F1))] ++ [(q, .inl (cI, 7, .inl H1))]) → va_S A s.heap H locs → ∀ ls : Array Slot, lv_has ls 3 [(2, .int x2_2), (0, .ref (r 0)), (1, .ref q)] → W p l e (jR 0) s m ([.ref (r 0), .ref q] : List Value).toArray below meth c H locs 0 0 (MQ below (va_Qv (S := Unit) (fun u => True) (fun u t => va_P D vwCl ((fun u => mO r B (ucu_ M 7) ++ [(r 20, .inl (cI, 451, .inl (kc_ f h (mcu_ M) 7)))] ++ [(q, .inl (cI, 7, .inl (h)))]) u) t.heap) A) ([.ref (r 0), .ref q] : List Value).toArray s 0 0 A) (F0 m 2 ls []) := by
    intro fu_2
    induction fu_2 with
    | zero => intro i x2_2 M2 F1 H1 hx2_2 hM2 hF1 hH1 hi hfu; exact absurd hfu (Nat.not_lt_zero _)
    | succ fu_2 ih_2 =>
      intro i x2_2 M2 F1 H1 hx2_2 hM2 hF1 hH1 hi hfu_2 H locs hP hD hS ls hl
      subst x2_2
      subst M2
      subst F1
      subst H1
      replace hl : lv_has ls 3 [(2, .int (nI i)), (0, .ref (r 0)), (1, .ref q)] := hl
      replace hP : va_P D vwCl (mO r B (ucu_ M i) ++ [(r 20, .inl (cI, 451, .inl (kc_ f h (mcu_ M) i)))] ++ [(q, .inl (cI, 7, .inl h))]) H := hP
      replace hD : va_D A (mO r B (ucu_ M i) ++ [(r 20, .inl (cI, 451, .inl (kc_ f h (mcu_ M) i)))] ++ [(q, .inl (cI, 7, .inl h))]) := hD
      refine lv_iload_n hx hb dX5_passes_2 rfl (lv_at hl 0 rfl) ?_
      refine lv_aload_n hx hb dX5_passes_3 rfl (lv_at hl 2 rfl) ?_
      refine va_alen (v := 7) hx hb hK.1 hP 2 0 rfl rfl rfl dX5_passes_4 ?_
      refine lv_icmp_ge (tgt := 58) hx hb dX5_passes_5 (by decide) (fun c_5 => ?_) (fun c_5 => ?_)
      · replace c_5 : nI 7 ≤ nI i := c_5
        rw [jle (by omega) (by omega)] at c_5
        have e9 : i = 7 := by omega
        subst e9
        replace hP : va_P D vwCl (mO r B (ucu_ M 7) ++ [(r 20, .inl (cI, 451, .inl (kc_ f h (mcu_ M) 7)))] ++ [(q, .inl (cI, 7, .inl h))]) H := hP
        replace hD : va_D A (mO r B (ucu_ M 7) ++ [(r 20, .inl (cI, 451, .inl (kc_ f h (mcu_ M) 7)))] ++ [(q, .inl (cI, 7, .inl h))]) := hD
        refine rMv hx hb hr hlk hS () hP ?_ dX5_passes_58
        trivial
      · replace c_5 : ¬ nI 7 ≤ nI i := c_5
        rw [jle (by omega) (by omega)] at c_5
        refine lv_aload_n hx hb dX5_passes_8 rfl (lv_at hl 1 rfl) ?_
        refine va_get (ci := 5) (C := RX5) (T := TX5) (N := 33) hx hb hts hinX5 hown hK.1 hP 0 rfl rfl 21 (by decide) (hts _ (List.mem_of_getElem? (i := 1) rfl)) (fun _ h9 => h9) rfl dX5_passes_9 ?_
        refine sti (x := mik_ M) (y := 1) (hk1) ?_
        refine lv_if_eq (tgt := 30) hx hb dX5_passes_12 (by decide) (fun q => absurd q (by decide)) (fun _ => ?_)
        refine lv_aload_n hx hb dX5_passes_15 rfl (lv_at hl 1 rfl) ?_
        refine va_get (ci := 5) (C := RX5) (T := TX5) (N := 33) hx hb hts hinX5 hown hK.1 hP 0 rfl rfl 19 (by decide) (hts _ (List.mem_of_getElem? (i := 2) rfl)) (fun _ h9 => h9) rfl dX5_passes_16 ?_
        refine lv_aload_n hx hb dX5_passes_19 rfl (lv_at hl 1 rfl) ?_
        refine va_get (ci := 5) (C := RX5) (T := TX5) (N := 33) hx hb hts hinX5 hown hK.1 hP 0 rfl rfl 22 (by decide) (hts _ (List.mem_of_getElem? (i := 3) rfl)) (fun _ h9 => h9) rfl dX5_passes_20 ?_
        refine lv_aload_n hx hb dX5_passes_23 rfl (lv_at hl 2 rfl) ?_
        refine lv_iload_n hx hb dX5_passes_24 rfl (lv_at hl 0 rfl) ?_
        refine jald hx hb hK.1 hP 2 0 i rfl rfl rfl (by omega) (Nat.le_of_ble_eq_true rfl) dX5_passes_25 ?_
        refine jast hx hb hK.1 hP hD hS 1 0 (mcu_ M + i) rfl rfl rfl (by omega) (Nat.le_of_ble_eq_true rfl) dX5_passes_26 (fun f_1 ef_1 H locs hP hD hS => ?_)
        replace ef_1 : f_1 = upd (kc_ f h (mcu_ M) i) (mcu_ M + i) (h i) := ef_1
        replace hP : va_P D vwCl (mO r B (ucu_ M i) ++ [(r 20, .inl (cI, 451, .inl f_1))] ++ [(q, .inl (cI, 7, .inl h))]) H := hP
        replace hD : va_D A (mO r B (ucu_ M i) ++ [(r 20, .inl (cI, 451, .inl f_1))] ++ [(q, .inl (cI, 7, .inl h))]) := hD
        refine lv_goto (tgt := 42) hx hb dX5_passes_27 (by decide) ?_
        refine lv_aload_n hx hb dX5_passes_42 rfl (lv_at hl 1 rfl) ?_
        refine lv_dup hx hb dX5_passes_43 rfl ?_
        refine va_get (ci := 5) (C := RX5) (T := TX5) (N := 33) hx hb hts hinX5 hown hK.1 hP 0 rfl rfl 22 (by decide) (hts _ (List.mem_of_getElem? (i := 3) rfl)) (fun _ h9 => h9) rfl dX5_passes_44 ?_
        refine lv_iconst (v := 1) hx hb dX5_passes_47 (by decide) ?_
        refine lv_iadd hx hb dX5_passes_48 ?_
        refine sti (x := (nI (mcu_ M + i)) + 1) (y := nI (mcu_ M + i + 1)) (nI_1 _) ?_
        refine va_put (ci := 5) (ty := .int) (C := RX5) (T := TX5) (N := 33) hx hb hts hinX5 tyX5 tyX5_ok nmX5 hown hK.1 hP hD hS 0 rfl rfl 22 (by decide) (hts _ (List.mem_of_getElem? (i := 3) rfl)) (fun _ h9 => h9) rfl (by decide +kernel) (rfl) (rfl) (Nat.le_of_ble_eq_true rfl) dX5_passes_49 (fun H locs hP hD hS => ?_)
        replace hP : va_P D vwCl (mO r B (mkM (mrf_ M) (mtp_ M) (mlt_ M) (mla_ M) (mtd_ M) (mkp_ M) (mof_ M) (mfa_ M) (mrw_ M) (mhb_ M) (mtn_ M) (mrd_ M) (msm_ M) (mcu_ M + i + 1) (mbk_ M) (mrm_ M) (mhi_ M) (mik_ M) (mlw_ M) (mhg_ M) (msl_ M) (mlo_ M)) ++ [(r 20, .inl (cI, 451, .inl f_1))] ++ [(q, .inl (cI, 7, .inl h))]) H := hP
        replace hD : va_D A (mO r B (mkM (mrf_ M) (mtp_ M) (mlt_ M) (mla_ M) (mtd_ M) (mkp_ M) (mof_ M) (mfa_ M) (mrw_ M) (mhb_ M) (mtn_ M) (mrd_ M) (msm_ M) (mcu_ M + i + 1) (mbk_ M) (mrm_ M) (mhi_ M) (mik_ M) (mlw_ M) (mhg_ M) (msl_ M) (mlo_ M)) ++ [(r 20, .inl (cI, 451, .inl f_1))] ++ [(q, .inl (cI, 7, .inl h))]) := hD
        refine lv_iinc (v := (nI i) + 1) (lv' := [(2, .int ((nI i) + 1)), (0, .ref (r 0)), (1, .ref q)]) hx hb dX5_passes_52 hl (k := 0) rfl (by first | rfl | decide) (by decide) rfl (fun ls hl => ?_)
        refine lv_goto (tgt := 2) hx hb dX5_passes_55 (by decide) ?_
        (try rw [ef_1] at hP); (try rw [ef_1] at hD); (try rw [ef_1] at hl); (try rw [ef_1] at c_5); (try rw [ef_1])
        exact ih_2 (i + 1) ((nI i) + 1) (mkM (mrf_ M) (mtp_ M) (mlt_ M) (mla_ M) (mtd_ M) (mkp_ M) (mof_ M) (mfa_ M) (mrw_ M) (mhb_ M) (mtn_ M) (mrd_ M) (msm_ M) (mcu_ M + i + 1) (mbk_ M) (mrm_ M) (mhi_ M) (mik_ M) (mlw_ M) (mhg_ M) (msl_ M) (mlo_ M)) (upd (kc_ f h (mcu_ M) i) (mcu_ M + i) (h i)) h (by first | rfl | exact nI_1 _) (rfl) (kc_s _ _ _ _) (rfl) (by omega) (by omega) _ _ hP hD hS ls (lv_sub hl [0, 1, 2] rfl)
  exact lp_2 (7 + 1) 0 0 M f h (by first | rfl | exact nI_0.symm) (rfl) ((kc_0 _ _ _).symm) (rfl) (by omega) (by omega) _ _ hP hD hS ls (lv_sub hl [0, 1, 2] rfl)

set_option maxHeartbeats 400000 in
set_option maxRecDepth 100000 in
theorem qX5_passesP (l : Launch) (D : va_G) (cI cB : ClassId) (r : Nat → Nat) (B : BayT) (M : MT) (f : Nat → Int32) (q : Nat) (h : Nat → Int32) (hc : mcu_ M + 7 ≤ 451) (hk1 : mik_ M = 0) : jMv D cI cB l yX5_passes wsX5_passes 0 [.ref (r 0), .ref q] (mO r B M ++ [(r 20, .inl (cI, 451, .inl f))] ++ [(q, .inl (cI, 7, .inl h))]) (S := Unit) (fun u => True) (fun u => mO r B (ucu_ M 7) ++ [(r 20, .inl (cI, 451, .inl (f)))] ++ [(q, .inl (cI, 7, .inl (fun j => f (mcu_ M + j))))]) := by
  refine jMv.of (cc := cX5_passes) (maxL := 3) (ret := none) okX5_passes (Nat.le_of_ble_eq_true rfl) ?_
  intro p e s m below meth c ls A hx hb hr hts hown hlk hml hP hK hD hA hS hl
  replace hown : s.vm.findClass RX5 = some m.cls := hown
  replace hl : lv_has ls 3 [(0, .ref (r 0)), (1, .ref q)] := hl
  have hinX5 : ∀ w ∈ wsX50, w ∈ wsX5_passes := by decide +kernel
  refine lv_iconst (v := 0) hx hb dX5_passes_0 (by decide) ?_
  refine lv_istore_n (lv' := [(2, .int 0), (0, .ref (r 0)), (1, .ref q)]) hx hb dX5_passes_1 rfl hl (by decide) rfl (fun ls hl => ?_)
  have lp_2 : ∀ (fu_2 : Nat) (i : Nat) (x2_2 : Int32) (M2 : MT) (F1 : Nat → Int32) (H1 : Nat → Int32), (x2_2 = nI i) → (M2 = ucu_ M i) → (F1 = f) → (H1 = oc_ f h (mcu_ M) i) → (i ≤ 7) → 7 - i < fu_2 → ∀ (H : Heap) (locs : List Loc), va_P D vwCl (mO r B M2 ++ [(r 20, .inl (cI, 451, .inl F1))] ++ [(q, .inl (cI, 7, .inl H1))]) H → va_D A (mO r B M2 ++ [(r 20, .inl (cI, 451, .inl F1))] ++ [(q, .inl (cI, 7, .inl H1))]) → va_S A s.heap H locs → ∀ ls : Array Slot, lv_has ls 3 [(2, .int x2_2), (0, .ref (r 0)), (1, .ref q)] → W p l e (jR 0) s m ([.ref (r 0), .ref q] : List Value).toArray below meth c H locs 0 0 (MQ below (va_Qv (S := Unit) (fun u => True) (fun u t => va_P D vwCl ((fun u => mO r B (ucu_ M 7) ++ [(r 20, .inl (cI, 451, .inl (f)))] ++ [(q, .inl (cI, 7, .inl (fun j => f (mcu_ M + j))))]) u) t.heap) A) ([.ref (r 0), .ref q] : List Value).toArray s 0 0 A) (F0 m 2 ls []) := by
    intro fu_2
    induction fu_2 with
    | zero => intro i x2_2 M2 F1 H1 hx2_2 hM2 hF1 hH1 hi hfu; exact absurd hfu (Nat.not_lt_zero _)
    | succ fu_2 ih_2 =>
      intro i x2_2 M2 F1 H1 hx2_2 hM2 hF1 hH1 hi hfu_2 H locs hP hD hS ls hl
      subst x2_2
      subst M2
      subst F1
      subst H1
      replace hl : lv_has ls 3 [(2, .int (nI i)), (0, .ref (r 0)), (1, .ref q)] := hl
      replace hP : va_P D vwCl (mO r B (ucu_ M i) ++ [(r 20, .inl (cI, 451, .inl f))] ++ [(q, .inl (cI, 7, .inl (oc_ f h (mcu_ M) i)))]) H := hP
      replace hD : va_D A (mO r B (ucu_ M i) ++ [(r 20, .inl (cI, 451, .inl f))] ++ [(q, .inl (cI, 7, .inl (oc_ f h (mcu_ M) i)))]) := hD
      refine lv_iload_n hx hb dX5_passes_2 rfl (lv_at hl 0 rfl) ?_
      refine lv_aload_n hx hb dX5_passes_3 rfl (lv_at hl 2 rfl) ?_
      refine va_alen (v := 7) hx hb hK.1 hP 2 0 rfl rfl rfl dX5_passes_4 ?_
      refine lv_icmp_ge (tgt := 58) hx hb dX5_passes_5 (by decide) (fun c_5 => ?_) (fun c_5 => ?_)
      · replace c_5 : nI 7 ≤ nI i := c_5
        rw [jle (by omega) (by omega)] at c_5
        have e9 : i = 7 := by omega
        subst e9
        replace hP : va_P D vwCl (mO r B (ucu_ M 7) ++ [(r 20, .inl (cI, 451, .inl f))] ++ [(q, .inl (cI, 7, .inl (oc_ f h (mcu_ M) 7)))]) H := hP
        replace hD : va_D A (mO r B (ucu_ M 7) ++ [(r 20, .inl (cI, 451, .inl f))] ++ [(q, .inl (cI, 7, .inl (oc_ f h (mcu_ M) 7)))]) := hD
        replace hP := va_P.cong (g := fun j => f (mcu_ M + j)) hP 2 rfl (fun j hj => if_pos hj)
        replace hP : va_P D vwCl (mO r B (ucu_ M 7) ++ [(r 20, .inl (cI, 451, .inl f))] ++ [(q, .inl (cI, 7, .inl (fun j => f (mcu_ M + j))))]) H := hP
        replace hD : va_D A (mO r B (ucu_ M 7) ++ [(r 20, .inl (cI, 451, .inl f))] ++ [(q, .inl (cI, 7, .inl (fun j => f (mcu_ M + j))))]) := va_D.adr hD rfl
        refine rMv hx hb hr hlk hS () hP ?_ dX5_passes_58
        trivial
      · replace c_5 : ¬ nI 7 ≤ nI i := c_5
        rw [jle (by omega) (by omega)] at c_5
        refine lv_aload_n hx hb dX5_passes_8 rfl (lv_at hl 1 rfl) ?_
        refine va_get (ci := 5) (C := RX5) (T := TX5) (N := 33) hx hb hts hinX5 hown hK.1 hP 0 rfl rfl 21 (by decide) (hts _ (List.mem_of_getElem? (i := 1) rfl)) (fun _ h9 => h9) rfl dX5_passes_9 ?_
        refine sti (x := mik_ M) (y := 0) (hk1) ?_
        refine lv_if_eq (tgt := 30) hx hb dX5_passes_12 (by decide) (fun _ => ?_) (fun q => absurd q (by decide))
        refine lv_aload_n hx hb dX5_passes_30 rfl (lv_at hl 2 rfl) ?_
        refine lv_iload_n hx hb dX5_passes_31 rfl (lv_at hl 0 rfl) ?_
        refine lv_aload_n hx hb dX5_passes_32 rfl (lv_at hl 1 rfl) ?_
        refine va_get (ci := 5) (C := RX5) (T := TX5) (N := 33) hx hb hts hinX5 hown hK.1 hP 0 rfl rfl 19 (by decide) (hts _ (List.mem_of_getElem? (i := 2) rfl)) (fun _ h9 => h9) rfl dX5_passes_33 ?_
        refine lv_aload_n hx hb dX5_passes_36 rfl (lv_at hl 1 rfl) ?_
        refine va_get (ci := 5) (C := RX5) (T := TX5) (N := 33) hx hb hts hinX5 hown hK.1 hP 0 rfl rfl 22 (by decide) (hts _ (List.mem_of_getElem? (i := 3) rfl)) (fun _ h9 => h9) rfl dX5_passes_37 ?_
        refine jald hx hb hK.1 hP 1 0 (mcu_ M + i) rfl rfl rfl (by omega) (Nat.le_of_ble_eq_true rfl) dX5_passes_40 ?_
        refine jast hx hb hK.1 hP hD hS 2 0 i rfl rfl rfl (by omega) (Nat.le_of_ble_eq_true rfl) dX5_passes_41 (fun f_1 ef_1 H locs hP hD hS => ?_)
        replace ef_1 : f_1 = upd (oc_ f h (mcu_ M) i) i (f (mcu_ M + i)) := ef_1
        replace hP : va_P D vwCl (mO r B (ucu_ M i) ++ [(r 20, .inl (cI, 451, .inl f))] ++ [(q, .inl (cI, 7, .inl f_1))]) H := hP
        replace hD : va_D A (mO r B (ucu_ M i) ++ [(r 20, .inl (cI, 451, .inl f))] ++ [(q, .inl (cI, 7, .inl f_1))]) := hD
        refine lv_aload_n hx hb dX5_passes_42 rfl (lv_at hl 1 rfl) ?_
        refine lv_dup hx hb dX5_passes_43 rfl ?_
        refine va_get (ci := 5) (C := RX5) (T := TX5) (N := 33) hx hb hts hinX5 hown hK.1 hP 0 rfl rfl 22 (by decide) (hts _ (List.mem_of_getElem? (i := 3) rfl)) (fun _ h9 => h9) rfl dX5_passes_44 ?_
        refine lv_iconst (v := 1) hx hb dX5_passes_47 (by decide) ?_
        refine lv_iadd hx hb dX5_passes_48 ?_
        refine sti (x := (nI (mcu_ M + i)) + 1) (y := nI (mcu_ M + i + 1)) (nI_1 _) ?_
        refine va_put (ci := 5) (ty := .int) (C := RX5) (T := TX5) (N := 33) hx hb hts hinX5 tyX5 tyX5_ok nmX5 hown hK.1 hP hD hS 0 rfl rfl 22 (by decide) (hts _ (List.mem_of_getElem? (i := 3) rfl)) (fun _ h9 => h9) rfl (by decide +kernel) (rfl) (rfl) (Nat.le_of_ble_eq_true rfl) dX5_passes_49 (fun H locs hP hD hS => ?_)
        replace hP : va_P D vwCl (mO r B (mkM (mrf_ M) (mtp_ M) (mlt_ M) (mla_ M) (mtd_ M) (mkp_ M) (mof_ M) (mfa_ M) (mrw_ M) (mhb_ M) (mtn_ M) (mrd_ M) (msm_ M) (mcu_ M + i + 1) (mbk_ M) (mrm_ M) (mhi_ M) (mik_ M) (mlw_ M) (mhg_ M) (msl_ M) (mlo_ M)) ++ [(r 20, .inl (cI, 451, .inl f))] ++ [(q, .inl (cI, 7, .inl f_1))]) H := hP
        replace hD : va_D A (mO r B (mkM (mrf_ M) (mtp_ M) (mlt_ M) (mla_ M) (mtd_ M) (mkp_ M) (mof_ M) (mfa_ M) (mrw_ M) (mhb_ M) (mtn_ M) (mrd_ M) (msm_ M) (mcu_ M + i + 1) (mbk_ M) (mrm_ M) (mhi_ M) (mik_ M) (mlw_ M) (mhg_ M) (msl_ M) (mlo_ M)) ++ [(r 20, .inl (cI, 451, .inl f))] ++ [(q, .inl (cI, 7, .inl f_1))]) := hD
        refine lv_iinc (v := (nI i) + 1) (lv' := [(2, .int ((nI i) + 1)), (0, .ref (r 0)), (1, .ref q)]) hx hb dX5_passes_52 hl (k := 0) rfl (by first | rfl | decide) (by decide) rfl (fun ls hl => ?_)
        refine lv_goto (tgt := 2) hx hb dX5_passes_55 (by decide) ?_
        (try rw [ef_1] at hP); (try rw [ef_1] at hD); (try rw [ef_1] at hl); (try rw [ef_1] at c_5); (try rw [ef_1])
        exact ih_2 (i + 1) ((nI i) + 1) (mkM (mrf_ M) (mtp_ M) (mlt_ M) (mla_ M) (mtd_ M) (mkp_ M) (mof_ M) (mfa_ M) (mrw_ M) (mhb_ M) (mtn_ M) (mrd_ M) (msm_ M) (mcu_ M + i + 1) (mbk_ M) (mrm_ M) (mhi_ M) (mik_ M) (mlw_ M) (mhg_ M) (msl_ M) (mlo_ M)) f (upd (oc_ f h (mcu_ M) i) i (f (mcu_ M + i))) (by first | rfl | exact nI_1 _) (rfl) (rfl) (oc_s _ _ _ _) (by omega) (by omega) _ _ hP hD hS ls (lv_sub hl [0, 1, 2] rfl)
  exact lp_2 (7 + 1) 0 0 M f h (by first | rfl | exact nI_0.symm) (rfl) (rfl) ((oc_0 _ _ _).symm) (by omega) (by omega) _ _ hP hD hS ls (lv_sub hl [0, 1, 2] rfl)

theorem okX5_passOne : jok yX5_passOne wsX5_passOne cX5_passOne 3 (some .int) 1 := ⟨⟨_, rfl⟩, by decide +kernel, by decide +kernel⟩
set_option maxHeartbeats 400000 in
set_option maxRecDepth 100000 in
theorem qX5_passOneK (l : Launch) (D : va_G) (cI cB : ClassId) (r : Nat → Nat) (B : BayT) (M : MT) (f : Nat → Int32) (v : Int32) (hc : mcu_ M + 1 ≤ 451) (hk1 : mik_ M = 1) : jMi D cI cB l yX5_passOne wsX5_passOne 0 [.ref (r 0), .int v] (mO r B M ++ [(r 20, .inl (cI, 451, .inl f))]) (S := Unit) (fun r u => r = v) (fun u => mO r B (ucu_ M 1) ++ [(r 20, .inl (cI, 451, .inl (upd f (mcu_ M) v)))]) := by
  refine jMi.of (cc := cX5_passOne) (maxL := 3) (ret := (some .int)) okX5_passOne (Nat.le_of_ble_eq_true rfl) ?_
  intro p e s m below meth c ls A hx hb hr hts hown hlk hml hP hK hD hA hS hl
  replace hown : s.vm.findClass RX5 = some m.cls := hown
  replace hl : lv_has ls 3 [(0, .ref (r 0)), (1, .int v)] := hl
  have hinX5 : ∀ w ∈ wsX50, w ∈ wsX5_passOne := by decide +kernel
  refine lv_aload_n hx hb dX5_passOne_0 rfl (lv_at hl 0 rfl) ?_
  refine va_get (ci := 5) (C := RX5) (T := TX5) (N := 33) hx hb hts hinX5 hown hK.1 hP 0 rfl rfl 21 (by decide) (hts _ (List.mem_of_getElem? (i := 1) rfl)) (fun _ h9 => h9) rfl dX5_passOne_1 ?_
  refine sti (x := mik_ M) (y := 1) (hk1) ?_
  refine lv_if_eq (tgt := 11) hx hb dX5_passOne_4 (by decide) (fun q => absurd q (by decide)) (fun _ => ?_)
  refine lv_iload_n hx hb dX5_passOne_7 rfl (lv_at hl 1 rfl) ?_
  refine lv_goto (tgt := 20) hx hb dX5_passOne_8 (by decide) ?_
  refine lv_istore_n (lv' := [(2, .int v), (0, .ref (r 0)), (1, .int v)]) hx hb dX5_passOne_20 rfl hl (by decide) rfl (fun ls hl => ?_)
  refine lv_aload_n hx hb dX5_passOne_21 rfl (lv_at hl 1 rfl) ?_
  refine va_get (ci := 5) (C := RX5) (T := TX5) (N := 33) hx hb hts hinX5 hown hK.1 hP 0 rfl rfl 21 (by decide) (hts _ (List.mem_of_getElem? (i := 1) rfl)) (fun _ h9 => h9) rfl dX5_passOne_22 ?_
  refine sti (x := mik_ M) (y := 1) (hk1) ?_
  refine lv_if_eq (tgt := 38) hx hb dX5_passOne_25 (by decide) (fun q => absurd q (by decide)) (fun _ => ?_)
  refine lv_aload_n hx hb dX5_passOne_28 rfl (lv_at hl 1 rfl) ?_
  refine va_get (ci := 5) (C := RX5) (T := TX5) (N := 33) hx hb hts hinX5 hown hK.1 hP 0 rfl rfl 19 (by decide) (hts _ (List.mem_of_getElem? (i := 2) rfl)) (fun _ h9 => h9) rfl dX5_passOne_29 ?_
  refine lv_aload_n hx hb dX5_passOne_32 rfl (lv_at hl 1 rfl) ?_
  refine va_get (ci := 5) (C := RX5) (T := TX5) (N := 33) hx hb hts hinX5 hown hK.1 hP 0 rfl rfl 22 (by decide) (hts _ (List.mem_of_getElem? (i := 3) rfl)) (fun _ h9 => h9) rfl dX5_passOne_33 ?_
  refine lv_iload_n hx hb dX5_passOne_36 rfl (lv_at hl 2 rfl) ?_
  refine jast hx hb hK.1 hP hD hS 1 0 (mcu_ M) rfl rfl rfl (by omega) (Nat.le_of_ble_eq_true rfl) dX5_passOne_37 (fun f_1 ef_1 H locs hP hD hS => ?_)
  replace ef_1 : f_1 = upd f (mcu_ M) v := ef_1
  replace hP : va_P D vwCl (mO r B M ++ [(r 20, .inl (cI, 451, .inl f_1))]) H := hP
  replace hD : va_D A (mO r B M ++ [(r 20, .inl (cI, 451, .inl f_1))]) := hD
  refine lv_aload_n hx hb dX5_passOne_38 rfl (lv_at hl 1 rfl) ?_
  refine lv_dup hx hb dX5_passOne_39 rfl ?_
  refine va_get (ci := 5) (C := RX5) (T := TX5) (N := 33) hx hb hts hinX5 hown hK.1 hP 0 rfl rfl 22 (by decide) (hts _ (List.mem_of_getElem? (i := 3) rfl)) (fun _ h9 => h9) rfl dX5_passOne_40 ?_
  refine lv_iconst (v := 1) hx hb dX5_passOne_43 (by decide) ?_
  refine lv_iadd hx hb dX5_passOne_44 ?_
  refine sti (x := (nI (mcu_ M)) + 1) (y := nI (mcu_ M + 1)) (nI_1 _) ?_
  refine va_put (ci := 5) (ty := .int) (C := RX5) (T := TX5) (N := 33) hx hb hts hinX5 tyX5 tyX5_ok nmX5 hown hK.1 hP hD hS 0 rfl rfl 22 (by decide) (hts _ (List.mem_of_getElem? (i := 3) rfl)) (fun _ h9 => h9) rfl (by decide +kernel) (rfl) (rfl) (Nat.le_of_ble_eq_true rfl) dX5_passOne_45 (fun H locs hP hD hS => ?_)
  replace hP : va_P D vwCl (mO r B (mkM (mrf_ M) (mtp_ M) (mlt_ M) (mla_ M) (mtd_ M) (mkp_ M) (mof_ M) (mfa_ M) (mrw_ M) (mhb_ M) (mtn_ M) (mrd_ M) (msm_ M) (mcu_ M + 1) (mbk_ M) (mrm_ M) (mhi_ M) (mik_ M) (mlw_ M) (mhg_ M) (msl_ M) (mlo_ M)) ++ [(r 20, .inl (cI, 451, .inl f_1))]) H := hP
  replace hD : va_D A (mO r B (mkM (mrf_ M) (mtp_ M) (mlt_ M) (mla_ M) (mtd_ M) (mkp_ M) (mof_ M) (mfa_ M) (mrw_ M) (mhb_ M) (mtn_ M) (mrd_ M) (msm_ M) (mcu_ M + 1) (mbk_ M) (mrm_ M) (mhi_ M) (mik_ M) (mlw_ M) (mhg_ M) (msl_ M) (mlo_ M)) ++ [(r 20, .inl (cI, 451, .inl f_1))]) := hD
  refine lv_iload_n hx hb dX5_passOne_48 rfl (lv_at hl 0 rfl) ?_
  (try rw [ef_1] at hP); (try rw [ef_1] at hD); (try rw [ef_1] at hl); (try rw [ef_1])
  refine rMi hx hb hr hlk hS () hP ?_ dX5_passOne_49
  rfl

