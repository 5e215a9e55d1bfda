set_option maxHeartbeats 1000000 in
set_option maxRecDepth 100000 in
theorem qX5_passOneP (l : Launch) (D : va_G) (cI cB : ClassId) (r : Nat → Nat) (B : BayT) (M : MT) (f : Nat → Int32) (v : Int32) (hc : mcu_ M + 1 ≤ 451) (hk1 : mik_ M = 0) : jMi D cI cB l yX5_passOne wsX5_passOne 0 [.ref (r 0), .int v] (mO r B M ++ [(r 20, .inl (cI, 451, .inl f))]) (S := Unit) (fun r u => r = f (mcu_ M)) (fun u => mO r B (ucu_ M 1) ++ [(r 20, .inl (cI, 451, .inl (f)))]) := by
  refine jMi.of (cc := cX5_passOne) (maxL := 3) (ret := (some .int)) okX5_passOne (Nat.le_of_ble_eq_true rfl) ?_
  intro p e s m below meth c ls A hx hb hr hts hown hlk hml hP hK hD hA hS hl
  replace hown : s.vm.findClass RX5 = some m.cls := hown
  replace hl : lv_has ls 3 [(0, .ref (r 0)), (1, .int v)] := hl
  have hinX5 : ∀ w ∈ wsX50, w ∈ wsX5_passOne := by decide +kernel
  refine lv_aload_n hx hb dX5_passOne_0 rfl (lv_at hl 0 rfl) ?_
  refine va_get (ci := 5) (C := RX5) (T := TX5) (N := 33) hx hb hts hinX5 hown hK.1 hP 0 rfl rfl 21 (by decide) (hts _ (List.mem_of_getElem? (i := 1) rfl)) (fun _ h9 => h9) rfl dX5_passOne_1 ?_
  refine sti (x := mik_ M) (y := 0) (hk1) ?_
  refine lv_if_eq (tgt := 11) hx hb dX5_passOne_4 (by decide) (fun _ => ?_) (fun q => absurd q (by decide))
  refine lv_aload_n hx hb dX5_passOne_11 rfl (lv_at hl 0 rfl) ?_
  refine va_get (ci := 5) (C := RX5) (T := TX5) (N := 33) hx hb hts hinX5 hown hK.1 hP 0 rfl rfl 19 (by decide) (hts _ (List.mem_of_getElem? (i := 2) rfl)) (fun _ h9 => h9) rfl dX5_passOne_12 ?_
  refine lv_aload_n hx hb dX5_passOne_15 rfl (lv_at hl 0 rfl) ?_
  refine va_get (ci := 5) (C := RX5) (T := TX5) (N := 33) hx hb hts hinX5 hown hK.1 hP 0 rfl rfl 22 (by decide) (hts _ (List.mem_of_getElem? (i := 3) rfl)) (fun _ h9 => h9) rfl dX5_passOne_16 ?_
  refine jald hx hb hK.1 hP 1 0 (mcu_ M) rfl rfl rfl (by omega) (Nat.le_of_ble_eq_true rfl) dX5_passOne_19 ?_
  refine lv_istore_n (lv' := [(2, .int (f (mcu_ M))), (0, .ref (r 0)), (1, .int v)]) hx hb dX5_passOne_20 rfl hl (by decide) rfl (fun ls hl => ?_)
  refine lv_aload_n hx hb dX5_passOne_21 rfl (lv_at hl 1 rfl) ?_
  refine va_get (ci := 5) (C := RX5) (T := TX5) (N := 33) hx hb hts hinX5 hown hK.1 hP 0 rfl rfl 21 (by decide) (hts _ (List.mem_of_getElem? (i := 1) rfl)) (fun _ h9 => h9) rfl dX5_passOne_22 ?_
  refine sti (x := mik_ M) (y := 0) (hk1) ?_
  refine lv_if_eq (tgt := 38) hx hb dX5_passOne_25 (by decide) (fun _ => ?_) (fun q => absurd q (by decide))
  refine lv_aload_n hx hb dX5_passOne_38 rfl (lv_at hl 1 rfl) ?_
  refine lv_dup hx hb dX5_passOne_39 rfl ?_
  refine va_get (ci := 5) (C := RX5) (T := TX5) (N := 33) hx hb hts hinX5 hown hK.1 hP 0 rfl rfl 22 (by decide) (hts _ (List.mem_of_getElem? (i := 3) rfl)) (fun _ h9 => h9) rfl dX5_passOne_40 ?_
  refine lv_iconst (v := 1) hx hb dX5_passOne_43 (by decide) ?_
  refine lv_iadd hx hb dX5_passOne_44 ?_
  refine sti (x := (nI (mcu_ M)) + 1) (y := nI (mcu_ M + 1)) (nI_1 _) ?_
  refine va_put (ci := 5) (ty := .int) (C := RX5) (T := TX5) (N := 33) hx hb hts hinX5 tyX5 tyX5_ok nmX5 hown hK.1 hP hD hS 0 rfl rfl 22 (by decide) (hts _ (List.mem_of_getElem? (i := 3) rfl)) (fun _ h9 => h9) rfl (by decide +kernel) (rfl) (rfl) (Nat.le_of_ble_eq_true rfl) dX5_passOne_45 (fun H locs hP hD hS => ?_)
  replace hP : va_P D vwCl (mO r B (mkM (mrf_ M) (mtp_ M) (mlt_ M) (mla_ M) (mtd_ M) (mkp_ M) (mof_ M) (mfa_ M) (mrw_ M) (mhb_ M) (mtn_ M) (mrd_ M) (msm_ M) (mcu_ M + 1) (mbk_ M) (mrm_ M) (mhi_ M) (mik_ M) (mlw_ M) (mhg_ M) (msl_ M) (mlo_ M)) ++ [(r 20, .inl (cI, 451, .inl f))]) H := hP
  replace hD : va_D A (mO r B (mkM (mrf_ M) (mtp_ M) (mlt_ M) (mla_ M) (mtd_ M) (mkp_ M) (mof_ M) (mfa_ M) (mrw_ M) (mhb_ M) (mtn_ M) (mrd_ M) (msm_ M) (mcu_ M + 1) (mbk_ M) (mrm_ M) (mhi_ M) (mik_ M) (mlw_ M) (mhg_ M) (msl_ M) (mlo_ M)) ++ [(r 20, .inl (cI, 451, .inl f))]) := hD
  refine lv_iload_n hx hb dX5_passOne_48 rfl (lv_at hl 0 rfl) ?_
  refine rMi hx hb hr hlk hS () hP ?_ dX5_passOne_49
  rfl
