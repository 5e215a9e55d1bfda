theorem okX5_keepsBack : jok yX5_keepsBack wsX5_keepsBack cX5_keepsBack 2 none 0 := ⟨⟨_, rfl⟩, by decide +kernel, by decide +kernel⟩
set_option maxHeartbeats 2000000 in
set_option maxRecDepth 100000 in
theorem qX5_keepsBack (l : Launch) (D : va_G) (cI cB : ClassId) (r : Nat → Nat) (B : BayT) (M : MT) (hbk : mbk_ M ≤ 8) : jMv D cI cB l yX5_keepsBack wsX5_keepsBack 2 [.ref (r 0)] (mW cI r B M) (S := MT) (fun u => u = kb_ M B) (fun u => mW cI r B u) := by
  refine jMv.of (cc := cX5_keepsBack) (maxL := 2) (ret := none) okX5_keepsBack (Nat.le_of_ble_eq_true rfl) ?_
  intro p e s m below meth c ls A hx hb hr hts hown hlk hml hP hK hD hA hS hl
  replace hown : s.vm.findClass RX5 = some m.cls := hown
  replace hl : lv_has ls 2 [(0, .ref (r 0))] := hl
  have hD0 := hD
  have hinX5 : ∀ w ∈ wsX50, w ∈ wsX5_keepsBack := by decide +kernel
  refine lv_aload_n hx hb dX5_keepsBack_0 rfl (lv_at hl 0 rfl) ?_
  refine va_get (ci := 5) (C := RX5) (T := TX5) (N := 33) hx hb hts hinX5 hown hK.1 hP 0 rfl rfl 23 (by decide) (hts _ (List.mem_of_getElem? (i := 1) rfl)) (fun _ h9 => h9) rfl dX5_keepsBack_1 ?_
  refine lv_bipush (v := 8) hx hb dX5_keepsBack_4 (by decide) ?_
  refine lv_icmp_ne (tgt := 50) hx hb dX5_keepsBack_6 (by decide) (fun c_6 => ?_) (fun c_6 => ?_)
  · replace c_6 : ¬ nI (mbk_ M) = nI 8 := c_6
    rw [jeq (by omega) (by omega)] at c_6
    refine lv_aload_n hx hb dX5_keepsBack_50 rfl (lv_at hl 0 rfl) ?_
    refine lv_iconst (v := 3) hx hb dX5_keepsBack_51 (by decide) ?_
    refine lv_aload_n hx hb dX5_keepsBack_52 rfl (lv_at hl 0 rfl) ?_
    refine va_get (ci := 5) (C := RX5) (T := TX5) (N := 33) hx hb hts hinX5 hown hK.1 hP 0 rfl rfl 23 (by decide) (hts _ (List.mem_of_getElem? (i := 1) rfl)) (fun _ h9 => h9) rfl dX5_keepsBack_53 ?_
    refine lv_iadd hx hb dX5_keepsBack_56 ?_
    refine sti (x := 3 + (nI (mbk_ M))) (y := nI (3 + (mbk_ M))) (nI_add 3 _) ?_
    refine lv_iconst (v := 1) hx hb dX5_keepsBack_57 (by decide) ?_
    refine kMvV hx hb hml hown hts hK hP (va_D.adr hD0 (mW_adE rfl)) hA hS gX5_keepsBack_X5_passesAll okX5_passesAll (qX5_passesAllK l D cI cB r B M (3 + (mbk_ M)) (by omega)) [0, 1, 2, 3, 4, 5, 6, 7, 8, 9, 10, 11, 12, 13, 14, 15] rfl (by decide) (fun _ => mW_adr _ _ _ _ _ _) rfl rfl rfl (by decide) hl.1 rfl rfl (Nat.le_of_ble_eq_true rfl) dX5_keepsBack_58 (by decide) (fun u_2 H locs hw_3 hP hD hS => ?_)
    replace hP : va_P D vwCl ([(r 0, .inr (5, [.ref (r 1), .ref (r 2), .ref (r 3), .ref (r 4), .ref (r 5), .ref (r 6), .int (nI (sn_ B)), .int (qt_ B), .int (il_ B), .int (pa_ B), .int (ho_ B), .int (dy_ B), .ref (r 13), .ref (r 14), .ref (r 15), .ref (r 16), .int (nI (mtn_ M)), .int (nI (mrd_ M)), .int (nI (msm_ M)), .ref (r 20), .int (mhi_ M), .int (1), .int (nI (41 * (3 + (mbk_ M)) + 41)), .int (nI (mbk_ M)), .ref (r 25), .ref (r 26), .int (mlw_ M), .int (mhg_ M), .int (msl_ M), .ref (r 30), .int (nI (mrm_ M)), .ref (r 32), .int (mlo_ M)])), (r 1, .inl (cI, 7, .inl (mrf_ M))), (r 2, .inl (cI, 7, .inl (kd_ B))), (r 3, .inl (cI, 7, .inl (fg_ B))), (r 4, .inl (cI, 7, .inl (pl_ B))), (r 5, .inl (cI, 7, .inl (pw_ B))), (r 6, .inl (cI, 7, .inl (jy_ B))), (r 13, .inl (cI, 96, .inl (mtp_ M))), (r 14, .inl (cI, 48, .inl (mlt_ M))), (r 15, .inl (cI, 48, .inl (mla_ M))), (r 16, .inl (cI, 144, .inl (mtd_ M))), (r 20, .inl (cI, 451, .inl (flatK (va_up (mkp_ M) (3 + (mbk_ M)) B)))), (r 25, .inl (cI, 7, .inl (mof_ M))), (r 26, .inl (cI, 7, .inl (mfa_ M))), (r 30, .inl (cI, 12, .inl (mrw_ M))), (r 32, .inl (cI, 8, .inl (mhb_ M)))]) H := (va_P.m [true, true, true, true, true, true, true, true, true, true, true, true, true, true, true, true] [] hP)
    refine lv_aload_n hx hb dX5_keepsBack_61 rfl (lv_at hl 0 rfl) ?_
    refine lv_dup hx hb dX5_keepsBack_62 rfl ?_
    refine va_get (ci := 5) (C := RX5) (T := TX5) (N := 33) hx hb hts hinX5 hown hK.1 hP 0 rfl rfl 23 (by decide) (hts _ (List.mem_of_getElem? (i := 1) rfl)) (fun _ h9 => h9) rfl dX5_keepsBack_63 ?_
    refine lv_iconst (v := 1) hx hb dX5_keepsBack_66 (by decide) ?_
    refine lv_iadd hx hb dX5_keepsBack_67 ?_
    refine sti (x := (nI (mbk_ M)) + 1) (y := nI ((mbk_ M) + 1)) (nI_1 _) ?_
    refine va_put (ci := 5) (ty := .int) (C := RX5) (T := TX5) (N := 33) hx hb hts hinX5 tyX5 tyX5_ok nmX5 hown hK.1 hP (va_D.adr hD0 (mW_adE rfl)) hS 0 rfl rfl 23 (by decide) (hts _ (List.mem_of_getElem? (i := 1) rfl)) (fun _ h9 => h9) rfl (by decide +kernel) (rfl) (rfl) (Nat.le_of_ble_eq_true rfl) dX5_keepsBack_68 (fun H locs hP hD hS => ?_)
    replace hP : va_P D vwCl ([(r 0, .inr (5, [.ref (r 1), .ref (r 2), .ref (r 3), .ref (r 4), .ref (r 5), .ref (r 6), .int (nI (sn_ B)), .int (qt_ B), .int (il_ B), .int (pa_ B), .int (ho_ B), .int (dy_ B), .ref (r 13), .ref (r 14), .ref (r 15), .ref (r 16), .int (nI (mtn_ M)), .int (nI (mrd_ M)), .int (nI (msm_ M)), .ref (r 20), .int (mhi_ M), .int (1), .int (nI (41 * (3 + (mbk_ M)) + 41)), .int (nI ((mbk_ M) + 1)), .ref (r 25), .ref (r 26), .int (mlw_ M), .int (mhg_ M), .int (msl_ M), .ref (r 30), .int (nI (mrm_ M)), .ref (r 32), .int (mlo_ M)])), (r 1, .inl (cI, 7, .inl (mrf_ M))), (r 2, .inl (cI, 7, .inl (kd_ B))), (r 3, .inl (cI, 7, .inl (fg_ B))), (r 4, .inl (cI, 7, .inl (pl_ B))), (r 5, .inl (cI, 7, .inl (pw_ B))), (r 6, .inl (cI, 7, .inl (jy_ B))), (r 13, .inl (cI, 96, .inl (mtp_ M))), (r 14, .inl (cI, 48, .inl (mlt_ M))), (r 15, .inl (cI, 48, .inl (mla_ M))), (r 16, .inl (cI, 144, .inl (mtd_ M))), (r 20, .inl (cI, 451, .inl (flatK (va_up (mkp_ M) (3 + (mbk_ M)) B)))), (r 25, .inl (cI, 7, .inl (mof_ M))), (r 26, .inl (cI, 7, .inl (mfa_ M))), (r 30, .inl (cI, 12, .inl (mrw_ M))), (r 32, .inl (cI, 8, .inl (mhb_ M)))]) H := hP
    refine rMv hx hb hr hlk hS (mkM (mrf_ M) (mtp_ M) (mlt_ M) (mla_ M) (mtd_ M) (va_up (mkp_ M) (3 + (mbk_ M)) B) (mof_ M) (mfa_ M) (mrw_ M) (mhb_ M) (mtn_ M) (mrd_ M) (msm_ M) (41 * (3 + (mbk_ M)) + 41) ((mbk_ M) + 1) (mrm_ M) (mhi_ M) 1 (mlw_ M) (mhg_ M) (msl_ M) (mlo_ M)) hP ?_ dX5_keepsBack_71
    first | exact kb_8 c_6 | exact kb_n (by omega)
  · replace c_6 : nI (mbk_ M) = nI 8 := c_6
    rw [jeq (by omega) (by omega)] at c_6
    refine lv_bipush (v := 123) hx hb dX5_keepsBack_9 (by decide) ?_
    refine lv_istore_n (lv' := [(1, .int 123), (0, .ref (r 0))]) hx hb dX5_keepsBack_11 rfl hl (by decide) rfl (fun ls hl => ?_)
    have lp_12 : ∀ (fu_12 : Nat) (i : Nat) (x1_12 : Int32) (F1 : Nat → Int32), (x1_12 = nI (123 + i)) → (F1 = sh_ (flatK (mkp_ M)) i) → (i ≤ 287) → 287 - i < fu_12 → ∀ (H : Heap) (locs : List Loc), va_P D vwCl (mWr cI r B M F1) H → va_D A (mWr cI r B M F1) → va_S A s.heap H locs → ∀ ls : Array Slot, lv_has ls 2 [(1, .int x1_12), (0, .ref (r 0))] → W p l e (jR 2) s m ([.ref (r 0)] : List Value).toArray below meth c H locs 0 0 (MQ below (va_Qv (S := MT) (fun u => u = kb_ M B) (fun u t => va_P D vwCl ((fun u => mW cI r B u) u) t.heap) A) ([.ref (r 0)] : List Value).toArray s 0 0 A) (F0 m 12 ls []) := by
      intro fu_12
      induction fu_12 with
      | zero => intro i x1_12 F1 hx1_12 hF1 hi hfu; exact absurd hfu (Nat.not_lt_zero _)
      | succ fu_12 ih_12 =>
        intro i x1_12 F1 hx1_12 hF1 hi hfu_12 H locs hP hD hS ls hl
        subst x1_12
        subst F1
        replace hl : lv_has ls 2 [(1, .int (nI (123 + i))), (0, .ref (r 0))] := hl
        replace hP : va_P D vwCl (mWr cI r B M (sh_ (flatK (mkp_ M)) i)) H := hP
        refine lv_iload_n hx hb dX5_keepsBack_12 rfl (lv_at hl 0 rfl) ?_
        refine lv_sipush (v := 410) hx hb dX5_keepsBack_13 (by decide) ?_
        refine lv_icmp_ge (tgt := 40) hx hb dX5_keepsBack_16 (by decide) (fun c_16 => ?_) (fun c_16 => ?_)
        · replace c_16 : nI 410 ≤ nI (123 + i) := c_16
          rw [jle (by omega) (by omega)] at c_16
          have e9 : i = 287 := by omega
          subst e9
          replace hP : va_P D vwCl (mWr cI r B M (sh_ (flatK (mkp_ M)) 287)) H := hP
          replace hP := va_P.cong (g := flatK (shK_ (mkp_ M))) hP 11 rfl (fun j _ => sh_K (mkp_ M) j)
          replace hP : va_P D vwCl ([(r 0, .inr (5, [.ref (r 1), .ref (r 2), .ref (r 3), .ref (r 4), .ref (r 5), .ref (r 6), .int (nI (sn_ B)), .int (qt_ B), .int (il_ B), .int (pa_ B), .int (ho_ B), .int (dy_ B), .ref (r 13), .ref (r 14), .ref (r 15), .ref (r 16), .int (nI (mtn_ M)), .int (nI (mrd_ M)), .int (nI (msm_ M)), .ref (r 20), .int (mhi_ M), .int (mik_ M), .int (nI (mcu_ M)), .int (nI (mbk_ M)), .ref (r 25), .ref (r 26), .int (mlw_ M), .int (mhg_ M), .int (msl_ M), .ref (r 30), .int (nI (mrm_ M)), .ref (r 32), .int (mlo_ M)])), (r 1, .inl (cI, 7, .inl (mrf_ M))), (r 2, .inl (cI, 7, .inl (kd_ B))), (r 3, .inl (cI, 7, .inl (fg_ B))), (r 4, .inl (cI, 7, .inl (pl_ B))), (r 5, .inl (cI, 7, .inl (pw_ B))), (r 6, .inl (cI, 7, .inl (jy_ B))), (r 13, .inl (cI, 96, .inl (mtp_ M))), (r 14, .inl (cI, 48, .inl (mlt_ M))), (r 15, .inl (cI, 48, .inl (mla_ M))), (r 16, .inl (cI, 144, .inl (mtd_ M))), (r 20, .inl (cI, 451, .inl (flatK (shK_ (mkp_ M))))), (r 25, .inl (cI, 7, .inl (mof_ M))), (r 26, .inl (cI, 7, .inl (mfa_ M))), (r 30, .inl (cI, 12, .inl (mrw_ M))), (r 32, .inl (cI, 8, .inl (mhb_ M)))]) H := hP
          refine lv_aload_n hx hb dX5_keepsBack_40 rfl (lv_at hl 1 rfl) ?_
          refine lv_dup hx hb dX5_keepsBack_41 rfl ?_
          refine va_get (ci := 5) (C := RX5) (T := TX5) (N := 33) hx hb hts hinX5 hown hK.1 hP 0 rfl rfl 23 (by decide) (hts _ (List.mem_of_getElem? (i := 1) rfl)) (fun _ h9 => h9) rfl dX5_keepsBack_42 ?_
          refine lv_iconst (v := 1) hx hb dX5_keepsBack_45 (by decide) ?_
          refine lv_isub hx hb dX5_keepsBack_46 ?_
          refine sti (x := (nI (mbk_ M)) - 1) (y := nI 7) (by rw [c_6]; rfl) ?_
          refine va_put (ci := 5) (ty := .int) (C := RX5) (T := TX5) (N := 33) hx hb hts hinX5 tyX5 tyX5_ok nmX5 hown hK.1 hP (va_D.adr hD0 (mW_adE rfl)) hS 0 rfl rfl 23 (by decide) (hts _ (List.mem_of_getElem? (i := 1) rfl)) (fun _ h9 => h9) rfl (by decide +kernel) (rfl) (rfl) (Nat.le_of_ble_eq_true rfl) dX5_keepsBack_47 (fun H locs hP hD hS => ?_)
          replace hP : va_P D vwCl ([(r 0, .inr (5, [.ref (r 1), .ref (r 2), .ref (r 3), .ref (r 4), .ref (r 5), .ref (r 6), .int (nI (sn_ B)), .int (qt_ B), .int (il_ B), .int (pa_ B), .int (ho_ B), .int (dy_ B), .ref (r 13), .ref (r 14), .ref (r 15), .ref (r 16), .int (nI (mtn_ M)), .int (nI (mrd_ M)), .int (nI (msm_ M)), .ref (r 20), .int (mhi_ M), .int (mik_ M), .int (nI (mcu_ M)), .int (nI 7), .ref (r 25), .ref (r 26), .int (mlw_ M), .int (mhg_ M), .int (msl_ M), .ref (r 30), .int (nI (mrm_ M)), .ref (r 32), .int (mlo_ M)])), (r 1, .inl (cI, 7, .inl (mrf_ M))), (r 2, .inl (cI, 7, .inl (kd_ B))), (r 3, .inl (cI, 7, .inl (fg_ B))), (r 4, .inl (cI, 7, .inl (pl_ B))), (r 5, .inl (cI, 7, .inl (pw_ B))), (r 6, .inl (cI, 7, .inl (jy_ B))), (r 13, .inl (cI, 96, .inl (mtp_ M))), (r 14, .inl (cI, 48, .inl (mlt_ M))), (r 15, .inl (cI, 48, .inl (mla_ M))), (r 16, .inl (cI, 144, .inl (mtd_ M))), (r 20, .inl (cI, 451, .inl (flatK (shK_ (mkp_ M))))), (r 25, .inl (cI, 7, .inl (mof_ M))), (r 26, .inl (cI, 7, .inl (mfa_ M))), (r 30, .inl (cI, 12, .inl (mrw_ M))), (r 32, .inl (cI, 8, .inl (mhb_ M)))]) H := hP
          refine lv_aload_n hx hb dX5_keepsBack_50 rfl (lv_at hl 1 rfl) ?_
          refine lv_iconst (v := 3) hx hb dX5_keepsBack_51 (by decide) ?_
          refine lv_aload_n hx hb dX5_keepsBack_52 rfl (lv_at hl 1 rfl) ?_
          refine va_get (ci := 5) (C := RX5) (T := TX5) (N := 33) hx hb hts hinX5 hown hK.1 hP 0 rfl rfl 23 (by decide) (hts _ (List.mem_of_getElem? (i := 1) rfl)) (fun _ h9 => h9) rfl dX5_keepsBack_53 ?_
          refine lv_iadd hx hb dX5_keepsBack_56 ?_
          refine sti (x := 3 + (nI 7)) (y := nI (3 + 7)) (nI_add 3 _) ?_
          refine lv_iconst (v := 1) hx hb dX5_keepsBack_57 (by decide) ?_
          refine kMvV hx hb hml hown hts hK hP (va_D.adr hD0 (mW_adE rfl)) hA hS gX5_keepsBack_X5_passesAll okX5_passesAll (qX5_passesAllK l D cI cB r B (mkM (mrf_ M) (mtp_ M) (mlt_ M) (mla_ M) (mtd_ M) (shK_ (mkp_ M)) (mof_ M) (mfa_ M) (mrw_ M) (mhb_ M) (mtn_ M) (mrd_ M) (msm_ M) (mcu_ M) 7 (mrm_ M) (mhi_ M) (mik_ M) (mlw_ M) (mhg_ M) (msl_ M) (mlo_ M)) (3 + 7) (by omega)) [0, 1, 2, 3, 4, 5, 6, 7, 8, 9, 10, 11, 12, 13, 14, 15] rfl (by decide) (fun _ => mW_adr _ _ _ _ _ _) rfl rfl rfl (by decide) hl.1 rfl rfl (Nat.le_of_ble_eq_true rfl) dX5_keepsBack_58 (by decide) (fun u_5 H locs hw_6 hP hD hS => ?_)
          replace hP : va_P D vwCl ([(r 0, .inr (5, [.ref (r 1), .ref (r 2), .ref (r 3), .ref (r 4), .ref (r 5), .ref (r 6), .int (nI (sn_ B)), .int (qt_ B), .int (il_ B), .int (pa_ B), .int (ho_ B), .int (dy_ B), .ref (r 13), .ref (r 14), .ref (r 15), .ref (r 16), .int (nI (mtn_ M)), .int (nI (mrd_ M)), .int (nI (msm_ M)), .ref (r 20), .int ((mhi_ M)), .int (1), .int (nI (41 * (3 + 7) + 41)), .int (nI 7), .ref (r 25), .ref (r 26), .int ((mlw_ M)), .int ((mhg_ M)), .int ((msl_ M)), .ref (r 30), .int (nI (mrm_ M)), .ref (r 32), .int ((mlo_ M))])), (r 1, .inl (cI, 7, .inl (mrf_ M))), (r 2, .inl (cI, 7, .inl (kd_ B))), (r 3, .inl (cI, 7, .inl (fg_ B))), (r 4, .inl (cI, 7, .inl (pl_ B))), (r 5, .inl (cI, 7, .inl (pw_ B))), (r 6, .inl (cI, 7, .inl (jy_ B))), (r 13, .inl (cI, 96, .inl (mtp_ M))), (r 14, .inl (cI, 48, .inl (mlt_ M))), (r 15, .inl (cI, 48, .inl (mla_ M))), (r 16, .inl (cI, 144, .inl (mtd_ M))), (r 20, .inl (cI, 451, .inl (flatK (va_up (shK_ (mkp_ M)) (3 + 7) B)))), (r 25, .inl (cI, 7, .inl (mof_ M))), (r 26, .inl (cI, 7, .inl (mfa_ M))), (r 30, .inl (cI, 12, .inl (mrw_ M))), (r 32, .inl (cI, 8, .inl (mhb_ M)))]) H := (va_P.m [true, true, true, true, true, true, true, true, true, true, true, true, true, true, true, true] [] hP)
          refine lv_aload_n hx hb dX5_keepsBack_61 rfl (lv_at hl 1 rfl) ?_
          refine lv_dup hx hb dX5_keepsBack_62 rfl ?_
          refine va_get (ci := 5) (C := RX5) (T := TX5) (N := 33) hx hb hts hinX5 hown hK.1 hP 0 rfl rfl 23 (by decide) (hts _ (List.mem_of_getElem? (i := 1) rfl)) (fun _ h9 => h9) rfl dX5_keepsBack_63 ?_
          refine lv_iconst (v := 1) hx hb dX5_keepsBack_66 (by decide) ?_
          refine lv_iadd hx hb dX5_keepsBack_67 ?_
          refine sti (x := (nI 7) + 1) (y := nI (7 + 1)) (nI_1 _) ?_
          refine va_put (ci := 5) (ty := .int) (C := RX5) (T := TX5) (N := 33) hx hb hts hinX5 tyX5 tyX5_ok nmX5 hown hK.1 hP (va_D.adr hD0 (mW_adE rfl)) hS 0 rfl rfl 23 (by decide) (hts _ (List.mem_of_getElem? (i := 1) rfl)) (fun _ h9 => h9) rfl (by decide +kernel) (rfl) (rfl) (Nat.le_of_ble_eq_true rfl) dX5_keepsBack_68 (fun H locs hP hD hS => ?_)
          replace hP : va_P D vwCl ([(r 0, .inr (5, [.ref (r 1), .ref (r 2), .ref (r 3), .ref (r 4), .ref (r 5), .ref (r 6), .int (nI (sn_ B)), .int (qt_ B), .int (il_ B), .int (pa_ B), .int (ho_ B), .int (dy_ B), .ref (r 13), .ref (r 14), .ref (r 15), .ref (r 16), .int (nI (mtn_ M)), .int (nI (mrd_ M)), .int (nI (msm_ M)), .ref (r 20), .int ((mhi_ M)), .int (1), .int (nI (41 * (3 + 7) + 41)), .int (nI (7 + 1)), .ref (r 25), .ref (r 26), .int ((mlw_ M)), .int ((mhg_ M)), .int ((msl_ M)), .ref (r 30), .int (nI (mrm_ M)), .ref (r 32), .int ((mlo_ M))])), (r 1, .inl (cI, 7, .inl (mrf_ M))), (r 2, .inl (cI, 7, .inl (kd_ B))), (r 3, .inl (cI, 7, .inl (fg_ B))), (r 4, .inl (cI, 7, .inl (pl_ B))), (r 5, .inl (cI, 7, .inl (pw_ B))), (r 6, .inl (cI, 7, .inl (jy_ B))), (r 13, .inl (cI, 96, .inl (mtp_ M))), (r 14, .inl (cI, 48, .inl (mlt_ M))), (r 15, .inl (cI, 48, .inl (mla_ M))), (r 16, .inl (cI, 144, .inl (mtd_ M))), (r 20, .inl (cI, 451, .inl (flatK (va_up (shK_ (mkp_ M)) (3 + 7) B)))), (r 25, .inl (cI, 7, .inl (mof_ M))), (r 26, .inl (cI, 7, .inl (mfa_ M))), (r 30, .inl (cI, 12, .inl (mrw_ M))), (r 32, .inl (cI, 8, .inl (mhb_ M)))]) H := hP
          refine rMv hx hb hr hlk hS (mkM (mrf_ M) (mtp_ M) (mlt_ M) (mla_ M) (mtd_ M) (va_up (shK_ (mkp_ M)) (3 + 7) B) (mof_ M) (mfa_ M) (mrw_ M) (mhb_ M) (mtn_ M) (mrd_ M) (msm_ M) (41 * (3 + 7) + 41) (7 + 1) (mrm_ M) (mhi_ M) 1 (mlw_ M) (mhg_ M) (msl_ M) (mlo_ M)) hP ?_ dX5_keepsBack_71
          first | exact kb_8 c_6 | exact kb_n (by omega)
        · replace c_16 : ¬ nI 410 ≤ nI (123 + i) := c_16
          rw [jle (by omega) (by omega)] at c_16
          refine lv_aload_n hx hb dX5_keepsBack_19 rfl (lv_at hl 1 rfl) ?_
          refine va_get (ci := 5) (C := RX5) (T := TX5) (N := 33) hx hb hts hinX5 hown hK.1 hP 0 rfl rfl 19 (by decide) (hts _ (List.mem_of_getElem? (i := 2) rfl)) (fun _ h9 => h9) rfl dX5_keepsBack_20 ?_
          refine lv_iload_n hx hb dX5_keepsBack_23 rfl (lv_at hl 0 rfl) ?_
          refine lv_aload_n hx hb dX5_keepsBack_24 rfl (lv_at hl 1 rfl) ?_
          refine va_get (ci := 5) (C := RX5) (T := TX5) (N := 33) hx hb hts hinX5 hown hK.1 hP 0 rfl rfl 19 (by decide) (hts _ (List.mem_of_getElem? (i := 2) rfl)) (fun _ h9 => h9) rfl dX5_keepsBack_25 ?_
          refine lv_iload_n hx hb dX5_keepsBack_28 rfl (lv_at hl 0 rfl) ?_
          refine lv_bipush (v := 41) hx hb dX5_keepsBack_29 (by decide) ?_
          refine lv_iadd hx hb dX5_keepsBack_31 ?_
          refine jald hx hb hK.1 hP 11 0 (123 + i + 41) rfl rfl (by exact nI_add _ 41) (by omega) (Nat.le_of_ble_eq_true rfl) dX5_keepsBack_32 ?_
          refine jast hx hb hK.1 hP (va_D.adr hD0 (mW_adE rfl)) hS 11 0 (123 + i) rfl rfl rfl (by omega) (Nat.le_of_ble_eq_true rfl) dX5_keepsBack_33 (fun f_7 ef_7 H locs hP hD hS => ?_)
          replace ef_7 : f_7 = upd (sh_ (flatK (mkp_ M)) i) (123 + i) ((sh_ (flatK (mkp_ M)) i) (123 + i + 41)) := ef_7
          replace hP : va_P D vwCl (mWr cI r B M f_7) H := hP
          refine lv_iinc (v := (nI (123 + i)) + 1) (lv' := [(1, .int ((nI (123 + i)) + 1)), (0, .ref (r 0))]) hx hb dX5_keepsBack_34 hl (k := 0) rfl (by first | rfl | decide) (by decide) rfl (fun ls hl => ?_)
          refine lv_goto (tgt := 12) hx hb dX5_keepsBack_37 (by decide) ?_
          (try rw [ef_7] at hP); (try rw [ef_7] at hD); (try rw [ef_7] at hl); (try rw [ef_7] at c_16); (try rw [ef_7])
          exact ih_12 (i + 1) ((nI (123 + i)) + 1) (upd (sh_ (flatK (mkp_ M)) i) (123 + i) ((sh_ (flatK (mkp_ M)) i) (123 + i + 41))) (nI_1 _) (sh_sk _ _ (by omega)) (by omega) (by omega) _ _ hP (va_D.adr hD0 (mW_adE rfl)) hS ls (lv_sub hl [0, 1] rfl)
    exact lp_12 (287 + 1) 0 123 (flatK (mkp_ M)) (rfl) (sh_0k _) (by omega) (by omega) _ _ hP (va_D.adr hD0 (mW_adE rfl)) hS ls (lv_sub hl [0, 1] rfl)

