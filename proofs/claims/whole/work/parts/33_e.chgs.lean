theorem okX5_statement : jok yX5_statement wsX5_statement cX5_statement 2 (some .boolean) 0 := ⟨⟨_, rfl⟩, by decide +kernel, by decide +kernel⟩
set_option maxHeartbeats 2000000 in
set_option maxRecDepth 100000 in
theorem qX5_statement (l : Launch) (D : va_G) (cI cB : ClassId) (r : Nat → Nat) (B : BayT) (M : MT) (htn : mtn_ M ≤ 96) (hr1 : mrd_ M ≤ 96) (hsm : msm_ M ≤ 40) : jMi D cI cB l yX5_statement wsX5_statement 3 [.ref (r 0)] (mW cI r B M) (S := (Nat → Int32) × (Nat → Int32) × (Nat → Int32) × Nat) (fun r u => r = b1 (sr_ (mtp_ M) (mtn_ M) (mrd_ M) = none) ∧ u.2.2.2 = rdv_ (sr_ (mtp_ M) (mtn_ M) (mrd_ M)) (mrd_ M + (db_ (la_ (mtp_ M) (mtn_ M) (mrd_ M)) + 1) + 1) ∧ (∀ j, j < msm_ M → u.1 j = mlt_ M j ∧ u.2.1 j = mla_ M j) ∧ (∀ j, j < 3 * msm_ M → u.2.2.1 j = mtd_ M j) ∧ (sr_ (mtp_ M) (mtn_ M) (mrd_ M) = none → u.1 (msm_ M) = la_ (mtp_ M) (mtn_ M) (mrd_ M) ∧ u.2.1 (msm_ M) = nI (mrd_ M) ∧ okT_ (mtp_ M) (mtn_ M) (mrd_ M + 1) (la_ (mtp_ M) (mtn_ M) (mrd_ M)) u.2.2.1 (3 * msm_ M))) (fun u => mW cI r B (wst_ M u.1 u.2.1 u.2.2.1 u.2.2.2)) := by
  refine jMi.of (cc := cX5_statement) (maxL := 2) (ret := (some .boolean)) okX5_statement (Nat.le_of_ble_eq_true rfl) ?_
  intro p e s m below meth c ls A hx hb hr hts hown hlk hml hP hK hD hA hS hl
  replace hown : s.vm.findClass RX5 = some m.cls := hown
  replace hl : lv_has ls 2 [(0, .ref (r 0))] := hl
  have hD0 := hD
  have h4 := db_4 (la_ (mtp_ M) (mtn_ M) (mrd_ M))
  have hinX5 : ∀ w ∈ wsX50, w ∈ wsX5_statement := by decide +kernel
  refine lv_aload_n hx hb dX5_statement_0 rfl (lv_at hl 0 rfl) ?_
  refine kSiV hx hb hml hown hts hK hP gX5_statement_X5_next okX5_next (qX5_next l D cI cB r B M (by show mtn_ M ≤ 96; exact htn) (by show mrd_ M ≤ 200; omega)) [0, 1, 2, 3, 4, 5, 6, 7, 8, 9, 10, 11, 12, 13, 14, 15] rfl rfl rfl rfl (by decide) hl.1 rfl rfl (Nat.le_of_ble_eq_true rfl) dX5_statement_1 (by decide) (fun r_1 hr_2 => ?_)
  replace hr_2 : r_1 = la_ (mtp_ M) (mtn_ M) (mrd_ M) := hr_2
  subst r_1
  refine lv_istore_n (lv' := [(1, .int (la_ (mtp_ M) (mtn_ M) (mrd_ M))), (0, .ref (r 0))]) hx hb dX5_statement_4 rfl hl (by decide) rfl (fun ls hl => ?_)
  have jn_43 : (la_ (mtp_ M) (mtn_ M) (mrd_ M) = 115 ∨ la_ (mtp_ M) (mtn_ M) (mrd_ M) = 112 ∨ la_ (mtp_ M) (mtn_ M) (mrd_ M) = 113 ∨ la_ (mtp_ M) (mtn_ M) (mrd_ M) = 105 ∨ la_ (mtp_ M) (mtn_ M) (mrd_ M) = 118 ∨ la_ (mtp_ M) (mtn_ M) (mrd_ M) = 104) → ∀ (H : Heap) (locs : List Loc), va_P D vwCl (mW cI r B M) H → va_D A (mW cI r B M) → va_S A s.heap H locs → ∀ ls : Array Slot, lv_has ls 2 [(1, .int (la_ (mtp_ M) (mtn_ M) (mrd_ M))), (0, .ref (r 0))] → W p l e (jR 3) s m ([.ref (r 0)] : List Value).toArray below meth c H locs 0 0 (MQ below (va_Qi (S := (Nat → Int32) × (Nat → Int32) × (Nat → Int32) × Nat) (fun r u => r = b1 (sr_ (mtp_ M) (mtn_ M) (mrd_ M) = none) ∧ u.2.2.2 = rdv_ (sr_ (mtp_ M) (mtn_ M) (mrd_ M)) (mrd_ M + (db_ (la_ (mtp_ M) (mtn_ M) (mrd_ M)) + 1) + 1) ∧ (∀ j, j < msm_ M → u.1 j = mlt_ M j ∧ u.2.1 j = mla_ M j) ∧ (∀ j, j < 3 * msm_ M → u.2.2.1 j = mtd_ M j) ∧ (sr_ (mtp_ M) (mtn_ M) (mrd_ M) = none → u.1 (msm_ M) = la_ (mtp_ M) (mtn_ M) (mrd_ M) ∧ u.2.1 (msm_ M) = nI (mrd_ M) ∧ okT_ (mtp_ M) (mtn_ M) (mrd_ M + 1) (la_ (mtp_ M) (mtn_ M) (mrd_ M)) u.2.2.1 (3 * msm_ M))) (fun u t => va_P D vwCl ((fun u => mW cI r B (wst_ M u.1 u.2.1 u.2.2.1 u.2.2.2)) u) t.heap) A) ([.ref (r 0)] : List Value).toArray s 0 0 A) (F0 m 43 ls []) := by
      intro hb6 H locs hP hD hS ls hl
      replace hl : lv_has ls 2 [(1, .int (la_ (mtp_ M) (mtn_ M) (mrd_ M))), (0, .ref (r 0))] := hl
      replace hP : va_P D vwCl (mW cI r B M) H := hP
      refine lv_aload_n hx hb dX5_statement_43 rfl (lv_at hl 1 rfl) ?_
      refine va_get (ci := 5) (C := RX5) (T := TX5) (N := 33) hx hb hts hinX5 hown hK.1 hP 0 rfl rfl 13 (by decide) (hts _ (List.mem_of_getElem? (i := 1) rfl)) (fun _ h9 => h9) rfl dX5_statement_44 ?_
      refine lv_aload_n hx hb dX5_statement_47 rfl (lv_at hl 1 rfl) ?_
      refine va_get (ci := 5) (C := RX5) (T := TX5) (N := 33) hx hb hts hinX5 hown hK.1 hP 0 rfl rfl 18 (by decide) (hts _ (List.mem_of_getElem? (i := 2) rfl)) (fun _ h9 => h9) rfl dX5_statement_48 ?_
      refine lv_iload_n hx hb dX5_statement_51 rfl (lv_at hl 0 rfl) ?_
      refine jast hx hb hK.1 hP (va_D.adr hD0 (mW_adE rfl)) hS 8 0 (msm_ M) rfl rfl rfl (by omega) (Nat.le_of_ble_eq_true rfl) dX5_statement_52 (fun f_3 ef_3 H locs hP hD hS => ?_)
      replace ef_3 : f_3 = upd (mlt_ M) (msm_ M) (la_ (mtp_ M) (mtn_ M) (mrd_ M)) := ef_3
      replace hP : va_P D vwCl ([(r 0, .inr (5, [.ref (r 1), .ref (r 2), .ref (r 3), .ref (r 4), .ref (r 5), .ref (r 6), .int (nI (sn_ B)), .int (qt_ B), .int (il_ B), .int (pa_ B), .int (ho_ B), .int (dy_ B), .ref (r 13), .ref (r 14), .ref (r 15), .ref (r 16), .int (nI (mtn_ M)), .int (nI (mrd_ M)), .int (nI (msm_ M)), .ref (r 20), .int (mhi_ M), .int (mik_ M), .int (nI (mcu_ M)), .int (nI (mbk_ M)), .ref (r 25), .ref (r 26), .int (mlw_ M), .int (mhg_ M), .int (msl_ M), .ref (r 30), .int (nI (mrm_ M)), .ref (r 32), .int (mlo_ M)])), (r 1, .inl (cI, 7, .inl (mrf_ M))), (r 2, .inl (cI, 7, .inl (kd_ B))), (r 3, .inl (cI, 7, .inl (fg_ B))), (r 4, .inl (cI, 7, .inl (pl_ B))), (r 5, .inl (cI, 7, .inl (pw_ B))), (r 6, .inl (cI, 7, .inl (jy_ B))), (r 13, .inl (cI, 96, .inl (mtp_ M))), (r 14, .inl (cI, 48, .inl f_3)), (r 15, .inl (cI, 48, .inl (mla_ M))), (r 16, .inl (cI, 144, .inl (mtd_ M))), (r 20, .inl (cI, 451, .inl (flatK (mkp_ M)))), (r 25, .inl (cI, 7, .inl (mof_ M))), (r 26, .inl (cI, 7, .inl (mfa_ M))), (r 30, .inl (cI, 12, .inl (mrw_ M))), (r 32, .inl (cI, 8, .inl (mhb_ M)))]) H := hP
      refine lv_aload_n hx hb dX5_statement_53 rfl (lv_at hl 1 rfl) ?_
      refine va_get (ci := 5) (C := RX5) (T := TX5) (N := 33) hx hb hts hinX5 hown hK.1 hP 0 rfl rfl 14 (by decide) (hts _ (List.mem_of_getElem? (i := 3) rfl)) (fun _ h9 => h9) rfl dX5_statement_54 ?_
      refine lv_aload_n hx hb dX5_statement_57 rfl (lv_at hl 1 rfl) ?_
      refine va_get (ci := 5) (C := RX5) (T := TX5) (N := 33) hx hb hts hinX5 hown hK.1 hP 0 rfl rfl 18 (by decide) (hts _ (List.mem_of_getElem? (i := 2) rfl)) (fun _ h9 => h9) rfl dX5_statement_58 ?_
      refine lv_aload_n hx hb dX5_statement_61 rfl (lv_at hl 1 rfl) ?_
      refine va_get (ci := 5) (C := RX5) (T := TX5) (N := 33) hx hb hts hinX5 hown hK.1 hP 0 rfl rfl 17 (by decide) (hts _ (List.mem_of_getElem? (i := 4) rfl)) (fun _ h9 => h9) rfl dX5_statement_62 ?_
      refine jast hx hb hK.1 hP (va_D.adr hD0 (mW_adE rfl)) hS 9 0 (msm_ M) rfl rfl rfl (by omega) (Nat.le_of_ble_eq_true rfl) dX5_statement_65 (fun f_4 ef_4 H locs hP hD hS => ?_)
      replace ef_4 : f_4 = upd (mla_ M) (msm_ M) (nI (mrd_ M)) := ef_4
      replace hP : va_P D vwCl ([(r 0, .inr (5, [.ref (r 1), .ref (r 2), .ref (r 3), .ref (r 4), .ref (r 5), .ref (r 6), .int (nI (sn_ B)), .int (qt_ B), .int (il_ B), .int (pa_ B), .int (ho_ B), .int (dy_ B), .ref (r 13), .ref (r 14), .ref (r 15), .ref (r 16), .int (nI (mtn_ M)), .int (nI (mrd_ M)), .int (nI (msm_ M)), .ref (r 20), .int (mhi_ M), .int (mik_ M), .int (nI (mcu_ M)), .int (nI (mbk_ M)), .ref (r 25), .ref (r 26), .int (mlw_ M), .int (mhg_ M), .int (msl_ M), .ref (r 30), .int (nI (mrm_ M)), .ref (r 32), .int (mlo_ M)])), (r 1, .inl (cI, 7, .inl (mrf_ M))), (r 2, .inl (cI, 7, .inl (kd_ B))), (r 3, .inl (cI, 7, .inl (fg_ B))), (r 4, .inl (cI, 7, .inl (pl_ B))), (r 5, .inl (cI, 7, .inl (pw_ B))), (r 6, .inl (cI, 7, .inl (jy_ B))), (r 13, .inl (cI, 96, .inl (mtp_ M))), (r 14, .inl (cI, 48, .inl f_3)), (r 15, .inl (cI, 48, .inl f_4)), (r 16, .inl (cI, 144, .inl (mtd_ M))), (r 20, .inl (cI, 451, .inl (flatK (mkp_ M)))), (r 25, .inl (cI, 7, .inl (mof_ M))), (r 26, .inl (cI, 7, .inl (mfa_ M))), (r 30, .inl (cI, 12, .inl (mrw_ M))), (r 32, .inl (cI, 8, .inl (mhb_ M)))]) H := hP
      refine lv_aload_n hx hb dX5_statement_66 rfl (lv_at hl 1 rfl) ?_
      refine lv_dup hx hb dX5_statement_67 rfl ?_
      refine va_get (ci := 5) (C := RX5) (T := TX5) (N := 33) hx hb hts hinX5 hown hK.1 hP 0 rfl rfl 17 (by decide) (hts _ (List.mem_of_getElem? (i := 4) rfl)) (fun _ h9 => h9) rfl dX5_statement_68 ?_
      refine lv_iconst (v := 1) hx hb dX5_statement_71 (by decide) ?_
      refine lv_iadd hx hb dX5_statement_72 ?_
      refine sti (x := (nI (mrd_ M)) + 1) (y := nI (mrd_ M + 1)) (nI_1 _) ?_
      refine va_put (ci := 5) (ty := .int) (C := RX5) (T := TX5) (N := 33) hx hb hts hinX5 tyX5 tyX5_ok nmX5 hown hK.1 hP (va_D.adr hD0 (mW_adE rfl)) hS 0 rfl rfl 17 (by decide) (hts _ (List.mem_of_getElem? (i := 4) rfl)) (fun _ h9 => h9) rfl (by decide +kernel) (rfl) (rfl) (Nat.le_of_ble_eq_true rfl) dX5_statement_73 (fun H locs hP hD hS => ?_)
      replace hP : va_P D vwCl ([(r 0, .inr (5, [.ref (r 1), .ref (r 2), .ref (r 3), .ref (r 4), .ref (r 5), .ref (r 6), .int (nI (sn_ B)), .int (qt_ B), .int (il_ B), .int (pa_ B), .int (ho_ B), .int (dy_ B), .ref (r 13), .ref (r 14), .ref (r 15), .ref (r 16), .int (nI (mtn_ M)), .int (nI (mrd_ M + 1)), .int (nI (msm_ M)), .ref (r 20), .int (mhi_ M), .int (mik_ M), .int (nI (mcu_ M)), .int (nI (mbk_ M)), .ref (r 25), .ref (r 26), .int (mlw_ M), .int (mhg_ M), .int (msl_ M), .ref (r 30), .int (nI (mrm_ M)), .ref (r 32), .int (mlo_ M)])), (r 1, .inl (cI, 7, .inl (mrf_ M))), (r 2, .inl (cI, 7, .inl (kd_ B))), (r 3, .inl (cI, 7, .inl (fg_ B))), (r 4, .inl (cI, 7, .inl (pl_ B))), (r 5, .inl (cI, 7, .inl (pw_ B))), (r 6, .inl (cI, 7, .inl (jy_ B))), (r 13, .inl (cI, 96, .inl (mtp_ M))), (r 14, .inl (cI, 48, .inl f_3)), (r 15, .inl (cI, 48, .inl f_4)), (r 16, .inl (cI, 144, .inl (mtd_ M))), (r 20, .inl (cI, 451, .inl (flatK (mkp_ M)))), (r 25, .inl (cI, 7, .inl (mof_ M))), (r 26, .inl (cI, 7, .inl (mfa_ M))), (r 30, .inl (cI, 12, .inl (mrw_ M))), (r 32, .inl (cI, 8, .inl (mhb_ M)))]) H := hP
      have hnz := db_nz hb6
      (try rw [ef_4] at hP); (try rw [ef_4] at hD); (try rw [ef_4] at hl); (try rw [ef_4])
      (try rw [ef_3] at hP); (try rw [ef_3] at hD); (try rw [ef_3] at hl); (try rw [ef_3])
      replace hP : va_P D vwCl ([(r 0, .inr (5, [.ref (r 1), .ref (r 2), .ref (r 3), .ref (r 4), .ref (r 5), .ref (r 6), .int (nI (sn_ B)), .int (qt_ B), .int (il_ B), .int (pa_ B), .int (ho_ B), .int (dy_ B), .ref (r 13), .ref (r 14), .ref (r 15), .ref (r 16), .int (nI (mtn_ M)), .int (nI (mrd_ M + 1)), .int (nI (msm_ M)), .ref (r 20), .int (mhi_ M), .int (mik_ M), .int (nI (mcu_ M)), .int (nI (mbk_ M)), .ref (r 25), .ref (r 26), .int (mlw_ M), .int (mhg_ M), .int (msl_ M), .ref (r 30), .int (nI (mrm_ M)), .ref (r 32), .int (mlo_ M)])), (r 1, .inl (cI, 7, .inl (mrf_ M))), (r 2, .inl (cI, 7, .inl (kd_ B))), (r 3, .inl (cI, 7, .inl (fg_ B))), (r 4, .inl (cI, 7, .inl (pl_ B))), (r 5, .inl (cI, 7, .inl (pw_ B))), (r 6, .inl (cI, 7, .inl (jy_ B))), (r 13, .inl (cI, 96, .inl (mtp_ M))), (r 14, .inl (cI, 48, .inl (upd (mlt_ M) (msm_ M) (la_ (mtp_ M) (mtn_ M) (mrd_ M))))), (r 15, .inl (cI, 48, .inl (upd (mla_ M) (msm_ M) (nI (mrd_ M))))), (r 16, .inl (cI, 144, .inl (mtd_ M))), (r 20, .inl (cI, 451, .inl (flatK (mkp_ M)))), (r 25, .inl (cI, 7, .inl (mof_ M))), (r 26, .inl (cI, 7, .inl (mfa_ M))), (r 30, .inl (cI, 12, .inl (mrw_ M))), (r 32, .inl (cI, 8, .inl (mhb_ M)))]) H := hP
      refine lv_aload_n hx hb dX5_statement_76 rfl (lv_at hl 1 rfl) ?_
      refine lv_iload_n hx hb dX5_statement_77 rfl (lv_at hl 0 rfl) ?_
      refine lv_iconst (v := 3) hx hb dX5_statement_78 (by decide) ?_
      refine lv_aload_n hx hb dX5_statement_79 rfl (lv_at hl 1 rfl) ?_
      refine va_get (ci := 5) (C := RX5) (T := TX5) (N := 33) hx hb hts hinX5 hown hK.1 hP 0 rfl rfl 18 (by decide) (hts _ (List.mem_of_getElem? (i := 2) rfl)) (fun _ h9 => h9) rfl dX5_statement_80 ?_
      refine lv_imul hx hb dX5_statement_83 ?_
      refine sti (x := 3 * (nI (msm_ M))) (y := nI (3 * msm_ M)) (pk_mul 3 _) ?_
      refine kMiV hx hb hml hown hts hK hP (va_D.adr hD0 (mW_adE rfl)) hA hS gX5_statement_X5_readsAll okX5_readsAll (qX5_readsAll l D cI cB r B (mkM (mrf_ M) (mtp_ M) (upd (mlt_ M) (msm_ M) (la_ (mtp_ M) (mtn_ M) (mrd_ M))) (upd (mla_ M) (msm_ M) (nI (mrd_ M))) (mtd_ M) (mkp_ M) (mof_ M) (mfa_ M) (mrw_ M) (mhb_ M) (mtn_ M) (mrd_ M + 1) (msm_ M) (mcu_ M) (mbk_ M) (mrm_ M) (mhi_ M) (mik_ M) (mlw_ M) (mhg_ M) (msl_ M) (mlo_ M)) (la_ (mtp_ M) (mtn_ M) (mrd_ M)) (3 * msm_ M) hb6 (by omega) (by exact htn) (by show mrd_ M + 1 ≤ 99; omega)) [0, 1, 2, 3, 4, 5, 6, 7, 8, 9, 10, 11, 12, 13, 14, 15] rfl (by decide) (fun _ => mW_adr _ _ _ _ _ _) rfl rfl rfl (by decide) hl.1 rfl rfl (Nat.le_of_ble_eq_true rfl) dX5_statement_84 (by decide) (fun r_5 u_6 H locs hw_7 hP hD hS => ?_)
      obtain ⟨td_8, rd_9⟩ := u_6
      replace hw_7 : r_5 = b1 (dg_ (mtp_ M) (mtn_ M) (db_ (la_ (mtp_ M) (mtn_ M) (mrd_ M))) (mrd_ M + 1) = none) ∧ rd_9 = rdv_ (dg_ (mtp_ M) (mtn_ M) (db_ (la_ (mtp_ M) (mtn_ M) (mrd_ M))) (mrd_ M + 1)) ((mrd_ M + 1) + db_ (la_ (mtp_ M) (mtn_ M) (mrd_ M))) ∧ (∀ j, j < (3 * msm_ M) → td_8 j = (mtd_ M) j) ∧ (dg_ (mtp_ M) (mtn_ M) (db_ (la_ (mtp_ M) (mtn_ M) (mrd_ M))) (mrd_ M + 1) = none → okT_ (mtp_ M) (mtn_ M) (mrd_ M + 1) (la_ (mtp_ M) (mtn_ M) (mrd_ M)) td_8 (3 * msm_ M)) := hw_7
      obtain ⟨hw_7a, hw_7b, hw_7c, hw_7d⟩ := hw_7
      subst r_5
      replace hP : va_P D vwCl ([(r 0, .inr (5, [.ref (r 1), .ref (r 2), .ref (r 3), .ref (r 4), .ref (r 5), .ref (r 6), .int (nI (sn_ B)), .int (qt_ B), .int (il_ B), .int (pa_ B), .int (ho_ B), .int (dy_ B), .ref (r 13), .ref (r 14), .ref (r 15), .ref (r 16), .int (nI (mtn_ M)), .int (nI rd_9), .int (nI (msm_ M)), .ref (r 20), .int (mhi_ M), .int (mik_ M), .int (nI (mcu_ M)), .int (nI (mbk_ M)), .ref (r 25), .ref (r 26), .int (mlw_ M), .int (mhg_ M), .int (msl_ M), .ref (r 30), .int (nI (mrm_ M)), .ref (r 32), .int (mlo_ M)])), (r 1, .inl (cI, 7, .inl (mrf_ M))), (r 2, .inl (cI, 7, .inl (kd_ B))), (r 3, .inl (cI, 7, .inl (fg_ B))), (r 4, .inl (cI, 7, .inl (pl_ B))), (r 5, .inl (cI, 7, .inl (pw_ B))), (r 6, .inl (cI, 7, .inl (jy_ B))), (r 13, .inl (cI, 96, .inl (mtp_ M))), (r 14, .inl (cI, 48, .inl (upd (mlt_ M) (msm_ M) (la_ (mtp_ M) (mtn_ M) (mrd_ M))))), (r 15, .inl (cI, 48, .inl (upd (mla_ M) (msm_ M) (nI (mrd_ M))))), (r 16, .inl (cI, 144, .inl td_8)), (r 20, .inl (cI, 451, .inl (flatK (mkp_ M)))), (r 25, .inl (cI, 7, .inl (mof_ M))), (r 26, .inl (cI, 7, .inl (mfa_ M))), (r 30, .inl (cI, 12, .inl (mrw_ M))), (r 32, .inl (cI, 8, .inl (mhb_ M)))]) H := (va_P.m [true, true, true, true, true, true, true, true, true, true, true, true, true, true, true, true] [] hP)
      refine lv_if_eq (tgt := 99) hx hb dX5_statement_87 (by decide) (fun c_87 => ?_) (fun c_87 => ?_)
      · replace c_87 := b1_z c_87
        refine lv_iconst (v := 0) hx hb dX5_statement_99 (by decide) ?_
        refine rMz hx hb hr hlk hS ((upd (mlt_ M) (msm_ M) (la_ (mtp_ M) (mtn_ M) (mrd_ M))), (upd (mla_ M) (msm_ M) (nI (mrd_ M))), td_8, rd_9) hP (Or.inl rfl) ?_ dX5_statement_100
        first | exact st_f1 c_87 hnz hw_7b hw_7c | exact st_f2 c_87 hnz c_96 hw_7c
      · replace c_87 := b1_n c_87
        rw [c_87] at hw_7b
        replace hw_7b : rd_9 = mrd_ M + 1 + db_ (la_ (mtp_ M) (mtn_ M) (mrd_ M)) := hw_7b
        subst rd_9
        replace hP : va_P D vwCl ([(r 0, .inr (5, [.ref (r 1), .ref (r 2), .ref (r 3), .ref (r 4), .ref (r 5), .ref (r 6), .int (nI (sn_ B)), .int (qt_ B), .int (il_ B), .int (pa_ B), .int (ho_ B), .int (dy_ B), .ref (r 13), .ref (r 14), .ref (r 15), .ref (r 16), .int (nI (mtn_ M)), .int (nI (mrd_ M + 1 + db_ (la_ (mtp_ M) (mtn_ M) (mrd_ M)))), .int (nI (msm_ M)), .ref (r 20), .int (mhi_ M), .int (mik_ M), .int (nI (mcu_ M)), .int (nI (mbk_ M)), .ref (r 25), .ref (r 26), .int (mlw_ M), .int (mhg_ M), .int (msl_ M), .ref (r 30), .int (nI (mrm_ M)), .ref (r 32), .int (mlo_ M)])), (r 1, .inl (cI, 7, .inl (mrf_ M))), (r 2, .inl (cI, 7, .inl (kd_ B))), (r 3, .inl (cI, 7, .inl (fg_ B))), (r 4, .inl (cI, 7, .inl (pl_ B))), (r 5, .inl (cI, 7, .inl (pw_ B))), (r 6, .inl (cI, 7, .inl (jy_ B))), (r 13, .inl (cI, 96, .inl (mtp_ M))), (r 14, .inl (cI, 48, .inl (upd (mlt_ M) (msm_ M) (la_ (mtp_ M) (mtn_ M) (mrd_ M))))), (r 15, .inl (cI, 48, .inl (upd (mla_ M) (msm_ M) (nI (mrd_ M))))), (r 16, .inl (cI, 144, .inl td_8)), (r 20, .inl (cI, 451, .inl (flatK (mkp_ M)))), (r 25, .inl (cI, 7, .inl (mof_ M))), (r 26, .inl (cI, 7, .inl (mfa_ M))), (r 30, .inl (cI, 12, .inl (mrw_ M))), (r 32, .inl (cI, 8, .inl (mhb_ M)))]) H := hP
        refine lv_aload_n hx hb dX5_statement_90 rfl (lv_at hl 1 rfl) ?_
        refine kSiV hx hb hml hown hts hK hP gX5_statement_X5_next okX5_next (qX5_next l D cI cB r B (wst_ M (upd (mlt_ M) (msm_ M) (la_ (mtp_ M) (mtn_ M) (mrd_ M))) (upd (mla_ M) (msm_ M) (nI (mrd_ M))) td_8 (mrd_ M + 1 + db_ (la_ (mtp_ M) (mtn_ M) (mrd_ M)))) (by show mtn_ M ≤ 96; exact htn) (by show (mrd_ M + 1 + db_ (la_ (mtp_ M) (mtn_ M) (mrd_ M))) ≤ 200; omega)) [0, 1, 2, 3, 4, 5, 6, 7, 8, 9, 10, 11, 12, 13, 14, 15] rfl rfl rfl rfl (by decide) hl.1 rfl rfl (Nat.le_of_ble_eq_true rfl) dX5_statement_91 (by decide) (fun r_10 hr_11 => ?_)
        replace hr_11 : r_10 = la_ (mtp_ (wst_ M (upd (mlt_ M) (msm_ M) (la_ (mtp_ M) (mtn_ M) (mrd_ M))) (upd (mla_ M) (msm_ M) (nI (mrd_ M))) td_8 (mrd_ M + 1 + db_ (la_ (mtp_ M) (mtn_ M) (mrd_ M))))) (mtn_ (wst_ M (upd (mlt_ M) (msm_ M) (la_ (mtp_ M) (mtn_ M) (mrd_ M))) (upd (mla_ M) (msm_ M) (nI (mrd_ M))) td_8 (mrd_ M + 1 + db_ (la_ (mtp_ M) (mtn_ M) (mrd_ M))))) (mrd_ (wst_ M (upd (mlt_ M) (msm_ M) (la_ (mtp_ M) (mtn_ M) (mrd_ M))) (upd (mla_ M) (msm_ M) (nI (mrd_ M))) td_8 (mrd_ M + 1 + db_ (la_ (mtp_ M) (mtn_ M) (mrd_ M))))) := hr_11
        subst r_10
        refine sti (x := la_ (mtp_ (wst_ M (upd (mlt_ M) (msm_ M) (la_ (mtp_ M) (mtn_ M) (mrd_ M))) (upd (mla_ M) (msm_ M) (nI (mrd_ M))) td_8 (mrd_ M + 1 + db_ (la_ (mtp_ M) (mtn_ M) (mrd_ M))))) (mtn_ (wst_ M (upd (mlt_ M) (msm_ M) (la_ (mtp_ M) (mtn_ M) (mrd_ M))) (upd (mla_ M) (msm_ M) (nI (mrd_ M))) td_8 (mrd_ M + 1 + db_ (la_ (mtp_ M) (mtn_ M) (mrd_ M))))) (mrd_ (wst_ M (upd (mlt_ M) (msm_ M) (la_ (mtp_ M) (mtn_ M) (mrd_ M))) (upd (mla_ M) (msm_ M) (nI (mrd_ M))) td_8 (mrd_ M + 1 + db_ (la_ (mtp_ M) (mtn_ M) (mrd_ M)))))) (y := la_ (mtp_ M) (mtn_ M) (mrd_ M + 1 + db_ (la_ (mtp_ M) (mtn_ M) (mrd_ M)))) rfl ?_
        refine lv_bipush (v := 59) hx hb dX5_statement_94 (by decide) ?_
        refine lv_icmp_eq (tgt := 101) hx hb dX5_statement_96 (by decide) (fun c_96 => ?_) (fun c_96 => ?_)
        · skip
          refine lv_aload_n hx hb dX5_statement_101 rfl (lv_at hl 1 rfl) ?_
          refine lv_dup hx hb dX5_statement_102 rfl ?_
          refine va_get (ci := 5) (C := RX5) (T := TX5) (N := 33) hx hb hts hinX5 hown hK.1 hP 0 rfl rfl 17 (by decide) (hts _ (List.mem_of_getElem? (i := 4) rfl)) (fun _ h9 => h9) rfl dX5_statement_103 ?_
          refine lv_iconst (v := 1) hx hb dX5_statement_106 (by decide) ?_
          refine lv_iadd hx hb dX5_statement_107 ?_
          refine sti (x := (nI (mrd_ M + 1 + db_ (la_ (mtp_ M) (mtn_ M) (mrd_ M)))) + 1) (y := nI (mrd_ M + 1 + db_ (la_ (mtp_ M) (mtn_ M) (mrd_ M)) + 1)) (nI_1 _) ?_
          refine va_put (ci := 5) (ty := .int) (C := RX5) (T := TX5) (N := 33) hx hb hts hinX5 tyX5 tyX5_ok nmX5 hown hK.1 hP (va_D.adr hD0 (mW_adE rfl)) hS 0 rfl rfl 17 (by decide) (hts _ (List.mem_of_getElem? (i := 4) rfl)) (fun _ h9 => h9) rfl (by decide +kernel) (rfl) (rfl) (Nat.le_of_ble_eq_true rfl) dX5_statement_108 (fun H locs hP hD hS => ?_)
          replace hP : va_P D vwCl ([(r 0, .inr (5, [.ref (r 1), .ref (r 2), .ref (r 3), .ref (r 4), .ref (r 5), .ref (r 6), .int (nI (sn_ B)), .int (qt_ B), .int (il_ B), .int (pa_ B), .int (ho_ B), .int (dy_ B), .ref (r 13), .ref (r 14), .ref (r 15), .ref (r 16), .int (nI (mtn_ M)), .int (nI (mrd_ M + 1 + db_ (la_ (mtp_ M) (mtn_ M) (mrd_ M)) + 1)), .int (nI (msm_ M)), .ref (r 20), .int (mhi_ M), .int (mik_ M), .int (nI (mcu_ M)), .int (nI (mbk_ M)), .ref (r 25), .ref (r 26), .int (mlw_ M), .int (mhg_ M), .int (msl_ M), .ref (r 30), .int (nI (mrm_ M)), .ref (r 32), .int (mlo_ M)])), (r 1, .inl (cI, 7, .inl (mrf_ M))), (r 2, .inl (cI, 7, .inl (kd_ B))), (r 3, .inl (cI, 7, .inl (fg_ B))), (r 4, .inl (cI, 7, .inl (pl_ B))), (r 5, .inl (cI, 7, .inl (pw_ B))), (r 6, .inl (cI, 7, .inl (jy_ B))), (r 13, .inl (cI, 96, .inl (mtp_ M))), (r 14, .inl (cI, 48, .inl (upd (mlt_ M) (msm_ M) (la_ (mtp_ M) (mtn_ M) (mrd_ M))))), (r 15, .inl (cI, 48, .inl (upd (mla_ M) (msm_ M) (nI (mrd_ M))))), (r 16, .inl (cI, 144, .inl td_8)), (r 20, .inl (cI, 451, .inl (flatK (mkp_ M)))), (r 25, .inl (cI, 7, .inl (mof_ M))), (r 26, .inl (cI, 7, .inl (mfa_ M))), (r 30, .inl (cI, 12, .inl (mrw_ M))), (r 32, .inl (cI, 8, .inl (mhb_ M)))]) H := hP
          refine lv_iconst (v := 1) hx hb dX5_statement_111 (by decide) ?_
          refine rMz hx hb hr hlk hS ((upd (mlt_ M) (msm_ M) (la_ (mtp_ M) (mtn_ M) (mrd_ M))), (upd (mla_ M) (msm_ M) (nI (mrd_ M))), td_8, (mrd_ M + 1 + db_ (la_ (mtp_ M) (mtn_ M) (mrd_ M)) + 1)) hP (Or.inr rfl) ?_ dX5_statement_112
          exact st_y c_87 hnz c_96 hw_7c hw_7d
        · skip
          refine lv_iconst (v := 0) hx hb dX5_statement_99 (by decide) ?_
          refine rMz hx hb hr hlk hS ((upd (mlt_ M) (msm_ M) (la_ (mtp_ M) (mtn_ M) (mrd_ M))), (upd (mla_ M) (msm_ M) (nI (mrd_ M))), td_8, (mrd_ M + 1 + db_ (la_ (mtp_ M) (mtn_ M) (mrd_ M)))) hP (Or.inl rfl) ?_ dX5_statement_100
          first | exact st_f1 c_87 hnz hw_7b hw_7c | exact st_f2 c_87 hnz c_96 hw_7c
  refine lv_iload_n hx hb dX5_statement_5 rfl (lv_at hl 0 rfl) ?_
  refine lv_bipush (v := 115) hx hb dX5_statement_6 (by decide) ?_
  refine lv_icmp_eq (tgt := 43) hx hb dX5_statement_8 (by decide) (fun c_8 => ?_) (fun c_8 => ?_)
  · skip
    exact jn_43     (by first | exact Or.inl c_8 | exact Or.inr (Or.inl c_14) | exact Or.inr (Or.inr (Or.inl c_20)) | exact Or.inr (Or.inr (Or.inr (Or.inl c_26))) | exact Or.inr (Or.inr (Or.inr (Or.inr (Or.inl c_32)))) | exact Or.inr (Or.inr (Or.inr (Or.inr (Or.inr c_38)))))  _ _ hP (va_D.adr hD0 (mW_adE rfl)) hS ls (lv_sub hl [0, 1] rfl)
  · skip
    refine lv_iload_n hx hb dX5_statement_11 rfl (lv_at hl 0 rfl) ?_
    refine lv_bipush (v := 112) hx hb dX5_statement_12 (by decide) ?_
    refine lv_icmp_eq (tgt := 43) hx hb dX5_statement_14 (by decide) (fun c_14 => ?_) (fun c_14 => ?_)
    · skip
      exact jn_43     (by first | exact Or.inl c_8 | exact Or.inr (Or.inl c_14) | exact Or.inr (Or.inr (Or.inl c_20)) | exact Or.inr (Or.inr (Or.inr (Or.inl c_26))) | exact Or.inr (Or.inr (Or.inr (Or.inr (Or.inl c_32)))) | exact Or.inr (Or.inr (Or.inr (Or.inr (Or.inr c_38)))))  _ _ hP (va_D.adr hD0 (mW_adE rfl)) hS ls (lv_sub hl [0, 1] rfl)
    · skip
      refine lv_iload_n hx hb dX5_statement_17 rfl (lv_at hl 0 rfl) ?_
      refine lv_bipush (v := 113) hx hb dX5_statement_18 (by decide) ?_
      refine lv_icmp_eq (tgt := 43) hx hb dX5_statement_20 (by decide) (fun c_20 => ?_) (fun c_20 => ?_)
      · skip
        exact jn_43     (by first | exact Or.inl c_8 | exact Or.inr (Or.inl c_14) | exact Or.inr (Or.inr (Or.inl c_20)) | exact Or.inr (Or.inr (Or.inr (Or.inl c_26))) | exact Or.inr (Or.inr (Or.inr (Or.inr (Or.inl c_32)))) | exact Or.inr (Or.inr (Or.inr (Or.inr (Or.inr c_38)))))  _ _ hP (va_D.adr hD0 (mW_adE rfl)) hS ls (lv_sub hl [0, 1] rfl)
      · skip
        refine lv_iload_n hx hb dX5_statement_23 rfl (lv_at hl 0 rfl) ?_
        refine lv_bipush (v := 105) hx hb dX5_statement_24 (by decide) ?_
        refine lv_icmp_eq (tgt := 43) hx hb dX5_statement_26 (by decide) (fun c_26 => ?_) (fun c_26 => ?_)
        · skip
          exact jn_43     (by first | exact Or.inl c_8 | exact Or.inr (Or.inl c_14) | exact Or.inr (Or.inr (Or.inl c_20)) | exact Or.inr (Or.inr (Or.inr (Or.inl c_26))) | exact Or.inr (Or.inr (Or.inr (Or.inr (Or.inl c_32)))) | exact Or.inr (Or.inr (Or.inr (Or.inr (Or.inr c_38)))))  _ _ hP (va_D.adr hD0 (mW_adE rfl)) hS ls (lv_sub hl [0, 1] rfl)
        · skip
          refine lv_iload_n hx hb dX5_statement_29 rfl (lv_at hl 0 rfl) ?_
          refine lv_bipush (v := 118) hx hb dX5_statement_30 (by decide) ?_
          refine lv_icmp_eq (tgt := 43) hx hb dX5_statement_32 (by decide) (fun c_32 => ?_) (fun c_32 => ?_)
          · skip
            exact jn_43     (by first | exact Or.inl c_8 | exact Or.inr (Or.inl c_14) | exact Or.inr (Or.inr (Or.inl c_20)) | exact Or.inr (Or.inr (Or.inr (Or.inl c_26))) | exact Or.inr (Or.inr (Or.inr (Or.inr (Or.inl c_32)))) | exact Or.inr (Or.inr (Or.inr (Or.inr (Or.inr c_38)))))  _ _ hP (va_D.adr hD0 (mW_adE rfl)) hS ls (lv_sub hl [0, 1] rfl)
          · skip
            refine lv_iload_n hx hb dX5_statement_35 rfl (lv_at hl 0 rfl) ?_
            refine lv_bipush (v := 104) hx hb dX5_statement_36 (by decide) ?_
            refine lv_icmp_eq (tgt := 43) hx hb dX5_statement_38 (by decide) (fun c_38 => ?_) (fun c_38 => ?_)
            · skip
              exact jn_43     (by first | exact Or.inl c_8 | exact Or.inr (Or.inl c_14) | exact Or.inr (Or.inr (Or.inl c_20)) | exact Or.inr (Or.inr (Or.inr (Or.inl c_26))) | exact Or.inr (Or.inr (Or.inr (Or.inr (Or.inl c_32)))) | exact Or.inr (Or.inr (Or.inr (Or.inr (Or.inr c_38)))))  _ _ hP (va_D.adr hD0 (mW_adE rfl)) hS ls (lv_sub hl [0, 1] rfl)
            · skip
              refine lv_iconst (v := 0) hx hb dX5_statement_41 (by decide) ?_
              refine rMz hx hb hr hlk hS (mlt_ M, mla_ M, mtd_ M, mrd_ M) hP (Or.inl rfl) ?_ dX5_statement_42
              exact st_f0 (by unfold db_; rw [if_neg c_8, if_neg c_14, if_neg c_20, if_neg c_26, if_neg c_32, if_neg c_38])

theorem okX5_comesShore : jok yX5_comesShore wsX5_comesShore cX5_comesShore 4 (some .boolean) 3 := ⟨⟨_, rfl⟩, by decide +kernel, by decide +kernel⟩
set_option maxHeartbeats 2000000 in
set_option maxRecDepth 100000 in
theorem qX5_comesShore (l : Launch) (D : va_G) (cI cB : ClassId) (r : Nat → Nat) (B : BayT) (M : MT) (w : Int32) (f : Int32) (v : Int32) (hI : bI_ B) (hw : 0 ≤ w ∧ w ≤ 9) (hf : 0 ≤ f ∧ f ≤ 9) : jMi D cI cB l yX5_comesShore wsX5_comesShore 1 [.ref (r 0), .int w, .int f, .int v] (mW cI r B M) (S := BayT) (fun r u => r = b1 (rs_ B w f v = 0) ∧ u = (if rs_ B w f v = 0 then ad_ B w f v else B)) (fun u => mW cI r u M) := by
  refine jMi.of (cc := cX5_comesShore) (maxL := 4) (ret := (some .boolean)) okX5_comesShore (Nat.le_of_ble_eq_true rfl) ?_
  intro p e s m below meth c ls A hx hb hr hts hown hlk hml hP hK hD hA hS hl
  replace hown : s.vm.findClass RX5 = some m.cls := hown
  replace hl : lv_has ls 4 [(0, .ref (r 0)), (1, .int w), (2, .int f), (3, .int v)] := hl
  have hD0 := hD
  have hn7 := hI.1
  have hf0 := ob_0.mpr hf
  have hinX5 : ∀ w ∈ wsX50, w ∈ wsX5_comesShore := by decide +kernel
  refine lv_iload_n hx hb dX5_comesShore_0 rfl (lv_at hl 1 rfl) ?_
  refine lv_iconst (v := 5) hx hb dX5_comesShore_1 (by decide) ?_
  refine lv_icmp_gt (tgt := 29) hx hb dX5_comesShore_2 (by decide) (fun c_2 => ?_) (fun c_2 => ?_)
  · have d_2 := Int32.not_le.mpr c_2
    refine lv_iconst (v := 0) hx hb dX5_comesShore_29 (by decide) ?_
    refine rMz hx hb hr hlk hS B hP (Or.inl rfl) ?_ dX5_comesShore_30
    first | exact csh_n (by rw [rs_1 (fun z => absurd z.2 (Int32.not_le.mpr c_2))]; decide) | exact csh_n (fun z => c_9 (rs_k z).2.2.2.1) | exact csh_n (fun z => c_17 (rs_k z).2.2.2.2) | exact csh_n (fun z => by have := (rs_k z).2.2.1; omega) | exact csh_y ((rs_5 hn7 ⟨hw.1, Int32.not_lt.mp c_2⟩ hf0 c_26 c_9).trans (if_pos c_17))
  · have d_2 := Int32.not_lt.mp c_2
    refine lv_iload_n hx hb dX5_comesShore_5 rfl (lv_at hl 3 rfl) ?_
    refine kSiS hx hb hml hown hts hK hP gX5_comesShore_X5_isPlace okX5_isPlace (qX5_isPlace l D cI cB v ) [] rfl (by decide) hl.1 rfl rfl (Nat.le_of_ble_eq_true rfl) dX5_comesShore_6 (by decide) (fun r_1 hr_2 => ?_)
    replace hr_2 : r_1 = b1 (0 ≤ v ∧ v ≤ 30) := hr_2
    subst r_1
    refine lv_if_eq (tgt := 29) hx hb dX5_comesShore_9 (by decide) (fun c_9 => ?_) (fun c_9 => ?_)
    · replace c_9 := b1_z c_9
      refine lv_iconst (v := 0) hx hb dX5_comesShore_29 (by decide) ?_
      refine rMz hx hb hr hlk hS B hP (Or.inl rfl) ?_ dX5_comesShore_30
      first | exact csh_n (by rw [rs_1 (fun z => absurd z.2 (Int32.not_le.mpr c_2))]; decide) | exact csh_n (fun z => c_9 (rs_k z).2.2.2.1) | exact csh_n (fun z => c_17 (rs_k z).2.2.2.2) | exact csh_n (fun z => by have := (rs_k z).2.2.1; omega) | exact csh_y ((rs_5 hn7 ⟨hw.1, Int32.not_lt.mp c_2⟩ hf0 c_26 c_9).trans (if_pos c_17))
    · replace c_9 := b1_n c_9
      refine lv_aload_n hx hb dX5_comesShore_12 rfl (lv_at hl 0 rfl) ?_
      refine lv_iload_n hx hb dX5_comesShore_13 rfl (lv_at hl 3 rfl) ?_
      refine kSiV hx hb hml hown hts hK hP gX5_comesShore_X5_shoreAt okX5_shoreAt (qX5_shoreAt l D cI cB r B M v (by show sn_ B ≤ 7; omega)) [0, 1, 2, 3, 4, 5, 6, 7, 8, 9, 10, 11, 12, 13, 14, 15] rfl rfl rfl rfl (by decide) hl.1 rfl rfl (Nat.le_of_ble_eq_true rfl) dX5_comesShore_14 (by decide) (fun r_3 hr_4 => ?_)
      replace hr_4 : r_3 = oI_ (sa_ B v) := hr_4
      subst r_3
      refine lv_if_ge (tgt := 29) hx hb dX5_comesShore_17 (by decide) (fun c_17 => ?_) (fun c_17 => ?_)
      · replace c_17 : ¬ sa_ B v = none := fun z => absurd c_17 (Int32.not_le.mpr ((oI_lt0 (sa_b hn7)).mpr z))
        refine lv_iconst (v := 0) hx hb dX5_comesShore_29 (by decide) ?_
        refine rMz hx hb hr hlk hS B hP (Or.inl rfl) ?_ dX5_comesShore_30
        first | exact csh_n (by rw [rs_1 (fun z => absurd z.2 (Int32.not_le.mpr c_2))]; decide) | exact csh_n (fun z => c_9 (rs_k z).2.2.2.1) | exact csh_n (fun z => c_17 (rs_k z).2.2.2.2) | exact csh_n (fun z => by have := (rs_k z).2.2.1; omega) | exact csh_y ((rs_5 hn7 ⟨hw.1, Int32.not_lt.mp c_2⟩ hf0 c_26 c_9).trans (if_pos c_17))
      · replace c_17 : sa_ B v = none := (oI_lt0 (sa_b hn7)).mp (Int32.not_le.mp c_17)
        refine lv_aload_n hx hb dX5_comesShore_20 rfl (lv_at hl 0 rfl) ?_
        refine va_get (ci := 5) (C := RX5) (T := TX5) (N := 33) hx hb hts hinX5 hown hK.1 hP 0 rfl rfl 6 (by decide) (hts _ (List.mem_of_getElem? (i := 1) rfl)) (fun _ h9 => h9) rfl dX5_comesShore_21 ?_
        refine lv_bipush (v := 7) hx hb dX5_comesShore_24 (by decide) ?_
        refine lv_icmp_ne (tgt := 31) hx hb dX5_comesShore_26 (by decide) (fun c_26 => ?_) (fun c_26 => ?_)
        · replace c_26 : ¬ nI (sn_ B) = nI 7 := c_26
          rw [jeq (by omega) (by omega)] at c_26
          refine lv_aload_n hx hb dX5_comesShore_31 rfl (lv_at hl 0 rfl) ?_
          refine lv_iload_n hx hb dX5_comesShore_32 rfl (lv_at hl 1 rfl) ?_
          refine lv_iload_n hx hb dX5_comesShore_33 rfl (lv_at hl 2 rfl) ?_
          refine lv_iload_n hx hb dX5_comesShore_34 rfl (lv_at hl 3 rfl) ?_
          refine kMvV hx hb hml hown hts hK hP (va_D.adr hD0 (mW_adE rfl)) hA hS gX5_comesShore_X5_adds okX5_adds (qX5_adds l D cI cB r B M w f v hI (by omega)) [0, 1, 2, 3, 4, 5, 6, 7, 8, 9, 10, 11, 12, 13, 14, 15] rfl (by decide) (fun _ => mW_adr _ _ _ _ _ _) rfl rfl rfl (by decide) hl.1 rfl rfl (Nat.le_of_ble_eq_true rfl) dX5_comesShore_35 (by decide) (fun u_6 H locs hw_7 hP hD hS => ?_)
          replace hw_7 : u_6 = ad_ B w f v := hw_7
          subst u_6
          replace hP : va_P D vwCl ([(r 0, .inr (5, [.ref (r 1), .ref (r 2), .ref (r 3), .ref (r 4), .ref (r 5), .ref (r 6), .int (nI (sn_ (ad_ B w f v))), .int (qt_ (ad_ B w f v)), .int (il_ (ad_ B w f v)), .int (pa_ (ad_ B w f v)), .int (ho_ (ad_ B w f v)), .int (dy_ (ad_ B w f v)), .ref (r 13), .ref (r 14), .ref (r 15), .ref (r 16), .int (nI (mtn_ M)), .int (nI (mrd_ M)), .int (nI (msm_ M)), .ref (r 20), .int (mhi_ M), .int (mik_ M), .int (nI (mcu_ M)), .int (nI (mbk_ M)), .ref (r 25), .ref (r 26), .int (mlw_ M), .int (mhg_ M), .int (msl_ M), .ref (r 30), .int (nI (mrm_ M)), .ref (r 32), .int (mlo_ M)])), (r 1, .inl (cI, 7, .inl (mrf_ M))), (r 2, .inl (cI, 7, .inl (kd_ (ad_ B w f v)))), (r 3, .inl (cI, 7, .inl (fg_ (ad_ B w f v)))), (r 4, .inl (cI, 7, .inl (pl_ (ad_ B w f v)))), (r 5, .inl (cI, 7, .inl (pw_ (ad_ B w f v)))), (r 6, .inl (cI, 7, .inl (jy_ (ad_ B w f v)))), (r 13, .inl (cI, 96, .inl (mtp_ M))), (r 14, .inl (cI, 48, .inl (mlt_ M))), (r 15, .inl (cI, 48, .inl (mla_ M))), (r 16, .inl (cI, 144, .inl (mtd_ M))), (r 20, .inl (cI, 451, .inl (flatK (mkp_ M)))), (r 25, .inl (cI, 7, .inl (mof_ M))), (r 26, .inl (cI, 7, .inl (mfa_ M))), (r 30, .inl (cI, 12, .inl (mrw_ M))), (r 32, .inl (cI, 8, .inl (mhb_ M)))]) H := (va_P.m [true, true, true, true, true, true, true, true, true, true, true, true, true, true, true, true] [] hP)
          refine lv_iconst (v := 1) hx hb dX5_comesShore_38 (by decide) ?_
          refine rMz hx hb hr hlk hS (ad_ B w f v) hP (Or.inr rfl) ?_ dX5_comesShore_39
          first | exact csh_n (by rw [rs_1 (fun z => absurd z.2 (Int32.not_le.mpr c_2))]; decide) | exact csh_n (fun z => c_9 (rs_k z).2.2.2.1) | exact csh_n (fun z => c_17 (rs_k z).2.2.2.2) | exact csh_n (fun z => by have := (rs_k z).2.2.1; omega) | exact csh_y ((rs_5 hn7 ⟨hw.1, Int32.not_lt.mp c_2⟩ hf0 c_26 c_9).trans (if_pos c_17))
        · replace c_26 : nI (sn_ B) = nI 7 := c_26
          rw [jeq (by omega) (by omega)] at c_26
          refine lv_iconst (v := 0) hx hb dX5_comesShore_29 (by decide) ?_
          refine rMz hx hb hr hlk hS B hP (Or.inl rfl) ?_ dX5_comesShore_30
          first | exact csh_n (by rw [rs_1 (fun z => absurd z.2 (Int32.not_le.mpr c_2))]; decide) | exact csh_n (fun z => c_9 (rs_k z).2.2.2.1) | exact csh_n (fun z => c_17 (rs_k z).2.2.2.2) | exact csh_n (fun z => by have := (rs_k z).2.2.1; omega) | exact csh_y ((rs_5 hn7 ⟨hw.1, Int32.not_lt.mp c_2⟩ hf0 c_26 c_9).trans (if_pos c_17))

theorem okX5_comesHours : jok yX5_comesHours wsX5_comesHours cX5_comesHours 2 (some .boolean) 1 := ⟨⟨_, rfl⟩, by decide +kernel, by decide +kernel⟩
set_option maxHeartbeats 2000000 in
set_option maxRecDepth 100000 in
theorem qX5_comesHours (l : Launch) (D : va_G) (cI cB : ClassId) (r : Nat → Nat) (B : BayT) (M : MT) (n : Nat) (hI : bI_ B) (hn : n ≤ 99) : jMi D cI cB l yX5_comesHours wsX5_comesHours 7 [.ref (r 0), .int (nI n)] (mW cI r B M) (S := BayT) (fun r u => r = b1 (rh_ B (nI n) = 0) ∧ u = (if rh_ B (nI n) = 0 then hs_ n B else B)) (fun u => mW cI r u M) := by
  refine jMi.of (cc := cX5_comesHours) (maxL := 2) (ret := (some .boolean)) okX5_comesHours (Nat.le_of_ble_eq_true rfl) ?_
  intro p e s m below meth c ls A hx hb hr hts hown hlk hml hP hK hD hA hS hl
  replace hown : s.vm.findClass RX5 = some m.cls := hown
  replace hl : lv_has ls 2 [(0, .ref (r 0)), (1, .int (nI n))] := hl
  have hD0 := hD
  have hn7 := hI.1
  refine lv_iload_n hx hb dX5_comesHours_0 rfl (lv_at hl 1 rfl) ?_
  refine lv_if_eq (tgt := 12) hx hb dX5_comesHours_1 (by decide) (fun c_1 => ?_) (fun c_1 => ?_)
  · replace c_1 : nI n = nI 0 := c_1
    rw [jeq (by omega) (by omega)] at c_1
    refine lv_iconst (v := 0) hx hb dX5_comesHours_12 (by decide) ?_
    refine rMz hx hb hr hlk hS B hP (Or.inl rfl) ?_ dX5_comesHours_13
    first | exact chh_n (rh_z c_1) | exact chh_n (rh_l hn c_1 c_9) | exact chh_y (rh_y hn c_1 c_9)
  · replace c_1 : ¬ nI n = nI 0 := c_1
    rw [jeq (by omega) (by omega)] at c_1
    refine lv_aload_n hx hb dX5_comesHours_4 rfl (lv_at hl 0 rfl) ?_
    refine lv_iload_n hx hb dX5_comesHours_5 rfl (lv_at hl 1 rfl) ?_
    refine kSiV hx hb hml hown hts hK hP gX5_comesHours_X5_isLate okX5_isLate (qX5_isLate l D cI cB r B M (nI n) ) [0, 1, 2, 3, 4, 5, 6, 7, 8, 9, 10, 11, 12, 13, 14, 15] rfl rfl rfl rfl (by decide) hl.1 rfl rfl (Nat.le_of_ble_eq_true rfl) dX5_comesHours_6 (by decide) (fun r_1 hr_2 => ?_)
    replace hr_2 : r_1 = b1 (999 < dy_ B + (ho_ B + (nI n)) / 24) := hr_2
    subst r_1
    refine lv_if_eq (tgt := 14) hx hb dX5_comesHours_9 (by decide) (fun c_9 => ?_) (fun c_9 => ?_)
    · replace c_9 := b1_z c_9
      refine lv_aload_n hx hb dX5_comesHours_14 rfl (lv_at hl 0 rfl) ?_
      refine lv_iload_n hx hb dX5_comesHours_15 rfl (lv_at hl 1 rfl) ?_
      refine kMvV hx hb hml hown hts hK hP (va_D.adr hD0 (mW_adE rfl)) hA hS gX5_comesHours_X5_goes okX5_goes (qX5_goes l D cI cB r B M n hI (by omega)) [0, 1, 2, 3, 4, 5, 6, 7, 8, 9, 10, 11, 12, 13, 14, 15] rfl (by decide) (fun _ => mW_adr _ _ _ _ _ _) rfl rfl rfl (by decide) hl.1 rfl rfl (Nat.le_of_ble_eq_true rfl) dX5_comesHours_16 (by decide) (fun u_4 H locs hw_5 hP hD hS => ?_)
      replace hw_5 : u_4 = hs_ n B := hw_5
      subst u_4
      replace hP : va_P D vwCl ([(r 0, .inr (5, [.ref (r 1), .ref (r 2), .ref (r 3), .ref (r 4), .ref (r 5), .ref (r 6), .int (nI (sn_ (hs_ n B))), .int (qt_ (hs_ n B)), .int (il_ (hs_ n B)), .int (pa_ (hs_ n B)), .int (ho_ (hs_ n B)), .int (dy_ (hs_ n B)), .ref (r 13), .ref (r 14), .ref (r 15), .ref (r 16), .int (nI (mtn_ M)), .int (nI (mrd_ M)), .int (nI (msm_ M)), .ref (r 20), .int (mhi_ M), .int (mik_ M), .int (nI (mcu_ M)), .int (nI (mbk_ M)), .ref (r 25), .ref (r 26), .int (mlw_ M), .int (mhg_ M), .int (msl_ M), .ref (r 30), .int (nI (mrm_ M)), .ref (r 32), .int (mlo_ M)])), (r 1, .inl (cI, 7, .inl (mrf_ M))), (r 2, .inl (cI, 7, .inl (kd_ (hs_ n B)))), (r 3, .inl (cI, 7, .inl (fg_ (hs_ n B)))), (r 4, .inl (cI, 7, .inl (pl_ (hs_ n B)))), (r 5, .inl (cI, 7, .inl (pw_ (hs_ n B)))), (r 6, .inl (cI, 7, .inl (jy_ (hs_ n B)))), (r 13, .inl (cI, 96, .inl (mtp_ M))), (r 14, .inl (cI, 48, .inl (mlt_ M))), (r 15, .inl (cI, 48, .inl (mla_ M))), (r 16, .inl (cI, 144, .inl (mtd_ M))), (r 20, .inl (cI, 451, .inl (flatK (mkp_ M)))), (r 25, .inl (cI, 7, .inl (mof_ M))), (r 26, .inl (cI, 7, .inl (mfa_ M))), (r 30, .inl (cI, 12, .inl (mrw_ M))), (r 32, .inl (cI, 8, .inl (mhb_ M)))]) H := (va_P.m [true, true, true, true, true, true, true, true, true, true, true, true, true, true, true, true] [] hP)
      refine lv_iconst (v := 1) hx hb dX5_comesHours_19 (by decide) ?_
      refine rMz hx hb hr hlk hS (hs_ n B) hP (Or.inr rfl) ?_ dX5_comesHours_20
      first | exact chh_n (rh_z c_1) | exact chh_n (rh_l hn c_1 c_9) | exact chh_y (rh_y hn c_1 c_9)
    · replace c_9 := b1_n c_9
      refine lv_iconst (v := 0) hx hb dX5_comesHours_12 (by decide) ?_
      refine rMz hx hb hr hlk hS B hP (Or.inl rfl) ?_ dX5_comesHours_13
      first | exact chh_n (rh_z c_1) | exact chh_n (rh_l hn c_1 c_9) | exact chh_y (rh_y hn c_1 c_9)

theorem okX5_comes : jok yX5_comes wsX5_comes cX5_comes 3 (some .boolean) 1 := ⟨⟨_, rfl⟩, by decide +kernel, by decide +kernel⟩
set_option maxHeartbeats 2000000 in
set_option maxRecDepth 100000 in
theorem qX5_comes (l : Launch) (D : va_G) (cI cB : ClassId) (r : Nat → Nat) (B : BayT) (M : MT) (L : Nat → Int32) (ln : Nat) (i9 : Nat) (k : Nat) (hI : bI_ B) (hk : k ≤ 40) (hlt : mlt_ M k = la_ L ln i9) (hok : okT_ L ln (i9 + 1) (la_ L ln i9) (mtd_ M) (3 * k)) (hsr : sr_ L ln i9 = none) : jMi D cI cB l yX5_comes wsX5_comes 8 [.ref (r 0), .int (nI k)] (mW cI r B M) (S := BayT) (fun r u => r = b1 (rst_ L ln i9 B = 0) ∧ (rst_ L ln i9 B = 0 → u = cst_ L ln i9 B)) (fun u => mW cI r u M) := by
  refine jMi.of (cc := cX5_comes) (maxL := 3) (ret := (some .boolean)) okX5_comes (Nat.le_of_ble_eq_true rfl) ?_
  intro p e s m below meth c ls A hx hb hr hts hown hlk hml hP hK hD hA hS hl
  replace hown : s.vm.findClass RX5 = some m.cls := hown
  replace hl : lv_has ls 3 [(0, .ref (r 0)), (1, .int (nI k))] := hl
  have hD0 := hD
  have hn7 := hI.1
  have hdb := sr_n hsr
  have hdg := dg_all _ _ hdb.2.1
  have hinX5 : ∀ w ∈ wsX50, w ∈ wsX5_comes := by decide +kernel
  refine lv_iconst (v := 3) hx hb dX5_comes_0 (by decide) ?_
  refine lv_iload_n hx hb dX5_comes_1 rfl (lv_at hl 1 rfl) ?_
  refine lv_imul hx hb dX5_comes_2 ?_
  refine sti (x := 3 * (nI k)) (y := nI (3 * k)) (pk_mul 3 k) ?_
  refine lv_istore_n (lv' := [(2, .int (nI (3 * k))), (0, .ref (r 0)), (1, .int (nI k))]) hx hb dX5_comes_3 rfl hl (by decide) rfl (fun ls hl => ?_)
  refine lv_aload_n hx hb dX5_comes_4 rfl (lv_at hl 1 rfl) ?_
  refine va_get (ci := 5) (C := RX5) (T := TX5) (N := 33) hx hb hts hinX5 hown hK.1 hP 0 rfl rfl 13 (by decide) (hts _ (List.mem_of_getElem? (i := 1) rfl)) (fun _ h9 => h9) rfl dX5_comes_5 ?_
  refine lv_iload_n hx hb dX5_comes_8 rfl (lv_at hl 2 rfl) ?_
  refine jald hx hb hK.1 hP 8 0 k rfl rfl rfl (by omega) (Nat.le_of_ble_eq_true rfl) dX5_comes_9 ?_
  by_cases c_10_105 : (mlt_ M) k = 105
  · refine lv_tableIn (off := 178) (tgt := 188) hx hb dX5_comes_10 (by rw [c_10_105]; decide) (by rw [c_10_105]; decide) (by rw [c_10_105]; rfl) (by decide) ?_
    refine lv_aload_n hx hb dX5_comes_188 rfl (lv_at hl 1 rfl) ?_
    refine lv_aload_n hx hb dX5_comes_189 rfl (lv_at hl 1 rfl) ?_
    refine va_get (ci := 5) (C := RX5) (T := TX5) (N := 33) hx hb hts hinX5 hown hK.1 hP 0 rfl rfl 15 (by decide) (hts _ (List.mem_of_getElem? (i := 2) rfl)) (fun _ h9 => h9) rfl dX5_comes_190 ?_
    refine lv_iload_n hx hb dX5_comes_193 rfl (lv_at hl 0 rfl) ?_
    refine jald hx hb hK.1 hP 10 0 (3 * k) rfl rfl rfl (by omega) (Nat.le_of_ble_eq_true rfl) dX5_comes_194 ?_
    refine sti (x := (mtd_ M) (3 * k)) (y := nm_ L ln (i9 + 1)) (hok.2.2.2 (Or.inl (hlt.symm.trans c_10_105))) ?_
    refine lv_topi (fun y_1 ey_1 => ?_)
    replace ey_1 : y_1 = nm_ L ln (i9 + 1) := ey_1
    refine va_put (ci := 5) (ty := .int) (C := RX5) (T := TX5) (N := 33) hx hb hts hinX5 tyX5 tyX5_ok nmX5 hown hK.1 hP (va_D.adr hD0 (mW_adE rfl)) hS 0 rfl rfl 8 (by decide) (hts _ (List.mem_of_getElem? (i := 5) rfl)) (fun _ h9 => h9) rfl (by decide +kernel) (rfl) (rfl) (Nat.le_of_ble_eq_true rfl) dX5_comes_195 (fun H locs hP hD hS => ?_)
    replace hP : va_P D vwCl ([(r 0, .inr (5, [.ref (r 1), .ref (r 2), .ref (r 3), .ref (r 4), .ref (r 5), .ref (r 6), .int (nI (sn_ B)), .int (qt_ B), .int (y_1), .int (pa_ B), .int (ho_ B), .int (dy_ B), .ref (r 13), .ref (r 14), .ref (r 15), .ref (r 16), .int (nI (mtn_ M)), .int (nI (mrd_ M)), .int (nI (msm_ M)), .ref (r 20), .int (mhi_ M), .int (mik_ M), .int (nI (mcu_ M)), .int (nI (mbk_ M)), .ref (r 25), .ref (r 26), .int (mlw_ M), .int (mhg_ M), .int (msl_ M), .ref (r 30), .int (nI (mrm_ M)), .ref (r 32), .int (mlo_ M)])), (r 1, .inl (cI, 7, .inl (mrf_ M))), (r 2, .inl (cI, 7, .inl (kd_ B))), (r 3, .inl (cI, 7, .inl (fg_ B))), (r 4, .inl (cI, 7, .inl (pl_ B))), (r 5, .inl (cI, 7, .inl (pw_ B))), (r 6, .inl (cI, 7, .inl (jy_ B))), (r 13, .inl (cI, 96, .inl (mtp_ M))), (r 14, .inl (cI, 48, .inl (mlt_ M))), (r 15, .inl (cI, 48, .inl (mla_ M))), (r 16, .inl (cI, 144, .inl (mtd_ M))), (r 20, .inl (cI, 451, .inl (flatK (mkp_ M)))), (r 25, .inl (cI, 7, .inl (mof_ M))), (r 26, .inl (cI, 7, .inl (mfa_ M))), (r 30, .inl (cI, 12, .inl (mrw_ M))), (r 32, .inl (cI, 8, .inl (mhb_ M)))]) H := hP
    refine lv_aload_n hx hb dX5_comes_198 rfl (lv_at hl 1 rfl) ?_
    refine va_get (ci := 5) (C := RX5) (T := TX5) (N := 33) hx hb hts hinX5 hown hK.1 hP 0 rfl rfl 8 (by decide) (hts _ (List.mem_of_getElem? (i := 5) rfl)) (fun _ h9 => h9) rfl dX5_comes_199 ?_
    refine kSiS hx hb hml hown hts hK hP gX5_comes_X5_isPlace okX5_isPlace (qX5_isPlace l D cI cB y_1 ) [] rfl (by decide) hl.1 rfl rfl (Nat.le_of_ble_eq_true rfl) dX5_comes_202 (by decide) (fun r_2 hr_3 => ?_)
    replace hr_3 : r_2 = b1 (0 ≤ y_1 ∧ y_1 ≤ 30) := hr_3
    subst r_2
    (try rw [ey_1] at hP); (try rw [ey_1] at hD); (try rw [ey_1] at hl); (try rw [ey_1])
    refine rMz hx hb hr hlk hS (mkB (kd_ B) (fg_ B) (pl_ B) (pw_ B) (jy_ B) (qt_ B) (sn_ B) (nm_ L ln (i9 + 1)) (pa_ B) (ho_ B) (dy_ B)) hP (b1_01 _) ?_ dX5_comes_205
    exact cm_105 (hlt.symm.trans c_10_105)
  by_cases c_10_106 : (mlt_ M) k = 106
  · exact absurd (show db_ (la_ L ln i9) = 0 by rw [← hlt, c_10_106]; rfl) hdb.1
  by_cases c_10_107 : (mlt_ M) k = 107
  · exact absurd (show db_ (la_ L ln i9) = 0 by rw [← hlt, c_10_107]; rfl) hdb.1
  by_cases c_10_108 : (mlt_ M) k = 108
  · exact absurd (show db_ (la_ L ln i9) = 0 by rw [← hlt, c_10_108]; rfl) hdb.1
  by_cases c_10_109 : (mlt_ M) k = 109
  · exact absurd (show db_ (la_ L ln i9) = 0 by rw [← hlt, c_10_109]; rfl) hdb.1
  by_cases c_10_110 : (mlt_ M) k = 110
  · exact absurd (show db_ (la_ L ln i9) = 0 by rw [← hlt, c_10_110]; rfl) hdb.1
  by_cases c_10_111 : (mlt_ M) k = 111
  · exact absurd (show db_ (la_ L ln i9) = 0 by rw [← hlt, c_10_111]; rfl) hdb.1
  by_cases c_10_112 : (mlt_ M) k = 112
  · refine lv_tableIn (off := 97) (tgt := 107) hx hb dX5_comes_10 (by rw [c_10_112]; decide) (by rw [c_10_112]; decide) (by rw [c_10_112]; rfl) (by decide) ?_
    refine lv_aload_n hx hb dX5_comes_107 rfl (lv_at hl 1 rfl) ?_
    refine lv_aload_n hx hb dX5_comes_108 rfl (lv_at hl 1 rfl) ?_
    refine va_get (ci := 5) (C := RX5) (T := TX5) (N := 33) hx hb hts hinX5 hown hK.1 hP 0 rfl rfl 15 (by decide) (hts _ (List.mem_of_getElem? (i := 2) rfl)) (fun _ h9 => h9) rfl dX5_comes_109 ?_
    refine lv_iload_n hx hb dX5_comes_112 rfl (lv_at hl 0 rfl) ?_
    refine jald hx hb hK.1 hP 10 0 (3 * k) rfl rfl rfl (by omega) (Nat.le_of_ble_eq_true rfl) dX5_comes_113 ?_
    refine sti (x := (mtd_ M) (3 * k)) (y := dt_ L ln (i9 + 1)) ((hok.2.1 (hlt.symm.trans c_10_112)).1) ?_
    refine kSiV hx hb hml hown hts hK hP gX5_comes_X5_isShore okX5_isShore (qX5_isShore l D cI cB r B M (dt_ L ln (i9 + 1)) (by show sn_ B ≤ 7; omega)) [0, 1, 2, 3, 4, 5, 6, 7, 8, 9, 10, 11, 12, 13, 14, 15] rfl rfl rfl rfl (by decide) hl.1 rfl rfl (Nat.le_of_ble_eq_true rfl) dX5_comes_114 (by decide) (fun r_4 hr_5 => ?_)
    replace hr_5 : r_4 = b1 (0 ≤ (dt_ L ln (i9 + 1)) ∧ (dt_ L ln (i9 + 1)) < nI (sn_ B)) := hr_5
    subst r_4
    refine lv_if_ne (tgt := 122) hx hb dX5_comes_117 (by decide) (fun c_117 => ?_) (fun c_117 => ?_)
    · replace c_117 := b1_n c_117
      obtain ⟨k_, hk_, e_⟩ := pl_lt (n := sn_ B) (by omega) c_117
      refine lv_aload_n hx hb dX5_comes_122 rfl (lv_at hl 1 rfl) ?_
      refine va_get (ci := 5) (C := RX5) (T := TX5) (N := 33) hx hb hts hinX5 hown hK.1 hP 0 rfl rfl 4 (by decide) (hts _ (List.mem_of_getElem? (i := 3) rfl)) (fun _ h9 => h9) rfl dX5_comes_123 ?_
      refine lv_aload_n hx hb dX5_comes_126 rfl (lv_at hl 1 rfl) ?_
      refine va_get (ci := 5) (C := RX5) (T := TX5) (N := 33) hx hb hts hinX5 hown hK.1 hP 0 rfl rfl 15 (by decide) (hts _ (List.mem_of_getElem? (i := 2) rfl)) (fun _ h9 => h9) rfl dX5_comes_127 ?_
      refine lv_iload_n hx hb dX5_comes_130 rfl (lv_at hl 0 rfl) ?_
      refine jald hx hb hK.1 hP 10 0 (3 * k) rfl rfl rfl (by omega) (Nat.le_of_ble_eq_true rfl) dX5_comes_131 ?_
      refine lv_aload_n hx hb dX5_comes_132 rfl (lv_at hl 1 rfl) ?_
      refine va_get (ci := 5) (C := RX5) (T := TX5) (N := 33) hx hb hts hinX5 hown hK.1 hP 0 rfl rfl 15 (by decide) (hts _ (List.mem_of_getElem? (i := 2) rfl)) (fun _ h9 => h9) rfl dX5_comes_133 ?_
      refine lv_iload_n hx hb dX5_comes_136 rfl (lv_at hl 0 rfl) ?_
      refine lv_iconst (v := 1) hx hb dX5_comes_137 (by decide) ?_
      refine lv_iadd hx hb dX5_comes_138 ?_
      refine jald hx hb hK.1 hP 10 0 (3 * k + 1) rfl rfl (nI_1 _) (by omega) (Nat.le_of_ble_eq_true rfl) dX5_comes_139 ?_
      have hN := nm_99 (hdg 1 (by rw [(hlt.symm.trans c_10_112)]; decide)) (hdg 2 (by rw [(hlt.symm.trans c_10_112)]; decide))
      refine sti (x := (mtd_ M) (3 * k + 1)) (y := nm_ L ln (i9 + 2)) ((hok.2.1 (hlt.symm.trans c_10_112)).2) ?_
      refine jast hx hb hK.1 hP (va_D.adr hD0 (mW_adE rfl)) hS 5 0 k_ rfl rfl ((hok.2.1 (hlt.symm.trans c_10_112)).1.trans e_) (by omega) (Nat.le_of_ble_eq_true rfl) dX5_comes_140 (fun f_6 ef_6 H locs hP hD hS => ?_)
      replace ef_6 : f_6 = upd (pw_ B) k_ (nm_ L ln (i9 + 2)) := ef_6
      replace hP : va_P D vwCl ([(r 0, .inr (5, [.ref (r 1), .ref (r 2), .ref (r 3), .ref (r 4), .ref (r 5), .ref (r 6), .int (nI (sn_ B)), .int (qt_ B), .int (il_ B), .int (pa_ B), .int (ho_ B), .int (dy_ B), .ref (r 13), .ref (r 14), .ref (r 15), .ref (r 16), .int (nI (mtn_ M)), .int (nI (mrd_ M)), .int (nI (msm_ M)), .ref (r 20), .int (mhi_ M), .int (mik_ M), .int (nI (mcu_ M)), .int (nI (mbk_ M)), .ref (r 25), .ref (r 26), .int (mlw_ M), .int (mhg_ M), .int (msl_ M), .ref (r 30), .int (nI (mrm_ M)), .ref (r 32), .int (mlo_ M)])), (r 1, .inl (cI, 7, .inl (mrf_ M))), (r 2, .inl (cI, 7, .inl (kd_ B))), (r 3, .inl (cI, 7, .inl (fg_ B))), (r 4, .inl (cI, 7, .inl (pl_ B))), (r 5, .inl (cI, 7, .inl f_6)), (r 6, .inl (cI, 7, .inl (jy_ B))), (r 13, .inl (cI, 96, .inl (mtp_ M))), (r 14, .inl (cI, 48, .inl (mlt_ M))), (r 15, .inl (cI, 48, .inl (mla_ M))), (r 16, .inl (cI, 144, .inl (mtd_ M))), (r 20, .inl (cI, 451, .inl (flatK (mkp_ M)))), (r 25, .inl (cI, 7, .inl (mof_ M))), (r 26, .inl (cI, 7, .inl (mfa_ M))), (r 30, .inl (cI, 12, .inl (mrw_ M))), (r 32, .inl (cI, 8, .inl (mhb_ M)))]) H := hP
      refine lv_iconst (v := 1) hx hb dX5_comes_141 (by decide) ?_
      (try rw [ef_6] at hP); (try rw [ef_6] at hD); (try rw [ef_6] at hl); (try rw [ef_6] at c_117); (try rw [ef_6])
      refine rMz hx hb hr hlk hS (mkB (kd_ B) (fg_ B) (pl_ B) (upd (pw_ B) k_ (nm_ L ln (i9 + 2))) (jy_ B) (qt_ B) (sn_ B) (il_ B) (pa_ B) (ho_ B) (dy_ B)) hP (Or.inr rfl) ?_ dX5_comes_142
      exact cm_112b (hlt.symm.trans c_10_112) e_ hk_ hN hn7
    · replace c_117 := b1_z c_117
      refine lv_iconst (v := 0) hx hb dX5_comes_120 (by decide) ?_
      refine rMz hx hb hr hlk hS B hP (Or.inl rfl) ?_ dX5_comes_121
      exact cm_112a (hlt.symm.trans c_10_112) c_117
  by_cases c_10_113 : (mlt_ M) k = 113
  · refine lv_tableIn (off := 133) (tgt := 143) hx hb dX5_comes_10 (by rw [c_10_113]; decide) (by rw [c_10_113]; decide) (by rw [c_10_113]; rfl) (by decide) ?_
    refine lv_aload_n hx hb dX5_comes_143 rfl (lv_at hl 1 rfl) ?_
    refine lv_dup hx hb dX5_comes_144 rfl ?_
    refine va_get (ci := 5) (C := RX5) (T := TX5) (N := 33) hx hb hts hinX5 hown hK.1 hP 0 rfl rfl 7 (by decide) (hts _ (List.mem_of_getElem? (i := 4) rfl)) (fun _ h9 => h9) rfl dX5_comes_145 ?_
    refine lv_aload_n hx hb dX5_comes_148 rfl (lv_at hl 1 rfl) ?_
    refine lv_aload_n hx hb dX5_comes_149 rfl (lv_at hl 1 rfl) ?_
    refine va_get (ci := 5) (C := RX5) (T := TX5) (N := 33) hx hb hts hinX5 hown hK.1 hP 0 rfl rfl 15 (by decide) (hts _ (List.mem_of_getElem? (i := 2) rfl)) (fun _ h9 => h9) rfl dX5_comes_150 ?_
    refine lv_iload_n hx hb dX5_comes_153 rfl (lv_at hl 0 rfl) ?_
    refine jald hx hb hK.1 hP 10 0 (3 * k) rfl rfl rfl (by omega) (Nat.le_of_ble_eq_true rfl) dX5_comes_154 ?_
    refine sti (x := (mtd_ M) (3 * k)) (y := dt_ L ln (i9 + 1)) (hok.2.2.1 (Or.inl (hlt.symm.trans c_10_113))) ?_
    refine kSiV hx hb hml hown hts hK hP gX5_comes_X5_isShore okX5_isShore (qX5_isShore l D cI cB r B M (dt_ L ln (i9 + 1)) (by show sn_ B ≤ 7; omega)) [0, 1, 2, 3, 4, 5, 6, 7, 8, 9, 10, 11, 12, 13, 14, 15] rfl rfl rfl rfl (by decide) hl.1 rfl rfl (Nat.le_of_ble_eq_true rfl) dX5_comes_155 (by decide) (fun r_7 hr_8 => ?_)
    replace hr_8 : r_7 = b1 (0 ≤ (dt_ L ln (i9 + 1)) ∧ (dt_ L ln (i9 + 1)) < nI (sn_ B)) := hr_8
    subst r_7
    refine lv_if_eq (tgt := 172) hx hb dX5_comes_158 (by decide) (fun c_158 => ?_) (fun c_158 => ?_)
    · replace c_158 := b1_z c_158
      refine lv_iconst (v := 0) hx hb dX5_comes_172 (by decide) ?_
      refine lv_ixor hx hb dX5_comes_173 ?_
      refine lv_topi (fun y_9 ey_9 => ?_)
      replace ey_9 : y_9 = (qt_ B) ^^^ 0 := ey_9
      refine va_put (ci := 5) (ty := .int) (C := RX5) (T := TX5) (N := 33) hx hb hts hinX5 tyX5 tyX5_ok nmX5 hown hK.1 hP (va_D.adr hD0 (mW_adE rfl)) hS 0 rfl rfl 7 (by decide) (hts _ (List.mem_of_getElem? (i := 4) rfl)) (fun _ h9 => h9) rfl (by decide +kernel) (rfl) (rfl) (Nat.le_of_ble_eq_true rfl) dX5_comes_174 (fun H locs hP hD hS => ?_)
      replace hP : va_P D vwCl ([(r 0, .inr (5, [.ref (r 1), .ref (r 2), .ref (r 3), .ref (r 4), .ref (r 5), .ref (r 6), .int (nI (sn_ B)), .int (y_9), .int (il_ B), .int (pa_ B), .int (ho_ B), .int (dy_ B), .ref (r 13), .ref (r 14), .ref (r 15), .ref (r 16), .int (nI (mtn_ M)), .int (nI (mrd_ M)), .int (nI (msm_ M)), .ref (r 20), .int (mhi_ M), .int (mik_ M), .int (nI (mcu_ M)), .int (nI (mbk_ M)), .ref (r 25), .ref (r 26), .int (mlw_ M), .int (mhg_ M), .int (msl_ M), .ref (r 30), .int (nI (mrm_ M)), .ref (r 32), .int (mlo_ M)])), (r 1, .inl (cI, 7, .inl (mrf_ M))), (r 2, .inl (cI, 7, .inl (kd_ B))), (r 3, .inl (cI, 7, .inl (fg_ B))), (r 4, .inl (cI, 7, .inl (pl_ B))), (r 5, .inl (cI, 7, .inl (pw_ B))), (r 6, .inl (cI, 7, .inl (jy_ B))), (r 13, .inl (cI, 96, .inl (mtp_ M))), (r 14, .inl (cI, 48, .inl (mlt_ M))), (r 15, .inl (cI, 48, .inl (mla_ M))), (r 16, .inl (cI, 144, .inl (mtd_ M))), (r 20, .inl (cI, 451, .inl (flatK (mkp_ M)))), (r 25, .inl (cI, 7, .inl (mof_ M))), (r 26, .inl (cI, 7, .inl (mfa_ M))), (r 30, .inl (cI, 12, .inl (mrw_ M))), (r 32, .inl (cI, 8, .inl (mhb_ M)))]) H := hP
      refine lv_aload_n hx hb dX5_comes_177 rfl (lv_at hl 1 rfl) ?_
      refine lv_aload_n hx hb dX5_comes_178 rfl (lv_at hl 1 rfl) ?_
      refine va_get (ci := 5) (C := RX5) (T := TX5) (N := 33) hx hb hts hinX5 hown hK.1 hP 0 rfl rfl 15 (by decide) (hts _ (List.mem_of_getElem? (i := 2) rfl)) (fun _ h9 => h9) rfl dX5_comes_179 ?_
      refine lv_iload_n hx hb dX5_comes_182 rfl (lv_at hl 0 rfl) ?_
      refine jald hx hb hK.1 hP 10 0 (3 * k) rfl rfl rfl (by omega) (Nat.le_of_ble_eq_true rfl) dX5_comes_183 ?_
      refine sti (x := (mtd_ M) (3 * k)) (y := dt_ L ln (i9 + 1)) (hok.2.2.1 (Or.inl (hlt.symm.trans c_10_113))) ?_
      refine kSiV hx hb hml hown hts hK hP gX5_comes_X5_isShore okX5_isShore (qX5_isShore l D cI cB r (mkB (kd_ B) (fg_ B) (pl_ B) (pw_ B) (jy_ B) y_9 (sn_ B) (il_ B) (pa_ B) (ho_ B) (dy_ B)) M (dt_ L ln (i9 + 1)) (by show sn_ B ≤ 7; omega)) [0, 1, 2, 3, 4, 5, 6, 7, 8, 9, 10, 11, 12, 13, 14, 15] rfl rfl rfl rfl (by decide) hl.1 rfl rfl (Nat.le_of_ble_eq_true rfl) dX5_comes_184 (by decide) (fun r_10 hr_11 => ?_)
      replace hr_11 : r_10 = b1 (0 ≤ (dt_ L ln (i9 + 1)) ∧ (dt_ L ln (i9 + 1)) < nI (sn_ (mkB (kd_ B) (fg_ B) (pl_ B) (pw_ B) (jy_ B) y_9 (sn_ B) (il_ B) (pa_ B) (ho_ B) (dy_ B)))) := hr_11
      subst r_10
      (try rw [ey_9] at hP); (try rw [ey_9] at hD); (try rw [ey_9] at hl); (try rw [ey_9] at c_158); (try rw [ey_9])
      refine rMz hx hb hr hlk hS (mkB (kd_ B) (fg_ B) (pl_ B) (pw_ B) (jy_ B) ((qt_ B) ^^^ 0) (sn_ B) (il_ B) (pa_ B) (ho_ B) (dy_ B)) hP (b1_01 _) ?_ dX5_comes_187
      first | exact cm_113 (hlt.symm.trans c_10_113) c_158 | exact cm_113b (hlt.symm.trans c_10_113) e_ hk_ hn7
    · replace c_158 := b1_n c_158
      obtain ⟨k_, hk_, e_⟩ := pl_lt (n := sn_ B) (by omega) c_158
      refine lv_iconst (v := 1) hx hb dX5_comes_161 (by decide) ?_
      refine lv_aload_n hx hb dX5_comes_162 rfl (lv_at hl 1 rfl) ?_
      refine va_get (ci := 5) (C := RX5) (T := TX5) (N := 33) hx hb hts hinX5 hown hK.1 hP 0 rfl rfl 15 (by decide) (hts _ (List.mem_of_getElem? (i := 2) rfl)) (fun _ h9 => h9) rfl dX5_comes_163 ?_
      refine lv_iload_n hx hb dX5_comes_166 rfl (lv_at hl 0 rfl) ?_
      refine jald hx hb hK.1 hP 10 0 (3 * k) rfl rfl rfl (by omega) (Nat.le_of_ble_eq_true rfl) dX5_comes_167 ?_
      refine sti (x := (mtd_ M) (3 * k)) (y := nI k_) ((hok.2.2.1 (Or.inl (hlt.symm.trans c_10_113))).trans e_) ?_
      refine lv_ishl hx hb dX5_comes_168 ?_
      refine lv_goto (tgt := 173) hx hb dX5_comes_169 (by decide) ?_
      refine lv_ixor hx hb dX5_comes_173 ?_
      refine lv_topi (fun y_12 ey_12 => ?_)
      replace ey_12 : y_12 = (qt_ B) ^^^ (1 <<< ((nI k_) &&& 31)) := ey_12
      refine va_put (ci := 5) (ty := .int) (C := RX5) (T := TX5) (N := 33) hx hb hts hinX5 tyX5 tyX5_ok nmX5 hown hK.1 hP (va_D.adr hD0 (mW_adE rfl)) hS 0 rfl rfl 7 (by decide) (hts _ (List.mem_of_getElem? (i := 4) rfl)) (fun _ h9 => h9) rfl (by decide +kernel) (rfl) (rfl) (Nat.le_of_ble_eq_true rfl) dX5_comes_174 (fun H locs hP hD hS => ?_)
      replace hP : va_P D vwCl ([(r 0, .inr (5, [.ref (r 1), .ref (r 2), .ref (r 3), .ref (r 4), .ref (r 5), .ref (r 6), .int (nI (sn_ B)), .int (y_12), .int (il_ B), .int (pa_ B), .int (ho_ B), .int (dy_ B), .ref (r 13), .ref (r 14), .ref (r 15), .ref (r 16), .int (nI (mtn_ M)), .int (nI (mrd_ M)), .int (nI (msm_ M)), .ref (r 20), .int (mhi_ M), .int (mik_ M), .int (nI (mcu_ M)), .int (nI (mbk_ M)), .ref (r 25), .ref (r 26), .int (mlw_ M), .int (mhg_ M), .int (msl_ M), .ref (r 30), .int (nI (mrm_ M)), .ref (r 32), .int (mlo_ M)])), (r 1, .inl (cI, 7, .inl (mrf_ M))), (r 2, .inl (cI, 7, .inl (kd_ B))), (r 3, .inl (cI, 7, .inl (fg_ B))), (r 4, .inl (cI, 7, .inl (pl_ B))), (r 5, .inl (cI, 7, .inl (pw_ B))), (r 6, .inl (cI, 7, .inl (jy_ B))), (r 13, .inl (cI, 96, .inl (mtp_ M))), (r 14, .inl (cI, 48, .inl (mlt_ M))), (r 15, .inl (cI, 48, .inl (mla_ M))), (r 16, .inl (cI, 144, .inl (mtd_ M))), (r 20, .inl (cI, 451, .inl (flatK (mkp_ M)))), (r 25, .inl (cI, 7, .inl (mof_ M))), (r 26, .inl (cI, 7, .inl (mfa_ M))), (r 30, .inl (cI, 12, .inl (mrw_ M))), (r 32, .inl (cI, 8, .inl (mhb_ M)))]) H := hP
      refine lv_aload_n hx hb dX5_comes_177 rfl (lv_at hl 1 rfl) ?_
      refine lv_aload_n hx hb dX5_comes_178 rfl (lv_at hl 1 rfl) ?_
      refine va_get (ci := 5) (C := RX5) (T := TX5) (N := 33) hx hb hts hinX5 hown hK.1 hP 0 rfl rfl 15 (by decide) (hts _ (List.mem_of_getElem? (i := 2) rfl)) (fun _ h9 => h9) rfl dX5_comes_179 ?_
      refine lv_iload_n hx hb dX5_comes_182 rfl (lv_at hl 0 rfl) ?_
      refine jald hx hb hK.1 hP 10 0 (3 * k) rfl rfl rfl (by omega) (Nat.le_of_ble_eq_true rfl) dX5_comes_183 ?_
      refine sti (x := (mtd_ M) (3 * k)) (y := dt_ L ln (i9 + 1)) (hok.2.2.1 (Or.inl (hlt.symm.trans c_10_113))) ?_
      refine kSiV hx hb hml hown hts hK hP gX5_comes_X5_isShore okX5_isShore (qX5_isShore l D cI cB r (mkB (kd_ B) (fg_ B) (pl_ B) (pw_ B) (jy_ B) y_12 (sn_ B) (il_ B) (pa_ B) (ho_ B) (dy_ B)) M (dt_ L ln (i9 + 1)) (by show sn_ B ≤ 7; omega)) [0, 1, 2, 3, 4, 5, 6, 7, 8, 9, 10, 11, 12, 13, 14, 15] rfl rfl rfl rfl (by decide) hl.1 rfl rfl (Nat.le_of_ble_eq_true rfl) dX5_comes_184 (by decide) (fun r_13 hr_14 => ?_)
      replace hr_14 : r_13 = b1 (0 ≤ (dt_ L ln (i9 + 1)) ∧ (dt_ L ln (i9 + 1)) < nI (sn_ (mkB (kd_ B) (fg_ B) (pl_ B) (pw_ B) (jy_ B) y_12 (sn_ B) (il_ B) (pa_ B) (ho_ B) (dy_ B)))) := hr_14
      subst r_13
      (try rw [ey_12] at hP); (try rw [ey_12] at hD); (try rw [ey_12] at hl); (try rw [ey_12] at c_158); (try rw [ey_12])
      refine rMz hx hb hr hlk hS (mkB (kd_ B) (fg_ B) (pl_ B) (pw_ B) (jy_ B) ((qt_ B) ^^^ (1 <<< ((nI k_) &&& 31))) (sn_ B) (il_ B) (pa_ B) (ho_ B) (dy_ B)) hP (b1_01 _) ?_ dX5_comes_187
      first | exact cm_113 (hlt.symm.trans c_10_113) c_158 | exact cm_113b (hlt.symm.trans c_10_113) e_ hk_ hn7
  by_cases c_10_114 : (mlt_ M) k = 114
  · exact absurd (show db_ (la_ L ln i9) = 0 by rw [← hlt, c_10_114]; rfl) hdb.1
  by_cases c_10_115 : (mlt_ M) k = 115
  · refine lv_tableIn (off := 70) (tgt := 80) hx hb dX5_comes_10 (by rw [c_10_115]; decide) (by rw [c_10_115]; decide) (by rw [c_10_115]; rfl) (by decide) ?_
    refine lv_aload_n hx hb dX5_comes_80 rfl (lv_at hl 1 rfl) ?_
    refine lv_aload_n hx hb dX5_comes_81 rfl (lv_at hl 1 rfl) ?_
    refine va_get (ci := 5) (C := RX5) (T := TX5) (N := 33) hx hb hts hinX5 hown hK.1 hP 0 rfl rfl 15 (by decide) (hts _ (List.mem_of_getElem? (i := 2) rfl)) (fun _ h9 => h9) rfl dX5_comes_82 ?_
    refine lv_iload_n hx hb dX5_comes_85 rfl (lv_at hl 0 rfl) ?_
    refine jald hx hb hK.1 hP 10 0 (3 * k) rfl rfl rfl (by omega) (Nat.le_of_ble_eq_true rfl) dX5_comes_86 ?_
    refine sti (x := (mtd_ M) (3 * k)) (y := dt_ L ln (i9 + 1)) ((hok.1 (hlt.symm.trans c_10_115)).1) ?_
    refine lv_aload_n hx hb dX5_comes_87 rfl (lv_at hl 1 rfl) ?_
    refine va_get (ci := 5) (C := RX5) (T := TX5) (N := 33) hx hb hts hinX5 hown hK.1 hP 0 rfl rfl 15 (by decide) (hts _ (List.mem_of_getElem? (i := 2) rfl)) (fun _ h9 => h9) rfl dX5_comes_88 ?_
    refine lv_iload_n hx hb dX5_comes_91 rfl (lv_at hl 0 rfl) ?_
    refine lv_iconst (v := 1) hx hb dX5_comes_92 (by decide) ?_
    refine lv_iadd hx hb dX5_comes_93 ?_
    refine jald hx hb hK.1 hP 10 0 (3 * k + 1) rfl rfl (nI_1 _) (by omega) (Nat.le_of_ble_eq_true rfl) dX5_comes_94 ?_
    refine sti (x := (mtd_ M) (3 * k + 1)) (y := dt_ L ln (i9 + 2)) ((hok.1 (hlt.symm.trans c_10_115)).2.1) ?_
    refine lv_aload_n hx hb dX5_comes_95 rfl (lv_at hl 1 rfl) ?_
    refine va_get (ci := 5) (C := RX5) (T := TX5) (N := 33) hx hb hts hinX5 hown hK.1 hP 0 rfl rfl 15 (by decide) (hts _ (List.mem_of_getElem? (i := 2) rfl)) (fun _ h9 => h9) rfl dX5_comes_96 ?_
    refine lv_iload_n hx hb dX5_comes_99 rfl (lv_at hl 0 rfl) ?_
    refine lv_iconst (v := 2) hx hb dX5_comes_100 (by decide) ?_
    refine lv_iadd hx hb dX5_comes_101 ?_
    refine jald hx hb hK.1 hP 10 0 (3 * k + 2) rfl rfl (nI_2 _) (by omega) (Nat.le_of_ble_eq_true rfl) dX5_comes_102 ?_
    have hD1 := dt_9 (hdg 0 (by rw [(hlt.symm.trans c_10_115)]; decide))
    have hD2 := dt_9 (hdg 1 (by rw [(hlt.symm.trans c_10_115)]; decide))
    refine sti (x := (mtd_ M) (3 * k + 2)) (y := nm_ L ln (i9 + 3)) ((hok.1 (hlt.symm.trans c_10_115)).2.2) ?_
    refine kMiV hx hb hml hown hts hK hP (va_D.adr hD0 (mW_adE rfl)) hA hS gX5_comes_X5_comesShore okX5_comesShore (qX5_comesShore l D cI cB r B M (dt_ L ln (i9 + 1)) (dt_ L ln (i9 + 2)) (nm_ L ln (i9 + 3)) hI hD1 hD2) [0, 1, 2, 3, 4, 5, 6, 7, 8, 9, 10, 11, 12, 13, 14, 15] rfl (by decide) (fun _ => mW_adr _ _ _ _ _ _) rfl rfl rfl (by decide) hl.1 rfl rfl (Nat.le_of_ble_eq_true rfl) dX5_comes_103 (by decide) (fun r_15 u_16 H locs hw_17 hP hD hS => ?_)
    replace hw_17 : r_15 = b1 (rs_ B (dt_ L ln (i9 + 1)) (dt_ L ln (i9 + 2)) (nm_ L ln (i9 + 3)) = 0) ∧ u_16 = (if rs_ B (dt_ L ln (i9 + 1)) (dt_ L ln (i9 + 2)) (nm_ L ln (i9 + 3)) = 0 then ad_ B (dt_ L ln (i9 + 1)) (dt_ L ln (i9 + 2)) (nm_ L ln (i9 + 3)) else B) := hw_17
    obtain ⟨hw_17a, hw_17b⟩ := hw_17
    subst r_15
    subst u_16
    replace hP : va_P D vwCl ([(r 0, .inr (5, [.ref (r 1), .ref (r 2), .ref (r 3), .ref (r 4), .ref (r 5), .ref (r 6), .int (nI (sn_ (if rs_ B (dt_ L ln (i9 + 1)) (dt_ L ln (i9 + 2)) (nm_ L ln (i9 + 3)) = 0 then ad_ B (dt_ L ln (i9 + 1)) (dt_ L ln (i9 + 2)) (nm_ L ln (i9 + 3)) else B))), .int (qt_ (if rs_ B (dt_ L ln (i9 + 1)) (dt_ L ln (i9 + 2)) (nm_ L ln (i9 + 3)) = 0 then ad_ B (dt_ L ln (i9 + 1)) (dt_ L ln (i9 + 2)) (nm_ L ln (i9 + 3)) else B)), .int (il_ (if rs_ B (dt_ L ln (i9 + 1)) (dt_ L ln (i9 + 2)) (nm_ L ln (i9 + 3)) = 0 then ad_ B (dt_ L ln (i9 + 1)) (dt_ L ln (i9 + 2)) (nm_ L ln (i9 + 3)) else B)), .int (pa_ (if rs_ B (dt_ L ln (i9 + 1)) (dt_ L ln (i9 + 2)) (nm_ L ln (i9 + 3)) = 0 then ad_ B (dt_ L ln (i9 + 1)) (dt_ L ln (i9 + 2)) (nm_ L ln (i9 + 3)) else B)), .int (ho_ (if rs_ B (dt_ L ln (i9 + 1)) (dt_ L ln (i9 + 2)) (nm_ L ln (i9 + 3)) = 0 then ad_ B (dt_ L ln (i9 + 1)) (dt_ L ln (i9 + 2)) (nm_ L ln (i9 + 3)) else B)), .int (dy_ (if rs_ B (dt_ L ln (i9 + 1)) (dt_ L ln (i9 + 2)) (nm_ L ln (i9 + 3)) = 0 then ad_ B (dt_ L ln (i9 + 1)) (dt_ L ln (i9 + 2)) (nm_ L ln (i9 + 3)) else B)), .ref (r 13), .ref (r 14), .ref (r 15), .ref (r 16), .int (nI (mtn_ M)), .int (nI (mrd_ M)), .int (nI (msm_ M)), .ref (r 20), .int (mhi_ M), .int (mik_ M), .int (nI (mcu_ M)), .int (nI (mbk_ M)), .ref (r 25), .ref (r 26), .int (mlw_ M), .int (mhg_ M), .int (msl_ M), .ref (r 30), .int (nI (mrm_ M)), .ref (r 32), .int (mlo_ M)])), (r 1, .inl (cI, 7, .inl (mrf_ M))), (r 2, .inl (cI, 7, .inl (kd_ (if rs_ B (dt_ L ln (i9 + 1)) (dt_ L ln (i9 + 2)) (nm_ L ln (i9 + 3)) = 0 then ad_ B (dt_ L ln (i9 + 1)) (dt_ L ln (i9 + 2)) (nm_ L ln (i9 + 3)) else B)))), (r 3, .inl (cI, 7, .inl (fg_ (if rs_ B (dt_ L ln (i9 + 1)) (dt_ L ln (i9 + 2)) (nm_ L ln (i9 + 3)) = 0 then ad_ B (dt_ L ln (i9 + 1)) (dt_ L ln (i9 + 2)) (nm_ L ln (i9 + 3)) else B)))), (r 4, .inl (cI, 7, .inl (pl_ (if rs_ B (dt_ L ln (i9 + 1)) (dt_ L ln (i9 + 2)) (nm_ L ln (i9 + 3)) = 0 then ad_ B (dt_ L ln (i9 + 1)) (dt_ L ln (i9 + 2)) (nm_ L ln (i9 + 3)) else B)))), (r 5, .inl (cI, 7, .inl (pw_ (if rs_ B (dt_ L ln (i9 + 1)) (dt_ L ln (i9 + 2)) (nm_ L ln (i9 + 3)) = 0 then ad_ B (dt_ L ln (i9 + 1)) (dt_ L ln (i9 + 2)) (nm_ L ln (i9 + 3)) else B)))), (r 6, .inl (cI, 7, .inl (jy_ (if rs_ B (dt_ L ln (i9 + 1)) (dt_ L ln (i9 + 2)) (nm_ L ln (i9 + 3)) = 0 then ad_ B (dt_ L ln (i9 + 1)) (dt_ L ln (i9 + 2)) (nm_ L ln (i9 + 3)) else B)))), (r 13, .inl (cI, 96, .inl (mtp_ M))), (r 14, .inl (cI, 48, .inl (mlt_ M))), (r 15, .inl (cI, 48, .inl (mla_ M))), (r 16, .inl (cI, 144, .inl (mtd_ M))), (r 20, .inl (cI, 451, .inl (flatK (mkp_ M)))), (r 25, .inl (cI, 7, .inl (mof_ M))), (r 26, .inl (cI, 7, .inl (mfa_ M))), (r 30, .inl (cI, 12, .inl (mrw_ M))), (r 32, .inl (cI, 8, .inl (mhb_ M)))]) H := (va_P.m [true, true, true, true, true, true, true, true, true, true, true, true, true, true, true, true] [] hP)
    refine rMz hx hb hr hlk hS (if rs_ B (dt_ L ln (i9 + 1)) (dt_ L ln (i9 + 2)) (nm_ L ln (i9 + 3)) = 0 then ad_ B (dt_ L ln (i9 + 1)) (dt_ L ln (i9 + 2)) (nm_ L ln (i9 + 3)) else B) hP (b1_01 _) ?_ dX5_comes_106
    exact cm_115 (hlt.symm.trans c_10_115)
  by_cases c_10_116 : (mlt_ M) k = 116
  · exact absurd (show db_ (la_ L ln i9) = 0 by rw [← hlt, c_10_116]; rfl) hdb.1
  by_cases c_10_117 : (mlt_ M) k = 117
  · exact absurd (show db_ (la_ L ln i9) = 0 by rw [← hlt, c_10_117]; rfl) hdb.1
  by_cases c_10_118 : (mlt_ M) k = 118
  · refine lv_tableIn (off := 196) (tgt := 206) hx hb dX5_comes_10 (by rw [c_10_118]; decide) (by rw [c_10_118]; decide) (by rw [c_10_118]; rfl) (by decide) ?_
    refine lv_aload_n hx hb dX5_comes_206 rfl (lv_at hl 1 rfl) ?_
    refine lv_aload_n hx hb dX5_comes_207 rfl (lv_at hl 1 rfl) ?_
    refine va_get (ci := 5) (C := RX5) (T := TX5) (N := 33) hx hb hts hinX5 hown hK.1 hP 0 rfl rfl 15 (by decide) (hts _ (List.mem_of_getElem? (i := 2) rfl)) (fun _ h9 => h9) rfl dX5_comes_208 ?_
    refine lv_iload_n hx hb dX5_comes_211 rfl (lv_at hl 0 rfl) ?_
    refine jald hx hb hK.1 hP 10 0 (3 * k) rfl rfl rfl (by omega) (Nat.le_of_ble_eq_true rfl) dX5_comes_212 ?_
    refine sti (x := (mtd_ M) (3 * k)) (y := dt_ L ln (i9 + 1)) (hok.2.2.1 (Or.inr (hlt.symm.trans c_10_118))) ?_
    refine lv_topi (fun y_18 ey_18 => ?_)
    replace ey_18 : y_18 = dt_ L ln (i9 + 1) := ey_18
    refine va_put (ci := 5) (ty := .int) (C := RX5) (T := TX5) (N := 33) hx hb hts hinX5 tyX5 tyX5_ok nmX5 hown hK.1 hP (va_D.adr hD0 (mW_adE rfl)) hS 0 rfl rfl 9 (by decide) (hts _ (List.mem_of_getElem? (i := 6) rfl)) (fun _ h9 => h9) rfl (by decide +kernel) (rfl) (rfl) (Nat.le_of_ble_eq_true rfl) dX5_comes_213 (fun H locs hP hD hS => ?_)
    replace hP : va_P D vwCl ([(r 0, .inr (5, [.ref (r 1), .ref (r 2), .ref (r 3), .ref (r 4), .ref (r 5), .ref (r 6), .int (nI (sn_ B)), .int (qt_ B), .int (il_ B), .int (y_18), .int (ho_ B), .int (dy_ B), .ref (r 13), .ref (r 14), .ref (r 15), .ref (r 16), .int (nI (mtn_ M)), .int (nI (mrd_ M)), .int (nI (msm_ M)), .ref (r 20), .int (mhi_ M), .int (mik_ M), .int (nI (mcu_ M)), .int (nI (mbk_ M)), .ref (r 25), .ref (r 26), .int (mlw_ M), .int (mhg_ M), .int (msl_ M), .ref (r 30), .int (nI (mrm_ M)), .ref (r 32), .int (mlo_ M)])), (r 1, .inl (cI, 7, .inl (mrf_ M))), (r 2, .inl (cI, 7, .inl (kd_ B))), (r 3, .inl (cI, 7, .inl (fg_ B))), (r 4, .inl (cI, 7, .inl (pl_ B))), (r 5, .inl (cI, 7, .inl (pw_ B))), (r 6, .inl (cI, 7, .inl (jy_ B))), (r 13, .inl (cI, 96, .inl (mtp_ M))), (r 14, .inl (cI, 48, .inl (mlt_ M))), (r 15, .inl (cI, 48, .inl (mla_ M))), (r 16, .inl (cI, 144, .inl (mtd_ M))), (r 20, .inl (cI, 451, .inl (flatK (mkp_ M)))), (r 25, .inl (cI, 7, .inl (mof_ M))), (r 26, .inl (cI, 7, .inl (mfa_ M))), (r 30, .inl (cI, 12, .inl (mrw_ M))), (r 32, .inl (cI, 8, .inl (mhb_ M)))]) H := hP
    refine lv_aload_n hx hb dX5_comes_216 rfl (lv_at hl 1 rfl) ?_
    refine va_get (ci := 5) (C := RX5) (T := TX5) (N := 33) hx hb hts hinX5 hown hK.1 hP 0 rfl rfl 9 (by decide) (hts _ (List.mem_of_getElem? (i := 6) rfl)) (fun _ h9 => h9) rfl dX5_comes_217 ?_
    refine lv_iconst (v := 1) hx hb dX5_comes_220 (by decide) ?_
    refine lv_iconst (v := 5) hx hb dX5_comes_221 (by decide) ?_
    refine kSiS hx hb hml hown hts hK hP gX5_comes_X5_isIn okX5_isIn (qX5_isIn l D cI cB y_18 1 5 ) [] rfl (by decide) hl.1 rfl rfl (Nat.le_of_ble_eq_true rfl) dX5_comes_222 (by decide) (fun r_19 hr_20 => ?_)
    replace hr_20 : r_19 = b1 (1 ≤ y_18 ∧ y_18 ≤ 5) := hr_20
    subst r_19
    (try rw [ey_18] at hP); (try rw [ey_18] at hD); (try rw [ey_18] at hl); (try rw [ey_18])
    refine rMz hx hb hr hlk hS (mkB (kd_ B) (fg_ B) (pl_ B) (pw_ B) (jy_ B) (qt_ B) (sn_ B) (il_ B) (dt_ L ln (i9 + 1)) (ho_ B) (dy_ B)) hP (b1_01 _) ?_ dX5_comes_225
    exact cm_118 (hlt.symm.trans c_10_118)
  refine lv_tableOut (tgt := 226) hx hb dX5_comes_10 (by have t0 := lv_neT c_10_105 (a := 105) (by decide); have t1 := lv_neT c_10_106 (a := 106) (by decide); have t2 := lv_neT c_10_107 (a := 107) (by decide); have t3 := lv_neT c_10_108 (a := 108) (by decide); have t4 := lv_neT c_10_109 (a := 109) (by decide); have t5 := lv_neT c_10_110 (a := 110) (by decide); have t6 := lv_neT c_10_111 (a := 111) (by decide); have t7 := lv_neT c_10_112 (a := 112) (by decide); have t8 := lv_neT c_10_113 (a := 113) (by decide); have t9 := lv_neT c_10_114 (a := 114) (by decide); have t10 := lv_neT c_10_115 (a := 115) (by decide); have t11 := lv_neT c_10_116 (a := 116) (by decide); have t12 := lv_neT c_10_117 (a := 117) (by decide); have t13 := lv_neT c_10_118 (a := 118) (by decide); omega) (by decide) ?_
  refine lv_aload_n hx hb dX5_comes_226 rfl (lv_at hl 1 rfl) ?_
  refine lv_aload_n hx hb dX5_comes_227 rfl (lv_at hl 1 rfl) ?_
  refine va_get (ci := 5) (C := RX5) (T := TX5) (N := 33) hx hb hts hinX5 hown hK.1 hP 0 rfl rfl 15 (by decide) (hts _ (List.mem_of_getElem? (i := 2) rfl)) (fun _ h9 => h9) rfl dX5_comes_228 ?_
  refine lv_iload_n hx hb dX5_comes_231 rfl (lv_at hl 0 rfl) ?_
  refine jald hx hb hK.1 hP 10 0 (3 * k) rfl rfl rfl (by omega) (Nat.le_of_ble_eq_true rfl) dX5_comes_232 ?_
  have hb4 := h_104 hdb.1 (fun z => c_10_115 (hlt.trans z)) (fun z => c_10_112 (hlt.trans z)) (fun z => c_10_113 (hlt.trans z)) (fun z => c_10_105 (hlt.trans z)) (fun z => c_10_118 (hlt.trans z))
  obtain ⟨n_, hn_, e_⟩ := nm_n (hdg 0 (by rw [hb4]; decide)) (hdg 1 (by rw [hb4]; decide))
  refine sti (x := (mtd_ M) (3 * k)) (y := nI n_) ((hok.2.2.2 (Or.inr hb4)).trans e_) ?_
  refine kMiV hx hb hml hown hts hK hP (va_D.adr hD0 (mW_adE rfl)) hA hS gX5_comes_X5_comesHours okX5_comesHours (qX5_comesHours l D cI cB r B M n_ hI (by omega)) [0, 1, 2, 3, 4, 5, 6, 7, 8, 9, 10, 11, 12, 13, 14, 15] rfl (by decide) (fun _ => mW_adr _ _ _ _ _ _) rfl rfl rfl (by decide) hl.1 rfl rfl (Nat.le_of_ble_eq_true rfl) dX5_comes_233 (by decide) (fun r_21 u_22 H locs hw_23 hP hD hS => ?_)
  replace hw_23 : r_21 = b1 (rh_ B (nI n_) = 0) ∧ u_22 = (if rh_ B (nI n_) = 0 then hs_ n_ B else B) := hw_23
  obtain ⟨hw_23a, hw_23b⟩ := hw_23
  subst r_21
  subst u_22
  replace hP : va_P D vwCl ([(r 0, .inr (5, [.ref (r 1), .ref (r 2), .ref (r 3), .ref (r 4), .ref (r 5), .ref (r 6), .int (nI (sn_ (if rh_ B (nI n_) = 0 then hs_ n_ B else B))), .int (qt_ (if rh_ B (nI n_) = 0 then hs_ n_ B else B)), .int (il_ (if rh_ B (nI n_) = 0 then hs_ n_ B else B)), .int (pa_ (if rh_ B (nI n_) = 0 then hs_ n_ B else B)), .int (ho_ (if rh_ B (nI n_) = 0 then hs_ n_ B else B)), .int (dy_ (if rh_ B (nI n_) = 0 then hs_ n_ B else B)), .ref (r 13), .ref (r 14), .ref (r 15), .ref (r 16), .int (nI (mtn_ M)), .int (nI (mrd_ M)), .int (nI (msm_ M)), .ref (r 20), .int (mhi_ M), .int (mik_ M), .int (nI (mcu_ M)), .int (nI (mbk_ M)), .ref (r 25), .ref (r 26), .int (mlw_ M), .int (mhg_ M), .int (msl_ M), .ref (r 30), .int (nI (mrm_ M)), .ref (r 32), .int (mlo_ M)])), (r 1, .inl (cI, 7, .inl (mrf_ M))), (r 2, .inl (cI, 7, .inl (kd_ (if rh_ B (nI n_) = 0 then hs_ n_ B else B)))), (r 3, .inl (cI, 7, .inl (fg_ (if rh_ B (nI n_) = 0 then hs_ n_ B else B)))), (r 4, .inl (cI, 7, .inl (pl_ (if rh_ B (nI n_) = 0 then hs_ n_ B else B)))), (r 5, .inl (cI, 7, .inl (pw_ (if rh_ B (nI n_) = 0 then hs_ n_ B else B)))), (r 6, .inl (cI, 7, .inl (jy_ (if rh_ B (nI n_) = 0 then hs_ n_ B else B)))), (r 13, .inl (cI, 96, .inl (mtp_ M))), (r 14, .inl (cI, 48, .inl (mlt_ M))), (r 15, .inl (cI, 48, .inl (mla_ M))), (r 16, .inl (cI, 144, .inl (mtd_ M))), (r 20, .inl (cI, 451, .inl (flatK (mkp_ M)))), (r 25, .inl (cI, 7, .inl (mof_ M))), (r 26, .inl (cI, 7, .inl (mfa_ M))), (r 30, .inl (cI, 12, .inl (mrw_ M))), (r 32, .inl (cI, 8, .inl (mhb_ M)))]) H := (va_P.m [true, true, true, true, true, true, true, true, true, true, true, true, true, true, true, true] [] hP)
  refine rMz hx hb hr hlk hS (if rh_ B (nI n_) = 0 then hs_ n_ B else B) hP (b1_01 _) ?_ dX5_comes_236
  exact cm_104 hb4 e_ hn_

