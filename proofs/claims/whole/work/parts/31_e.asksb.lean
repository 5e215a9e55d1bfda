theorem okX5_spent : jok yX5_spent wsX5_spent cX5_spent 5 (some .int) 1 := ⟨⟨_, rfl⟩, by decide +kernel, by decide +kernel⟩
set_option maxHeartbeats 2000000 in
set_option maxRecDepth 100000 in
theorem qX5_spent (l : Launch) (D : va_G) (cI cB : ClassId) (r : Nat → Nat) (B : BayT) (M : MT) (v : Int32) (hI : bI_ B) : jMi D cI cB l yX5_spent wsX5_spent 7 [.ref (r 0), .int v] (mW cI r B M) (S := MT) (fun r u => r = (if ob_ v 0 99 = 0 then su_ (pw_ B) (sn_ B) - su_ (pw_ (hs_ (tn_ v) B)) (sn_ B) else ob_ v 0 99) ∧ oQ_ M u (ob_ v 0 99)) (fun u => mW cI r B u) := by
  refine jMi.of (cc := cX5_spent) (maxL := 5) (ret := (some .int)) okX5_spent (Nat.le_of_ble_eq_true rfl) ?_
  intro p e s m below meth c ls A hx hb hr hts hown hlk hml hP hK hD hA hS hl
  replace hown : s.vm.findClass RX5 = some m.cls := hown
  replace hl : lv_has ls 5 [(0, .ref (r 0)), (1, .int v)] := hl
  have hD0 := hD
  have hn7 := hI.1
  refine lv_iload_n hx hb dX5_spent_0 rfl (lv_at hl 1 rfl) ?_
  refine kSiS hx hb hml hown hts hK hP gX5_spent_X5_notHours okX5_notHours (qX5_notHours l D cI cB v ) [] rfl (by decide) hl.1 rfl rfl (Nat.le_of_ble_eq_true rfl) dX5_spent_1 (by decide) (fun r_1 hr_2 => ?_)
  replace hr_2 : r_1 = ob_ v 0 99 := hr_2
  subst r_1
  refine lv_istore_n (lv' := [(2, .int (ob_ v 0 99)), (0, .ref (r 0)), (1, .int v)]) hx hb dX5_spent_4 rfl hl (by decide) rfl (fun ls hl => ?_)
  refine lv_iload_n hx hb dX5_spent_5 rfl (lv_at hl 0 rfl) ?_
  refine lv_if_eq (tgt := 15) hx hb dX5_spent_6 (by decide) (fun c_6 => ?_) (fun c_6 => ?_)
  · skip
    have w0 := c_6
    simp only [wS_, wSN_, wSNW_, wNW_, wTh_, wTr_, f2_0, nb_0, ob_0, uk_0, lo_0, hi_0] at w0
    obtain ⟨v_, hv_, rfl⟩ := pl_le (n := 99) (by decide) w0
    replace hl : lv_has ls 5 [(2, .int (ob_ (nI v_) 0 99)), (0, .ref (r 0)), (1, .int (nI v_))] := hl
    refine lv_aload_n hx hb dX5_spent_15 rfl (lv_at hl 1 rfl) ?_
    refine kSiV hx hb hml hown hts hK hP gX5_spent_X5_allPowder okX5_allPowder (qX5_allPowder l D cI cB r B M (by show sn_ B ≤ 7; omega)) [0, 1, 2, 3, 4, 5, 6, 7, 8, 9, 10, 11, 12, 13, 14, 15] rfl rfl rfl rfl (by decide) hl.1 rfl rfl (Nat.le_of_ble_eq_true rfl) dX5_spent_16 (by decide) (fun r_3 hr_4 => ?_)
    replace hr_4 : r_3 = su_ (pw_ B) (sn_ B) := hr_4
    subst r_3
    refine lv_istore_n (lv' := [(3, .int (su_ (pw_ B) (sn_ B))), (2, .int (ob_ (nI v_) 0 99)), (0, .ref (r 0)), (1, .int (nI v_))]) hx hb dX5_spent_19 rfl hl (by decide) rfl (fun ls hl => ?_)
    refine lv_aload_n hx hb dX5_spent_20 rfl (lv_at hl 2 rfl) ?_
    refine kMvV hx hb hml hown hts hK hP (va_D.adr hD0 (mW_adE rfl)) hA hS gX5_spent_X5_thinks okX5_thinks (qX5_thinksE l D cI cB r B M ) [0, 1, 2, 3, 4, 5, 6, 7, 8, 9, 10, 11, 12, 13, 14, 15] rfl (by decide) (fun _ => mW_adE rfl) rfl rfl rfl (by decide) hl.1 rfl rfl (Nat.le_of_ble_eq_true rfl) dX5_spent_21 (by decide) (fun u_6 H locs hw_7 hP hD hS => ?_)
    replace hP : va_P D vwCl ([(r 0, .inr (5, [.ref (r 1), .ref (r 2), .ref (r 3), .ref (r 4), .ref (r 5), .ref (r 6), .int (nI (sn_ B)), .int (qt_ B), .int (il_ B), .int (pa_ B), .int (ho_ B), .int (dy_ B), .ref (r 13), .ref (r 14), .ref (r 15), .ref (r 16), .int (nI (mtn_ M)), .int (nI (mrd_ M)), .int (nI (msm_ M)), .ref (r 20), .int (mhi_ M), .int (1), .int (nI (41 * 2 + 41)), .int (nI (mbk_ M)), .ref (r 25), .ref (r 26), .int (mlw_ M), .int (mhg_ M), .int (msl_ M), .ref (r 30), .int (nI (mrm_ M)), .ref (r 32), .int (mlo_ M)])), (r 1, .inl (cI, 7, .inl (mrf_ M))), (r 2, .inl (cI, 7, .inl (kd_ B))), (r 3, .inl (cI, 7, .inl (fg_ B))), (r 4, .inl (cI, 7, .inl (pl_ B))), (r 5, .inl (cI, 7, .inl (pw_ B))), (r 6, .inl (cI, 7, .inl (jy_ B))), (r 13, .inl (cI, 96, .inl (mtp_ M))), (r 14, .inl (cI, 48, .inl (mlt_ M))), (r 15, .inl (cI, 48, .inl (mla_ M))), (r 16, .inl (cI, 144, .inl (mtd_ M))), (r 20, .inl (cI, 451, .inl (flatK (va_up (mkp_ M) 2 B)))), (r 25, .inl (cI, 7, .inl (mof_ M))), (r 26, .inl (cI, 7, .inl (mfa_ M))), (r 30, .inl (cI, 12, .inl (mrw_ M))), (r 32, .inl (cI, 8, .inl (mhb_ M)))]) H := (va_P.m [true, true, true, true, true, true, true, true, true, true, true, true, true, true, true, true] [] hP)
    refine lv_aload_n hx hb dX5_spent_24 rfl (lv_at hl 2 rfl) ?_
    refine lv_iload_n hx hb dX5_spent_25 rfl (lv_at hl 3 rfl) ?_
    refine kMvV hx hb hml hown hts hK hP (va_D.adr hD0 (mW_adE rfl)) hA hS gX5_spent_X5_goes okX5_goes (qX5_goes l D cI cB r B (mkM (mrf_ M) (mtp_ M) (mlt_ M) (mla_ M) (mtd_ M) (va_up (mkp_ M) 2 B) (mof_ M) (mfa_ M) (mrw_ M) (mhb_ M) (mtn_ M) (mrd_ M) (msm_ M) (41 * 2 + 41) (mbk_ M) (mrm_ M) (mhi_ M) 1 (mlw_ M) (mhg_ M) (msl_ M) (mlo_ M)) v_ hI (by omega)) [0, 1, 2, 3, 4, 5, 6, 7, 8, 9, 10, 11, 12, 13, 14, 15] rfl (by decide) (fun _ => mW_adr _ _ _ _ _ _) rfl rfl rfl (by decide) hl.1 rfl rfl (Nat.le_of_ble_eq_true rfl) dX5_spent_26 (by decide) (fun u_9 H locs hw_10 hP hD hS => ?_)
    replace hw_10 : u_9 = hs_ v_ B := hw_10
    subst u_9
    replace hP : va_P D vwCl ([(r 0, .inr (5, [.ref (r 1), .ref (r 2), .ref (r 3), .ref (r 4), .ref (r 5), .ref (r 6), .int (nI (sn_ (hs_ v_ B))), .int (qt_ (hs_ v_ B)), .int (il_ (hs_ v_ B)), .int (pa_ (hs_ v_ B)), .int (ho_ (hs_ v_ B)), .int (dy_ (hs_ v_ B)), .ref (r 13), .ref (r 14), .ref (r 15), .ref (r 16), .int (nI (mtn_ M)), .int (nI (mrd_ M)), .int (nI (msm_ M)), .ref (r 20), .int (mhi_ M), .int (1), .int (nI (41 * 2 + 41)), .int (nI (mbk_ M)), .ref (r 25), .ref (r 26), .int (mlw_ M), .int (mhg_ M), .int (msl_ M), .ref (r 30), .int (nI (mrm_ M)), .ref (r 32), .int (mlo_ M)])), (r 1, .inl (cI, 7, .inl (mrf_ M))), (r 2, .inl (cI, 7, .inl (kd_ (hs_ v_ B)))), (r 3, .inl (cI, 7, .inl (fg_ (hs_ v_ B)))), (r 4, .inl (cI, 7, .inl (pl_ (hs_ v_ B)))), (r 5, .inl (cI, 7, .inl (pw_ (hs_ v_ B)))), (r 6, .inl (cI, 7, .inl (jy_ (hs_ v_ B)))), (r 13, .inl (cI, 96, .inl (mtp_ M))), (r 14, .inl (cI, 48, .inl (mlt_ M))), (r 15, .inl (cI, 48, .inl (mla_ M))), (r 16, .inl (cI, 144, .inl (mtd_ M))), (r 20, .inl (cI, 451, .inl (flatK (va_up (mkp_ M) 2 B)))), (r 25, .inl (cI, 7, .inl (mof_ M))), (r 26, .inl (cI, 7, .inl (mfa_ M))), (r 30, .inl (cI, 12, .inl (mrw_ M))), (r 32, .inl (cI, 8, .inl (mhb_ M)))]) H := (va_P.m [true, true, true, true, true, true, true, true, true, true, true, true, true, true, true, true] [] hP)
    refine lv_iload_n hx hb dX5_spent_29 rfl (lv_at hl 0 rfl) ?_
    refine lv_aload_n hx hb dX5_spent_30 rfl (lv_at hl 2 rfl) ?_
    refine kSiV hx hb hml hown hts hK hP gX5_spent_X5_allPowder okX5_allPowder (qX5_allPowder l D cI cB r (hs_ v_ B) (mkM (mrf_ M) (mtp_ M) (mlt_ M) (mla_ M) (mtd_ M) (va_up (mkp_ M) 2 B) (mof_ M) (mfa_ M) (mrw_ M) (mhb_ M) (mtn_ M) (mrd_ M) (msm_ M) (41 * 2 + 41) (mbk_ M) (mrm_ M) (mhi_ M) 1 (mlw_ M) (mhg_ M) (msl_ M) (mlo_ M)) (by rw [sn_hs]; exact hn7)) [0, 1, 2, 3, 4, 5, 6, 7, 8, 9, 10, 11, 12, 13, 14, 15] rfl rfl rfl rfl (by decide) hl.1 rfl rfl (Nat.le_of_ble_eq_true rfl) dX5_spent_31 (by decide) (fun r_11 hr_12 => ?_)
    replace hr_12 : r_11 = su_ (pw_ (hs_ v_ B)) (sn_ (hs_ v_ B)) := hr_12
    subst r_11
    refine lv_isub hx hb dX5_spent_34 ?_
    refine lv_istore (lv' := [(4, .int ((su_ (pw_ B) (sn_ B)) - (su_ (pw_ (hs_ v_ B)) (sn_ (hs_ v_ B))))), (3, .int (su_ (pw_ B) (sn_ B))), (2, .int (ob_ (nI v_) 0 99)), (0, .ref (r 0)), (1, .int (nI v_))]) hx hb dX5_spent_35 hl (by decide) rfl (fun ls hl => ?_)
    refine lv_aload_n hx hb dX5_spent_37 rfl (lv_at hl 3 rfl) ?_
    refine kMvV hx hb hml hown hts hK hP (va_D.adr hD0 (mW_adE rfl)) hA hS gX5_spent_X5_forgets okX5_forgets (qX5_forgetsE l D cI cB r (hs_ v_ B) (mkM (mrf_ M) (mtp_ M) (mlt_ M) (mla_ M) (mtd_ M) (va_up (mkp_ M) 2 B) (mof_ M) (mfa_ M) (mrw_ M) (mhb_ M) (mtn_ M) (mrd_ M) (msm_ M) (41 * 2 + 41) (mbk_ M) (mrm_ M) (mhi_ M) 1 (mlw_ M) (mhg_ M) (msl_ M) (mlo_ M)) ) [0, 1, 2, 3, 4, 5, 6, 7, 8, 9, 10, 11, 12, 13, 14, 15] rfl (by decide) (fun _ => mW_adE rfl) rfl rfl rfl (by decide) hl.1 rfl rfl (Nat.le_of_ble_eq_true rfl) dX5_spent_38 (by decide) (fun u_14 H locs hw_15 hP hD hS => ?_)
    replace hP : va_P D vwCl ([(r 0, .inr (5, [.ref (r 1), .ref (r 2), .ref (r 3), .ref (r 4), .ref (r 5), .ref (r 6), .int (nI (sn_ B)), .int (qt_ B), .int (il_ B), .int (pa_ B), .int (ho_ B), .int (dy_ B), .ref (r 13), .ref (r 14), .ref (r 15), .ref (r 16), .int (nI (mtn_ M)), .int (nI (mrd_ M)), .int (nI (msm_ M)), .ref (r 20), .int (mhi_ M), .int (0), .int (nI (41 * 2 + 41)), .int (nI (mbk_ M)), .ref (r 25), .ref (r 26), .int (mlw_ M), .int (mhg_ M), .int (msl_ M), .ref (r 30), .int (nI (mrm_ M)), .ref (r 32), .int (mlo_ M)])), (r 1, .inl (cI, 7, .inl (mrf_ M))), (r 2, .inl (cI, 7, .inl (kd_ B))), (r 3, .inl (cI, 7, .inl (fg_ B))), (r 4, .inl (cI, 7, .inl (pl_ B))), (r 5, .inl (cI, 7, .inl (pw_ B))), (r 6, .inl (cI, 7, .inl (jy_ B))), (r 13, .inl (cI, 96, .inl (mtp_ M))), (r 14, .inl (cI, 48, .inl (mlt_ M))), (r 15, .inl (cI, 48, .inl (mla_ M))), (r 16, .inl (cI, 144, .inl (mtd_ M))), (r 20, .inl (cI, 451, .inl (flatK (va_up (mkp_ M) 2 B)))), (r 25, .inl (cI, 7, .inl (mof_ M))), (r 26, .inl (cI, 7, .inl (mfa_ M))), (r 30, .inl (cI, 12, .inl (mrw_ M))), (r 32, .inl (cI, 8, .inl (mhb_ M)))]) H := (va_P.m [true, true, true, true, true, true, true, true, true, true, true, true, true, true, true, true] [] hP)
    refine lv_iload hx hb dX5_spent_41 (lv_at hl 0 rfl) ?_
    refine rMi hx hb hr hlk hS (mkM (mrf_ M) (mtp_ M) (mlt_ M) (mla_ M) (mtd_ M) (va_up (mkp_ M) 2 B) (mof_ M) (mfa_ M) (mrw_ M) (mhb_ M) (mtn_ M) (mrd_ M) (msm_ M) (41 * 2 + 41) (mbk_ M) (mrm_ M) (mhi_ M) 0 (mlw_ M) (mhg_ M) (msl_ M) (mlo_ M)) hP ?_ dX5_spent_43
    first | exact ⟨(if_neg c_6).symm, oQ_n _ _⟩ | exact ⟨by (rw [if_pos c_6]; simp only [tn_n (show v_ < 2147483648 by omega)]; rw [sn_hs]), oQ_0 c_6 (by (first | exact (oN_mk (by assumption)).m | exact oM_.rf _ | exact (oN_pp _ _).m | exact (oN_fo _ _ _ _).m | assumption | (apply oN_.m; assumption) | exact oM_.tr (by assumption) (by assumption)))⟩
  · skip
    refine lv_aload_n hx hb dX5_spent_9 rfl (lv_at hl 1 rfl) ?_
    refine lv_iload_n hx hb dX5_spent_10 rfl (lv_at hl 0 rfl) ?_
    refine kMiV hx hb hml hown hts hK hP (va_D.adr hD0 (mW_adE rfl)) hA hS gX5_spent_X5_no okX5_no (qX5_no l D cI cB r B M (ob_ v 0 99) (rc0_n (by first | exact rc0_wS _ _ | exact rc0_wSN _ _ _ | exact rc0_wSNW _ _ _ _ | exact rc0_wNW _ _ | exact rc0_wTh _ _ _ _ _ | exact rc0_wTr _ _ _ _ | exact rc0_nb _ _ | exact rc0_uk _ _ | exact rc0_ob _ _ _ | exact rc0_f2 (rc0_nb _ _) (rc0_nb _ _) | exact rc0_f2 (rc0_nb _ _) (rc0_uk _ _) | exact rc0_f2 (rc0_ob _ _ _) (rc0_uk _ _) | exact rc0_f2 (rc0_uk _ _) (rc0_f2 (rc0_uk _ _) (rc0_ob _ _ _))) c_6)) [0, 1, 2, 3, 4, 5, 6, 7, 8, 9, 10, 11, 12, 13, 14, 15] rfl (by decide) (fun _ => mW_adr _ _ _ _ _ _) rfl rfl rfl (by decide) hl.1 rfl rfl (Nat.le_of_ble_eq_true rfl) dX5_spent_11 (by decide) (fun r_16 u_17 H locs hw_18 hP hD hS => ?_)
    replace hw_18 : r_16 = ob_ v 0 99 ∧ u_17 = (rfm_ M (ob_ v 0 99)) := hw_18
    obtain ⟨hw_18a, hw_18b⟩ := hw_18
    subst r_16
    subst u_17
    replace hP : va_P D vwCl ([(r 0, .inr (5, [.ref (r 1), .ref (r 2), .ref (r 3), .ref (r 4), .ref (r 5), .ref (r 6), .int (nI (sn_ B)), .int (qt_ B), .int (il_ B), .int (pa_ B), .int (ho_ B), .int (dy_ B), .ref (r 13), .ref (r 14), .ref (r 15), .ref (r 16), .int (nI (mtn_ M)), .int (nI (mrd_ M)), .int (nI (msm_ M)), .ref (r 20), .int (mhi_ M), .int (mik_ M), .int (nI (mcu_ M)), .int (nI (mbk_ M)), .ref (r 25), .ref (r 26), .int (mlw_ M), .int (mhg_ M), .int (msl_ M), .ref (r 30), .int (nI (mrm_ M)), .ref (r 32), .int (mlo_ M)])), (r 1, .inl (cI, 7, .inl (rfx_ (mrf_ M) (ob_ v 0 99)))), (r 2, .inl (cI, 7, .inl (kd_ B))), (r 3, .inl (cI, 7, .inl (fg_ B))), (r 4, .inl (cI, 7, .inl (pl_ B))), (r 5, .inl (cI, 7, .inl (pw_ B))), (r 6, .inl (cI, 7, .inl (jy_ B))), (r 13, .inl (cI, 96, .inl (mtp_ M))), (r 14, .inl (cI, 48, .inl (mlt_ M))), (r 15, .inl (cI, 48, .inl (mla_ M))), (r 16, .inl (cI, 144, .inl (mtd_ M))), (r 20, .inl (cI, 451, .inl (flatK (mkp_ M)))), (r 25, .inl (cI, 7, .inl (mof_ M))), (r 26, .inl (cI, 7, .inl (mfa_ M))), (r 30, .inl (cI, 12, .inl (mrw_ M))), (r 32, .inl (cI, 8, .inl (mhb_ M)))]) H := (va_P.m [true, true, true, true, true, true, true, true, true, true, true, true, true, true, true, true] [] hP)
    refine rMi hx hb hr hlk hS (rfm_ M (ob_ v 0 99)) hP ?_ dX5_spent_14
    first | exact ⟨(if_neg c_6).symm, oQ_n _ _⟩ | exact ⟨by (rw [if_pos c_6]; simp only [tn_n (show v_ < 2147483648 by omega)]; rw [sn_hs]), oQ_0 c_6 (by (first | exact (oN_mk (by assumption)).m | exact oM_.rf _ | exact (oN_pp _ _).m | exact (oN_fo _ _ _ _).m | assumption | (apply oN_.m; assumption) | exact oM_.tr (by assumption) (by assumption)))⟩

theorem okX5_swap : jok yX5_swap wsX5_swap cX5_swap 9 (some .int) 2 := ⟨⟨_, rfl⟩, by decide +kernel, by decide +kernel⟩
set_option maxHeartbeats 2000000 in
set_option maxRecDepth 100000 in
theorem qX5_swap (l : Launch) (D : va_G) (cI cB : ClassId) (r : Nat → Nat) (B : BayT) (M : MT) (a : Int32) (v : Int32) (hI : bI_ B) : jMi D cI cB l yX5_swap wsX5_swap 9 [.ref (r 0), .int a, .int v] (mW cI r B M) (S := MT) (fun r u => r = (if wSN_ (sn_ B) a v = 0 then (s2_ B (tn_ a) (tn_ v) (sn_ B)).1 else wSN_ (sn_ B) a v) ∧ oQ_ M u (wSN_ (sn_ B) a v)) (fun u => mW cI r B u) := by
  refine jMi.of (cc := cX5_swap) (maxL := 9) (ret := (some .int)) okX5_swap (Nat.le_of_ble_eq_true rfl) ?_
  intro p e s m below meth c ls A hx hb hr hts hown hlk hml hP hK hD hA hS hl
  replace hown : s.vm.findClass RX5 = some m.cls := hown
  replace hl : lv_has ls 9 [(0, .ref (r 0)), (1, .int a), (2, .int v)] := hl
  have hD0 := hD
  have hn7 := hI.1
  have hinX5 : ∀ w ∈ wsX50, w ∈ wsX5_swap := by decide +kernel
  have jn_17 : ∀  (x3_17 : Int32) , (x3_17 = wSN_ (sn_ B) a v) → ∀ (H : Heap) (locs : List Loc), va_P D vwCl (mW cI r B M) H → va_D A (mW cI r B M) → va_S A s.heap H locs → ∀ ls : Array Slot, lv_has ls 9 [(3, .int x3_17), (0, .ref (r 0)), (1, .int a), (2, .int v)] → W p l e (jR 9) s m ([.ref (r 0), .int a, .int v] : List Value).toArray below meth c H locs 0 0 (MQ below (va_Qi (S := MT) (fun r u => r = (if wSN_ (sn_ B) a v = 0 then (s2_ B (tn_ a) (tn_ v) (sn_ B)).1 else wSN_ (sn_ B) a v) ∧ oQ_ M u (wSN_ (sn_ B) a v)) (fun u t => va_P D vwCl ((fun u => mW cI r B u) u) t.heap) A) ([.ref (r 0), .int a, .int v] : List Value).toArray s 0 0 A) (F0 m 17 ls []) := by
      intro x3_17 hx3_17 H locs hP hD hS ls hl
      subst x3_17
      replace hl : lv_has ls 9 [(3, .int (wSN_ (sn_ B) a v)), (0, .ref (r 0)), (1, .int a), (2, .int v)] := hl
      replace hP : va_P D vwCl (mW cI r B M) H := hP
      refine lv_iload_n hx hb dX5_swap_17 rfl (lv_at hl 0 rfl) ?_
      refine lv_if_eq (tgt := 27) hx hb dX5_swap_18 (by decide) (fun c_18 => ?_) (fun c_18 => ?_)
      · skip
        have w0 := c_18
        simp only [wS_, wSN_, wSNW_, wNW_, wTh_, wTr_, f2_0, nb_0, ob_0, uk_0, lo_0, hi_0] at w0
        obtain ⟨a_, ha_, rfl⟩ := pl_lt (n := sn_ B) (by omega) w0.1
        obtain ⟨v_, hv_, rfl⟩ := pl_le (n := 99) (by decide) w0.2
        replace hl : lv_has ls 9 [(3, .int (wSN_ (sn_ B) (nI a_) (nI v_))), (0, .ref (r 0)), (1, .int (nI a_)), (2, .int (nI v_))] := hl
        refine lv_bipush (v := (-9)) hx hb dX5_swap_27 (by decide) ?_
        refine lv_istore (lv' := [(4, .int (-9)), (3, .int (wSN_ (sn_ B) (nI a_) (nI v_))), (0, .ref (r 0)), (1, .int (nI a_)), (2, .int (nI v_))]) hx hb dX5_swap_29 hl (by decide) rfl (fun ls hl => ?_)
        refine lv_aload_n hx hb dX5_swap_31 rfl (lv_at hl 2 rfl) ?_
        refine lv_iload_n hx hb dX5_swap_32 rfl (lv_at hl 3 rfl) ?_
        refine lv_iload_n hx hb dX5_swap_33 rfl (lv_at hl 4 rfl) ?_
        refine kMiV hx hb hml hown hts hK hP (va_D.adr hD0 (mW_adE rfl)) hA hS gX5_swap_X5_oftenOf okX5_oftenOf (qX5_oftenOf l D cI cB r B M a_ v_ hI ha_ (by omega)) [0, 1, 2, 3, 4, 5, 6, 7, 8, 9, 10, 11, 12, 13, 14, 15] rfl (by decide) (fun _ => mW_adr _ _ _ _ _ _) rfl rfl rfl (by decide) hl.1 rfl rfl (Nat.le_of_ble_eq_true rfl) dX5_swap_34 (by decide) (fun r_1 u_2 H locs hw_3 hP hD hS => ?_)
        replace hw_3 : r_1 = tc_ B a_ v_ ∧ oN_ M u_2 := hw_3
        obtain ⟨hw_3a, hw_3b⟩ := hw_3
        subst r_1
        replace hP : va_P D vwCl (mW cI r B u_2) H := (va_P.m [true, true, true, true, true, true, true, true, true, true, true, true, true, true, true, true] [] hP)
        refine lv_istore (lv' := [(5, .int (tc_ B a_ v_)), (4, .int (-9)), (3, .int (wSN_ (sn_ B) (nI a_) (nI v_))), (0, .ref (r 0)), (1, .int (nI a_)), (2, .int (nI v_))]) hx hb dX5_swap_37 hl (by decide) rfl (fun ls hl => ?_)
        refine lv_iconst (v := 0) hx hb dX5_swap_39 (by decide) ?_
        refine lv_istore (lv' := [(6, .int 0), (5, .int (tc_ B a_ v_)), (4, .int (-9)), (3, .int (wSN_ (sn_ B) (nI a_) (nI v_))), (0, .ref (r 0)), (1, .int (nI a_)), (2, .int (nI v_))]) hx hb dX5_swap_40 hl (by decide) rfl (fun ls hl => ?_)
        have lp_42 : ∀ (fu_42 : Nat) (i : Nat) (x4_42 : Int32) (x5_42 : Int32) (x6_42 : Int32) (M2 : MT), (x4_42 = (s2_ B a_ v_ i).1) → (x5_42 = (s2_ B a_ v_ i).2) → (x6_42 = nI i) → (i ≤ sn_ B) → (oN_ M M2) → sn_ B - i < fu_42 → ∀ (H : Heap) (locs : List Loc), va_P D vwCl (mW cI r B M2) H → va_D A (mW cI r B M2) → va_S A s.heap H locs → ∀ ls : Array Slot, lv_has ls 9 [(6, .int x6_42), (5, .int x5_42), (4, .int x4_42), (3, .int (wSN_ (sn_ B) (nI a_) (nI v_))), (0, .ref (r 0)), (1, .int (nI a_)), (2, .int (nI v_))] → W p l e (jR 9) s m ([.ref (r 0), .int (nI a_), .int (nI v_)] : List Value).toArray below meth c H locs 0 0 (MQ below (va_Qi (S := MT) (fun r u => r = (if wSN_ (sn_ B) (nI a_) (nI v_) = 0 then (s2_ B (tn_ (nI a_)) (tn_ (nI v_)) (sn_ B)).1 else wSN_ (sn_ B) (nI a_) (nI v_)) ∧ oQ_ M u (wSN_ (sn_ B) (nI a_) (nI v_))) (fun u t => va_P D vwCl ((fun u => mW cI r B u) u) t.heap) A) ([.ref (r 0), .int (nI a_), .int (nI v_)] : List Value).toArray s 0 0 A) (F0 m 42 ls []) := by
          intro fu_42
          induction fu_42 with
          | zero => intro i x4_42 x5_42 x6_42 M2 hx4_42 hx5_42 hx6_42 hi hM hfu; exact absurd hfu (Nat.not_lt_zero _)
          | succ fu_42 ih_42 =>
            intro i x4_42 x5_42 x6_42 M2 hx4_42 hx5_42 hx6_42 hi hM hfu_42 H locs hP hD hS ls hl
            subst x4_42
            subst x5_42
            subst x6_42
            replace hl : lv_has ls 9 [(6, .int (nI i)), (5, .int ((s2_ B a_ v_ i).2)), (4, .int ((s2_ B a_ v_ i).1)), (3, .int (wSN_ (sn_ B) (nI a_) (nI v_))), (0, .ref (r 0)), (1, .int (nI a_)), (2, .int (nI v_))] := hl
            replace hP : va_P D vwCl (mW cI r B M2) H := hP
            refine lv_iload hx hb dX5_swap_42 (lv_at hl 0 rfl) ?_
            refine lv_aload_n hx hb dX5_swap_44 rfl (lv_at hl 4 rfl) ?_
            refine va_get (ci := 5) (C := RX5) (T := TX5) (N := 33) hx hb hts hinX5 hown hK.1 hP 0 rfl rfl 6 (by decide) (hts _ (List.mem_of_getElem? (i := 1) rfl)) (fun _ h9 => h9) rfl dX5_swap_45 ?_
            refine lv_icmp_ge (tgt := 114) hx hb dX5_swap_48 (by decide) (fun c_48 => ?_) (fun c_48 => ?_)
            · replace c_48 : nI (sn_ B) ≤ nI i := c_48
              rw [jle (by omega) (by omega)] at c_48
              refine lv_iload hx hb dX5_swap_114 (lv_at hl 2 rfl) ?_
              refine rMi hx hb hr hlk hS M2 hP ?_ dX5_swap_116
              first | exact ⟨(if_neg c_18).symm, oQ_n _ _⟩ | exact ⟨by (rw [if_pos c_18]; simp only [tn_n (show a_ < 2147483648 by omega), tn_n (show v_ < 2147483648 by omega)]; rw [show i = sn_ B by omega]), oQ_0 c_18 (by (first | exact (oN_mk (by assumption)).m | exact oM_.rf _ | exact (oN_pp _ _).m | exact (oN_fo _ _ _ _).m | assumption | (apply oN_.m; assumption) | exact oM_.tr (by assumption) (by assumption)))⟩
            · replace c_48 : ¬ nI (sn_ B) ≤ nI i := c_48
              rw [jle (by omega) (by omega)] at c_48
              refine lv_iload hx hb dX5_swap_51 (lv_at hl 0 rfl) ?_
              refine lv_iconst (v := 1) hx hb dX5_swap_53 (by decide) ?_
              refine lv_iadd hx hb dX5_swap_54 ?_
              refine lv_istore (lv' := [(7, .int ((nI i) + 1)), (6, .int (nI i)), (5, .int ((s2_ B a_ v_ i).2)), (4, .int ((s2_ B a_ v_ i).1)), (3, .int (wSN_ (sn_ B) (nI a_) (nI v_))), (0, .ref (r 0)), (1, .int (nI a_)), (2, .int (nI v_))]) hx hb dX5_swap_55 hl (by decide) rfl (fun ls hl => ?_)
              have lp_57 : ∀ (fu_57 : Nat) (j : Nat) (x4_57 : Int32) (x5_57 : Int32) (x7_57 : Int32) (M3 : MT), (x4_57 = (s1_ B a_ v_ i j (s2_ B a_ v_ i)).1) → (x5_57 = (s1_ B a_ v_ i j (s2_ B a_ v_ i)).2) → (x7_57 = nI (i + 1 + j)) → (i + 1 + j ≤ sn_ B) → (oN_ M M3) → sn_ B - (i + 1 + j) < fu_57 → ∀ (H : Heap) (locs : List Loc), va_P D vwCl (mW cI r B M3) H → va_D A (mW cI r B M3) → va_S A s.heap H locs → ∀ ls : Array Slot, lv_has ls 9 [(7, .int x7_57), (6, .int (nI i)), (5, .int x5_57), (4, .int x4_57), (3, .int (wSN_ (sn_ B) (nI a_) (nI v_))), (0, .ref (r 0)), (1, .int (nI a_)), (2, .int (nI v_))] → W p l e (jR 9) s m ([.ref (r 0), .int (nI a_), .int (nI v_)] : List Value).toArray below meth c H locs 0 0 (MQ below (va_Qi (S := MT) (fun r u => r = (if wSN_ (sn_ B) (nI a_) (nI v_) = 0 then (s2_ B (tn_ (nI a_)) (tn_ (nI v_)) (sn_ B)).1 else wSN_ (sn_ B) (nI a_) (nI v_)) ∧ oQ_ M u (wSN_ (sn_ B) (nI a_) (nI v_))) (fun u t => va_P D vwCl ((fun u => mW cI r B u) u) t.heap) A) ([.ref (r 0), .int (nI a_), .int (nI v_)] : List Value).toArray s 0 0 A) (F0 m 57 ls []) := by
                intro fu_57
                induction fu_57 with
                | zero => intro j x4_57 x5_57 x7_57 M3 hx4_57 hx5_57 hx7_57 hj hM3 hfu; exact absurd hfu (Nat.not_lt_zero _)
                | succ fu_57 ih_57 =>
                  intro j x4_57 x5_57 x7_57 M3 hx4_57 hx5_57 hx7_57 hj hM3 hfu_57 H locs hP hD hS ls hl
                  subst x4_57
                  subst x5_57
                  subst x7_57
                  replace hl : lv_has ls 9 [(7, .int (nI (i + 1 + j))), (6, .int (nI i)), (5, .int ((s1_ B a_ v_ i j (s2_ B a_ v_ i)).2)), (4, .int ((s1_ B a_ v_ i j (s2_ B a_ v_ i)).1)), (3, .int (wSN_ (sn_ B) (nI a_) (nI v_))), (0, .ref (r 0)), (1, .int (nI a_)), (2, .int (nI v_))] := hl
                  replace hP : va_P D vwCl (mW cI r B M3) H := hP
                  refine lv_iload hx hb dX5_swap_57 (lv_at hl 0 rfl) ?_
                  refine lv_aload_n hx hb dX5_swap_59 rfl (lv_at hl 5 rfl) ?_
                  refine va_get (ci := 5) (C := RX5) (T := TX5) (N := 33) hx hb hts hinX5 hown hK.1 hP 0 rfl rfl 6 (by decide) (hts _ (List.mem_of_getElem? (i := 1) rfl)) (fun _ h9 => h9) rfl dX5_swap_60 ?_
                  refine lv_icmp_ge (tgt := 108) hx hb dX5_swap_63 (by decide) (fun c_63 => ?_) (fun c_63 => ?_)
                  · replace c_63 : nI (sn_ B) ≤ nI (i + 1 + j) := c_63
                    rw [jle (by omega) (by omega)] at c_63
                    refine lv_iinc (v := (nI i) + 1) (lv' := [(6, .int ((nI i) + 1)), (7, .int (nI (i + 1 + j))), (5, .int ((s1_ B a_ v_ i j (s2_ B a_ v_ i)).2)), (4, .int ((s1_ B a_ v_ i j (s2_ B a_ v_ i)).1)), (3, .int (wSN_ (sn_ B) (nI a_) (nI v_))), (0, .ref (r 0)), (1, .int (nI a_)), (2, .int (nI v_))]) hx hb dX5_swap_108 hl (k := 1) rfl (by first | rfl | decide) (by decide) rfl (fun ls hl => ?_)
                    refine lv_goto (tgt := 42) hx hb dX5_swap_111 (by decide) ?_
                    exact ih_42 (i + 1) ((s1_ B a_ v_ i j (s2_ B a_ v_ i)).1) ((s1_ B a_ v_ i j (s2_ B a_ v_ i)).2) ((nI i) + 1) M3 (by rw [show j = sn_ B - (i + 1) by omega]; rfl) (by rw [show j = sn_ B - (i + 1) by omega]; rfl) (by first | rfl | exact nI_1 _) (by omega) (hM3) (by omega) _ _ hP (va_D.adr hD0 (mW_adE rfl)) hS ls (lv_sub hl [0, 2, 3, 4, 5, 6, 7] rfl)
                  · replace c_63 : ¬ nI (sn_ B) ≤ nI (i + 1 + j) := c_63
                    rw [jle (by omega) (by omega)] at c_63
                    refine lv_aload_n hx hb dX5_swap_66 rfl (lv_at hl 5 rfl) ?_
                    refine lv_iload hx hb dX5_swap_67 (lv_at hl 1 rfl) ?_
                    refine lv_iload hx hb dX5_swap_69 (lv_at hl 0 rfl) ?_
                    refine lv_iload_n hx hb dX5_swap_71 rfl (lv_at hl 6 rfl) ?_
                    refine lv_iload_n hx hb dX5_swap_72 rfl (lv_at hl 7 rfl) ?_
                    refine kMiV hx hb hml hown hts hK hP (va_D.adr hD0 (mW_adE rfl)) hA hS gX5_swap_X5_oftenSwapped okX5_oftenSwapped (qX5_oftenSwapped l D cI cB r B M3 i (i + 1 + j) a_ v_ hI (by omega) (by omega) (by omega) ha_ (by omega)) [0, 1, 2, 3, 4, 5, 6, 7, 8, 9, 10, 11, 12, 13, 14, 15] rfl (by decide) (fun _ => mW_adr _ _ _ _ _ _) rfl rfl rfl (by decide) hl.1 rfl rfl (Nat.le_of_ble_eq_true rfl) dX5_swap_73 (by decide) (fun r_4 u_5 H locs hw_6 hP hD hS => ?_)
                    replace hw_6 : r_4 = tc_ (sw_ B i (i + 1 + j)) a_ v_ ∧ oN_ M3 u_5 := hw_6
                    obtain ⟨hw_6a, hw_6b⟩ := hw_6
                    subst r_4
                    replace hP : va_P D vwCl (mW cI r B u_5) H := (va_P.m [true, true, true, true, true, true, true, true, true, true, true, true, true, true, true, true] [] hP)
                    refine lv_istore (lv' := [(8, .int (tc_ (sw_ B i (i + 1 + j)) a_ v_)), (7, .int (nI (i + 1 + j))), (6, .int (nI i)), (5, .int ((s1_ B a_ v_ i j (s2_ B a_ v_ i)).2)), (4, .int ((s1_ B a_ v_ i j (s2_ B a_ v_ i)).1)), (3, .int (wSN_ (sn_ B) (nI a_) (nI v_))), (0, .ref (r 0)), (1, .int (nI a_)), (2, .int (nI v_))]) hx hb dX5_swap_76 hl (by decide) rfl (fun ls hl => ?_)
                    refine lv_iload hx hb dX5_swap_78 (lv_at hl 0 rfl) ?_
                    refine lv_iload hx hb dX5_swap_80 (lv_at hl 3 rfl) ?_
                    refine lv_icmp_gt (tgt := 88) hx hb dX5_swap_82 (by decide) (fun c_82 => ?_) (fun c_82 => ?_)
                    · have d_82 := Int32.not_le.mpr c_82
                      refine lv_bipush (v := 10) hx hb dX5_swap_88 (by decide) ?_
                      refine lv_iload hx hb dX5_swap_90 (lv_at hl 2 rfl) ?_
                      refine lv_imul hx hb dX5_swap_92 ?_
                      refine lv_iload hx hb dX5_swap_93 (lv_at hl 1 rfl) ?_
                      refine lv_iadd hx hb dX5_swap_95 ?_
                      refine lv_istore (lv' := [(4, .int ((10 * (nI i)) + (nI (i + 1 + j)))), (8, .int (tc_ (sw_ B i (i + 1 + j)) a_ v_)), (7, .int (nI (i + 1 + j))), (6, .int (nI i)), (5, .int ((s1_ B a_ v_ i j (s2_ B a_ v_ i)).2)), (3, .int (wSN_ (sn_ B) (nI a_) (nI v_))), (0, .ref (r 0)), (1, .int (nI a_)), (2, .int (nI v_))]) hx hb dX5_swap_96 hl (by decide) rfl (fun ls hl => ?_)
                      refine lv_iload hx hb dX5_swap_98 (lv_at hl 1 rfl) ?_
                      refine lv_istore (lv' := [(5, .int (tc_ (sw_ B i (i + 1 + j)) a_ v_)), (4, .int ((10 * (nI i)) + (nI (i + 1 + j)))), (8, .int (tc_ (sw_ B i (i + 1 + j)) a_ v_)), (7, .int (nI (i + 1 + j))), (6, .int (nI i)), (3, .int (wSN_ (sn_ B) (nI a_) (nI v_))), (0, .ref (r 0)), (1, .int (nI a_)), (2, .int (nI v_))]) hx hb dX5_swap_100 hl (by decide) rfl (fun ls hl => ?_)
                      refine lv_iinc (v := (nI (i + 1 + j)) + 1) (lv' := [(7, .int ((nI (i + 1 + j)) + 1)), (5, .int (tc_ (sw_ B i (i + 1 + j)) a_ v_)), (4, .int ((10 * (nI i)) + (nI (i + 1 + j)))), (8, .int (tc_ (sw_ B i (i + 1 + j)) a_ v_)), (6, .int (nI i)), (3, .int (wSN_ (sn_ B) (nI a_) (nI v_))), (0, .ref (r 0)), (1, .int (nI a_)), (2, .int (nI v_))]) hx hb dX5_swap_102 hl (k := 3) rfl (by first | rfl | decide) (by decide) rfl (fun ls hl => ?_)
                      refine lv_goto (tgt := 57) hx hb dX5_swap_105 (by decide) ?_
                      exact ih_57 (j + 1) ((10 * (nI i)) + (nI (i + 1 + j))) (tc_ (sw_ B i (i + 1 + j)) a_ v_) ((nI (i + 1 + j)) + 1) u_5 (by first | exact s1_a1 d_82 | exact s1_b1 d_82) (by first | exact s1_a2 d_82 | exact s1_b2 d_82) (nI_1 _) (by omega) (oN_.tr hM3 (by assumption)) (by omega) _ _ hP (va_D.adr hD0 (mW_adE rfl)) hS ls (lv_sub hl [0, 4, 1, 2, 5, 6, 7, 8] rfl)
                    · have d_82 := Int32.not_lt.mp c_82
                      refine lv_goto (tgt := 102) hx hb dX5_swap_85 (by decide) ?_
                      refine lv_iinc (v := (nI (i + 1 + j)) + 1) (lv' := [(7, .int ((nI (i + 1 + j)) + 1)), (8, .int (tc_ (sw_ B i (i + 1 + j)) a_ v_)), (6, .int (nI i)), (5, .int ((s1_ B a_ v_ i j (s2_ B a_ v_ i)).2)), (4, .int ((s1_ B a_ v_ i j (s2_ B a_ v_ i)).1)), (3, .int (wSN_ (sn_ B) (nI a_) (nI v_))), (0, .ref (r 0)), (1, .int (nI a_)), (2, .int (nI v_))]) hx hb dX5_swap_102 hl (k := 1) rfl (by first | rfl | decide) (by decide) rfl (fun ls hl => ?_)
                      refine lv_goto (tgt := 57) hx hb dX5_swap_105 (by decide) ?_
                      exact ih_57 (j + 1) ((s1_ B a_ v_ i j (s2_ B a_ v_ i)).1) ((s1_ B a_ v_ i j (s2_ B a_ v_ i)).2) ((nI (i + 1 + j)) + 1) u_5 (by first | exact s1_a1 d_82 | exact s1_b1 d_82) (by first | exact s1_a2 d_82 | exact s1_b2 d_82) (nI_1 _) (by omega) (oN_.tr hM3 (by assumption)) (by omega) _ _ hP (va_D.adr hD0 (mW_adE rfl)) hS ls (lv_sub hl [0, 2, 3, 4, 5, 6, 7, 8] rfl)
              exact lp_57 ((sn_ B - (i + 1)) + 1) 0 ((s2_ B a_ v_ i).1) ((s2_ B a_ v_ i).2) ((nI i) + 1) M2 (rfl) (rfl) (by rw [Nat.add_zero]; exact nI_1 _) (by omega) (hM) (by omega) _ _ hP (va_D.adr hD0 (mW_adE rfl)) hS ls (lv_sub hl [0, 1, 2, 3, 4, 5, 6, 7] rfl)
        exact lp_42 ((sn_ B) + 1) 0 (-9) (tc_ B a_ v_) 0 u_2 (rfl) (rfl) (by first | rfl | exact nI_0.symm) (by omega) (by first | assumption | exact oN_.rf _) (by omega) _ _ hP (va_D.adr hD0 (mW_adE rfl)) hS ls (lv_sub hl [0, 1, 2, 3, 4, 5, 6] rfl)
      · skip
        refine lv_aload_n hx hb dX5_swap_21 rfl (lv_at hl 1 rfl) ?_
        refine lv_iload_n hx hb dX5_swap_22 rfl (lv_at hl 0 rfl) ?_
        refine kMiV hx hb hml hown hts hK hP (va_D.adr hD0 (mW_adE rfl)) hA hS gX5_swap_X5_no okX5_no (qX5_no l D cI cB r B M (wSN_ (sn_ B) a v) (rc0_n (by first | exact rc0_wS _ _ | exact rc0_wSN _ _ _ | exact rc0_wSNW _ _ _ _ | exact rc0_wNW _ _ | exact rc0_wTh _ _ _ _ _ | exact rc0_wTr _ _ _ _ | exact rc0_nb _ _ | exact rc0_uk _ _ | exact rc0_ob _ _ _ | exact rc0_f2 (rc0_nb _ _) (rc0_nb _ _) | exact rc0_f2 (rc0_nb _ _) (rc0_uk _ _) | exact rc0_f2 (rc0_ob _ _ _) (rc0_uk _ _) | exact rc0_f2 (rc0_uk _ _) (rc0_f2 (rc0_uk _ _) (rc0_ob _ _ _))) c_18)) [0, 1, 2, 3, 4, 5, 6, 7, 8, 9, 10, 11, 12, 13, 14, 15] rfl (by decide) (fun _ => mW_adr _ _ _ _ _ _) rfl rfl rfl (by decide) hl.1 rfl rfl (Nat.le_of_ble_eq_true rfl) dX5_swap_23 (by decide) (fun r_7 u_8 H locs hw_9 hP hD hS => ?_)
        replace hw_9 : r_7 = wSN_ (sn_ B) a v ∧ u_8 = (rfm_ M (wSN_ (sn_ B) a v)) := hw_9
        obtain ⟨hw_9a, hw_9b⟩ := hw_9
        subst r_7
        subst u_8
        replace hP : va_P D vwCl ([(r 0, .inr (5, [.ref (r 1), .ref (r 2), .ref (r 3), .ref (r 4), .ref (r 5), .ref (r 6), .int (nI (sn_ B)), .int (qt_ B), .int (il_ B), .int (pa_ B), .int (ho_ B), .int (dy_ B), .ref (r 13), .ref (r 14), .ref (r 15), .ref (r 16), .int (nI (mtn_ M)), .int (nI (mrd_ M)), .int (nI (msm_ M)), .ref (r 20), .int (mhi_ M), .int (mik_ M), .int (nI (mcu_ M)), .int (nI (mbk_ M)), .ref (r 25), .ref (r 26), .int (mlw_ M), .int (mhg_ M), .int (msl_ M), .ref (r 30), .int (nI (mrm_ M)), .ref (r 32), .int (mlo_ M)])), (r 1, .inl (cI, 7, .inl (rfx_ (mrf_ M) (wSN_ (sn_ B) a v)))), (r 2, .inl (cI, 7, .inl (kd_ B))), (r 3, .inl (cI, 7, .inl (fg_ B))), (r 4, .inl (cI, 7, .inl (pl_ B))), (r 5, .inl (cI, 7, .inl (pw_ B))), (r 6, .inl (cI, 7, .inl (jy_ B))), (r 13, .inl (cI, 96, .inl (mtp_ M))), (r 14, .inl (cI, 48, .inl (mlt_ M))), (r 15, .inl (cI, 48, .inl (mla_ M))), (r 16, .inl (cI, 144, .inl (mtd_ M))), (r 20, .inl (cI, 451, .inl (flatK (mkp_ M)))), (r 25, .inl (cI, 7, .inl (mof_ M))), (r 26, .inl (cI, 7, .inl (mfa_ M))), (r 30, .inl (cI, 12, .inl (mrw_ M))), (r 32, .inl (cI, 8, .inl (mhb_ M)))]) H := (va_P.m [true, true, true, true, true, true, true, true, true, true, true, true, true, true, true, true] [] hP)
        refine rMi hx hb hr hlk hS (rfm_ M (wSN_ (sn_ B) a v)) hP ?_ dX5_swap_26
        first | exact ⟨(if_neg c_18).symm, oQ_n _ _⟩ | exact ⟨by (rw [if_pos c_18]; simp only [tn_n (show a_ < 2147483648 by omega), tn_n (show v_ < 2147483648 by omega)]; rw [show i = sn_ B by omega]), oQ_0 c_18 (by (first | exact (oN_mk (by assumption)).m | exact oM_.rf _ | exact (oN_pp _ _).m | exact (oN_fo _ _ _ _).m | assumption | (apply oN_.m; assumption) | exact oM_.tr (by assumption) (by assumption)))⟩
  refine lv_aload_n hx hb dX5_swap_0 rfl (lv_at hl 0 rfl) ?_
  refine lv_iload_n hx hb dX5_swap_1 rfl (lv_at hl 1 rfl) ?_
  refine kSiV hx hb hml hown hts hK hP gX5_swap_X5_isShore okX5_isShore (qX5_isShore l D cI cB r B M a (by show sn_ B ≤ 7; omega)) [0, 1, 2, 3, 4, 5, 6, 7, 8, 9, 10, 11, 12, 13, 14, 15] rfl rfl rfl rfl (by decide) hl.1 rfl rfl (Nat.le_of_ble_eq_true rfl) dX5_swap_2 (by decide) (fun r_10 hr_11 => ?_)
  replace hr_11 : r_10 = b1 (0 ≤ a ∧ a < nI (sn_ B)) := hr_11
  subst r_10
  refine lv_if_ne (tgt := 12) hx hb dX5_swap_5 (by decide) (fun c_5 => ?_) (fun c_5 => ?_)
  · replace c_5 := b1_n c_5
    refine lv_iload_n hx hb dX5_swap_12 rfl (lv_at hl 2 rfl) ?_
    refine kSiS hx hb hml hown hts hK hP gX5_swap_X5_notHours okX5_notHours (qX5_notHours l D cI cB v ) [] rfl (by decide) hl.1 rfl rfl (Nat.le_of_ble_eq_true rfl) dX5_swap_13 (by decide) (fun r_12 hr_13 => ?_)
    replace hr_13 : r_12 = ob_ v 0 99 := hr_13
    subst r_12
    refine lv_istore_n (lv' := [(3, .int (ob_ v 0 99)), (0, .ref (r 0)), (1, .int a), (2, .int v)]) hx hb dX5_swap_16 rfl hl (by decide) rfl (fun ls hl => ?_)
    exact jn_17  (ob_ v 0 99)  (by first | exact (f2_b (nb_i c_5)).symm | exact ((f2_a (by rw [nb_o c_5]; decide)).trans (nb_o c_5)).symm)   _ _ hP (va_D.adr hD0 (mW_adE rfl)) hS ls (lv_sub hl [0, 1, 2, 3] rfl)
  · replace c_5 := b1_z c_5
    refine lv_iconst (v := (-1)) hx hb dX5_swap_8 (by decide) ?_
    refine lv_goto (tgt := 16) hx hb dX5_swap_9 (by decide) ?_
    refine lv_istore_n (lv' := [(3, .int (-1)), (0, .ref (r 0)), (1, .int a), (2, .int v)]) hx hb dX5_swap_16 rfl hl (by decide) rfl (fun ls hl => ?_)
    exact jn_17  (-1)  (by first | exact (f2_b (nb_i c_5)).symm | exact ((f2_a (by rw [nb_o c_5]; decide)).trans (nb_o c_5)).symm)   _ _ hP (va_D.adr hD0 (mW_adE rfl)) hS ls (lv_sub hl [0, 1, 2, 3] rfl)

theorem okX5_ring : jok yX5_ring wsX5_ring cX5_ring 5 (some .int) 1 := ⟨⟨_, rfl⟩, by decide +kernel, by decide +kernel⟩
set_option maxHeartbeats 2000000 in
set_option maxRecDepth 100000 in
theorem qX5_ring (l : Launch) (D : va_G) (cI cB : ClassId) (r : Nat → Nat) (B : BayT) (M : MT) (v : Int32) (hI : bI_ B) : jMi D cI cB l yX5_ring wsX5_ring 7 [.ref (r 0), .int v] (mW cI r B M) (S := MT) (fun r u => r = (if ob_ v 0 99 = 0 then oI_ (rg_ (hs_ (tn_ v) B) 48 0) else ob_ v 0 99) ∧ oQ_ M u (ob_ v 0 99)) (fun u => mW cI r B u) := by
  refine jMi.of (cc := cX5_ring) (maxL := 5) (ret := (some .int)) okX5_ring (Nat.le_of_ble_eq_true rfl) ?_
  intro p e s m below meth c ls A hx hb hr hts hown hlk hml hP hK hD hA hS hl
  replace hown : s.vm.findClass RX5 = some m.cls := hown
  replace hl : lv_has ls 5 [(0, .ref (r 0)), (1, .int v)] := hl
  have hD0 := hD
  have hn7 := hI.1
  have hinX5 : ∀ w ∈ wsX50, w ∈ wsX5_ring := by decide +kernel
  refine lv_iload_n hx hb dX5_ring_0 rfl (lv_at hl 1 rfl) ?_
  refine kSiS hx hb hml hown hts hK hP gX5_ring_X5_notHours okX5_notHours (qX5_notHours l D cI cB v ) [] rfl (by decide) hl.1 rfl rfl (Nat.le_of_ble_eq_true rfl) dX5_ring_1 (by decide) (fun r_1 hr_2 => ?_)
  replace hr_2 : r_1 = ob_ v 0 99 := hr_2
  subst r_1
  refine lv_istore_n (lv' := [(2, .int (ob_ v 0 99)), (0, .ref (r 0)), (1, .int v)]) hx hb dX5_ring_4 rfl hl (by decide) rfl (fun ls hl => ?_)
  refine lv_iload_n hx hb dX5_ring_5 rfl (lv_at hl 0 rfl) ?_
  refine lv_if_eq (tgt := 15) hx hb dX5_ring_6 (by decide) (fun c_6 => ?_) (fun c_6 => ?_)
  · skip
    have w0 := c_6
    simp only [wS_, wSN_, wSNW_, wNW_, wTh_, wTr_, f2_0, nb_0, ob_0, uk_0, lo_0, hi_0] at w0
    obtain ⟨v_, hv_, rfl⟩ := pl_le (n := 99) (by decide) w0
    replace hl : lv_has ls 5 [(2, .int (ob_ (nI v_) 0 99)), (0, .ref (r 0)), (1, .int (nI v_))] := hl
    refine lv_aload_n hx hb dX5_ring_15 rfl (lv_at hl 1 rfl) ?_
    refine kMvV hx hb hml hown hts hK hP (va_D.adr hD0 (mW_adE rfl)) hA hS gX5_ring_X5_thinks okX5_thinks (qX5_thinksE l D cI cB r B M ) [0, 1, 2, 3, 4, 5, 6, 7, 8, 9, 10, 11, 12, 13, 14, 15] rfl (by decide) (fun _ => mW_adE rfl) rfl rfl rfl (by decide) hl.1 rfl rfl (Nat.le_of_ble_eq_true rfl) dX5_ring_16 (by decide) (fun u_4 H locs hw_5 hP hD hS => ?_)
    replace hP : va_P D vwCl ([(r 0, .inr (5, [.ref (r 1), .ref (r 2), .ref (r 3), .ref (r 4), .ref (r 5), .ref (r 6), .int (nI (sn_ B)), .int (qt_ B), .int (il_ B), .int (pa_ B), .int (ho_ B), .int (dy_ B), .ref (r 13), .ref (r 14), .ref (r 15), .ref (r 16), .int (nI (mtn_ M)), .int (nI (mrd_ M)), .int (nI (msm_ M)), .ref (r 20), .int (mhi_ M), .int (1), .int (nI (41 * 2 + 41)), .int (nI (mbk_ M)), .ref (r 25), .ref (r 26), .int (mlw_ M), .int (mhg_ M), .int (msl_ M), .ref (r 30), .int (nI (mrm_ M)), .ref (r 32), .int (mlo_ M)])), (r 1, .inl (cI, 7, .inl (mrf_ M))), (r 2, .inl (cI, 7, .inl (kd_ B))), (r 3, .inl (cI, 7, .inl (fg_ B))), (r 4, .inl (cI, 7, .inl (pl_ B))), (r 5, .inl (cI, 7, .inl (pw_ B))), (r 6, .inl (cI, 7, .inl (jy_ B))), (r 13, .inl (cI, 96, .inl (mtp_ M))), (r 14, .inl (cI, 48, .inl (mlt_ M))), (r 15, .inl (cI, 48, .inl (mla_ M))), (r 16, .inl (cI, 144, .inl (mtd_ M))), (r 20, .inl (cI, 451, .inl (flatK (va_up (mkp_ M) 2 B)))), (r 25, .inl (cI, 7, .inl (mof_ M))), (r 26, .inl (cI, 7, .inl (mfa_ M))), (r 30, .inl (cI, 12, .inl (mrw_ M))), (r 32, .inl (cI, 8, .inl (mhb_ M)))]) H := (va_P.m [true, true, true, true, true, true, true, true, true, true, true, true, true, true, true, true] [] hP)
    refine lv_aload_n hx hb dX5_ring_19 rfl (lv_at hl 1 rfl) ?_
    refine lv_iload_n hx hb dX5_ring_20 rfl (lv_at hl 2 rfl) ?_
    refine kMvV hx hb hml hown hts hK hP (va_D.adr hD0 (mW_adE rfl)) hA hS gX5_ring_X5_goes okX5_goes (qX5_goes l D cI cB r B (mkM (mrf_ M) (mtp_ M) (mlt_ M) (mla_ M) (mtd_ M) (va_up (mkp_ M) 2 B) (mof_ M) (mfa_ M) (mrw_ M) (mhb_ M) (mtn_ M) (mrd_ M) (msm_ M) (41 * 2 + 41) (mbk_ M) (mrm_ M) (mhi_ M) 1 (mlw_ M) (mhg_ M) (msl_ M) (mlo_ M)) v_ hI (by omega)) [0, 1, 2, 3, 4, 5, 6, 7, 8, 9, 10, 11, 12, 13, 14, 15] rfl (by decide) (fun _ => mW_adr _ _ _ _ _ _) rfl rfl rfl (by decide) hl.1 rfl rfl (Nat.le_of_ble_eq_true rfl) dX5_ring_21 (by decide) (fun u_7 H locs hw_8 hP hD hS => ?_)
    replace hw_8 : u_7 = hs_ v_ B := hw_8
    subst u_7
    replace hP : va_P D vwCl ([(r 0, .inr (5, [.ref (r 1), .ref (r 2), .ref (r 3), .ref (r 4), .ref (r 5), .ref (r 6), .int (nI (sn_ (hs_ v_ B))), .int (qt_ (hs_ v_ B)), .int (il_ (hs_ v_ B)), .int (pa_ (hs_ v_ B)), .int (ho_ (hs_ v_ B)), .int (dy_ (hs_ v_ B)), .ref (r 13), .ref (r 14), .ref (r 15), .ref (r 16), .int (nI (mtn_ M)), .int (nI (mrd_ M)), .int (nI (msm_ M)), .ref (r 20), .int (mhi_ M), .int (1), .int (nI (41 * 2 + 41)), .int (nI (mbk_ M)), .ref (r 25), .ref (r 26), .int (mlw_ M), .int (mhg_ M), .int (msl_ M), .ref (r 30), .int (nI (mrm_ M)), .ref (r 32), .int (mlo_ M)])), (r 1, .inl (cI, 7, .inl (mrf_ M))), (r 2, .inl (cI, 7, .inl (kd_ (hs_ v_ B)))), (r 3, .inl (cI, 7, .inl (fg_ (hs_ v_ B)))), (r 4, .inl (cI, 7, .inl (pl_ (hs_ v_ B)))), (r 5, .inl (cI, 7, .inl (pw_ (hs_ v_ B)))), (r 6, .inl (cI, 7, .inl (jy_ (hs_ v_ B)))), (r 13, .inl (cI, 96, .inl (mtp_ M))), (r 14, .inl (cI, 48, .inl (mlt_ M))), (r 15, .inl (cI, 48, .inl (mla_ M))), (r 16, .inl (cI, 144, .inl (mtd_ M))), (r 20, .inl (cI, 451, .inl (flatK (va_up (mkp_ M) 2 B)))), (r 25, .inl (cI, 7, .inl (mof_ M))), (r 26, .inl (cI, 7, .inl (mfa_ M))), (r 30, .inl (cI, 12, .inl (mrw_ M))), (r 32, .inl (cI, 8, .inl (mhb_ M)))]) H := (va_P.m [true, true, true, true, true, true, true, true, true, true, true, true, true, true, true, true] [] hP)
    refine lv_aload_n hx hb dX5_ring_24 rfl (lv_at hl 1 rfl) ?_
    refine va_get (ci := 5) (C := RX5) (T := TX5) (N := 33) hx hb hts hinX5 hown hK.1 hP 0 rfl rfl 8 (by decide) (hts _ (List.mem_of_getElem? (i := 1) rfl)) (fun _ h9 => h9) rfl dX5_ring_25 ?_
    refine lv_istore_n (lv' := [(3, .int (il_ (hs_ v_ B))), (2, .int (ob_ (nI v_) 0 99)), (0, .ref (r 0)), (1, .int (nI v_))]) hx hb dX5_ring_28 rfl hl (by decide) rfl (fun ls hl => ?_)
    refine lv_aload_n hx hb dX5_ring_29 rfl (lv_at hl 2 rfl) ?_
    refine lv_bipush (v := 24) hx hb dX5_ring_30 (by decide) ?_
    refine kMvV hx hb hml hown hts hK hP (va_D.adr hD0 (mW_adE rfl)) hA hS gX5_ring_X5_goes okX5_goes (qX5_goes l D cI cB r (hs_ v_ B) (mkM (mrf_ M) (mtp_ M) (mlt_ M) (mla_ M) (mtd_ M) (va_up (mkp_ M) 2 B) (mof_ M) (mfa_ M) (mrw_ M) (mhb_ M) (mtn_ M) (mrd_ M) (msm_ M) (41 * 2 + 41) (mbk_ M) (mrm_ M) (mhi_ M) 1 (mlw_ M) (mhg_ M) (msl_ M) (mlo_ M)) 24 (bI_hs hI _) (by decide)) [0, 1, 2, 3, 4, 5, 6, 7, 8, 9, 10, 11, 12, 13, 14, 15] rfl (by decide) (fun _ => mW_adr _ _ _ _ _ _) rfl rfl rfl (by decide) hl.1 rfl rfl (Nat.le_of_ble_eq_true rfl) dX5_ring_32 (by decide) (fun u_10 H locs hw_11 hP hD hS => ?_)
    replace hw_11 : u_10 = hs_ 24 (hs_ v_ B) := hw_11
    subst u_10
    replace hP : va_P D vwCl ([(r 0, .inr (5, [.ref (r 1), .ref (r 2), .ref (r 3), .ref (r 4), .ref (r 5), .ref (r 6), .int (nI (sn_ (hs_ 24 (hs_ v_ B)))), .int (qt_ (hs_ 24 (hs_ v_ B))), .int (il_ (hs_ 24 (hs_ v_ B))), .int (pa_ (hs_ 24 (hs_ v_ B))), .int (ho_ (hs_ 24 (hs_ v_ B))), .int (dy_ (hs_ 24 (hs_ v_ B))), .ref (r 13), .ref (r 14), .ref (r 15), .ref (r 16), .int (nI (mtn_ M)), .int (nI (mrd_ M)), .int (nI (msm_ M)), .ref (r 20), .int (mhi_ M), .int (1), .int (nI (41 * 2 + 41)), .int (nI (mbk_ M)), .ref (r 25), .ref (r 26), .int (mlw_ M), .int (mhg_ M), .int (msl_ M), .ref (r 30), .int (nI (mrm_ M)), .ref (r 32), .int (mlo_ M)])), (r 1, .inl (cI, 7, .inl (mrf_ M))), (r 2, .inl (cI, 7, .inl (kd_ (hs_ 24 (hs_ v_ B))))), (r 3, .inl (cI, 7, .inl (fg_ (hs_ 24 (hs_ v_ B))))), (r 4, .inl (cI, 7, .inl (pl_ (hs_ 24 (hs_ v_ B))))), (r 5, .inl (cI, 7, .inl (pw_ (hs_ 24 (hs_ v_ B))))), (r 6, .inl (cI, 7, .inl (jy_ (hs_ 24 (hs_ v_ B))))), (r 13, .inl (cI, 96, .inl (mtp_ M))), (r 14, .inl (cI, 48, .inl (mlt_ M))), (r 15, .inl (cI, 48, .inl (mla_ M))), (r 16, .inl (cI, 144, .inl (mtd_ M))), (r 20, .inl (cI, 451, .inl (flatK (va_up (mkp_ M) 2 B)))), (r 25, .inl (cI, 7, .inl (mof_ M))), (r 26, .inl (cI, 7, .inl (mfa_ M))), (r 30, .inl (cI, 12, .inl (mrw_ M))), (r 32, .inl (cI, 8, .inl (mhb_ M)))]) H := (va_P.m [true, true, true, true, true, true, true, true, true, true, true, true, true, true, true, true] [] hP)
    refine lv_aload_n hx hb dX5_ring_35 rfl (lv_at hl 2 rfl) ?_
    refine va_get (ci := 5) (C := RX5) (T := TX5) (N := 33) hx hb hts hinX5 hown hK.1 hP 0 rfl rfl 8 (by decide) (hts _ (List.mem_of_getElem? (i := 1) rfl)) (fun _ h9 => h9) rfl dX5_ring_36 ?_
    refine lv_iload_n hx hb dX5_ring_39 rfl (lv_at hl 0 rfl) ?_
    refine lv_icmp_ne (tgt := 48) hx hb dX5_ring_40 (by decide) (fun c_40 => ?_) (fun c_40 => ?_)
    · skip
      refine lv_bipush (v := (-9)) hx hb dX5_ring_48 (by decide) ?_
      refine lv_istore (lv' := [(4, .int (-9)), (3, .int (il_ (hs_ v_ B))), (2, .int (ob_ (nI v_) 0 99)), (0, .ref (r 0)), (1, .int (nI v_))]) hx hb dX5_ring_50 hl (by decide) rfl (fun ls hl => ?_)
      refine lv_aload_n hx hb dX5_ring_52 rfl (lv_at hl 3 rfl) ?_
      refine lv_bipush (v := 24) hx hb dX5_ring_53 (by decide) ?_
      refine kMvV hx hb hml hown hts hK hP (va_D.adr hD0 (mW_adE rfl)) hA hS gX5_ring_X5_goes okX5_goes (qX5_goes l D cI cB r (hs_ 24 (hs_ v_ B)) (mkM (mrf_ M) (mtp_ M) (mlt_ M) (mla_ M) (mtd_ M) (va_up (mkp_ M) 2 B) (mof_ M) (mfa_ M) (mrw_ M) (mhb_ M) (mtn_ M) (mrd_ M) (msm_ M) (41 * 2 + 41) (mbk_ M) (mrm_ M) (mhi_ M) 1 (mlw_ M) (mhg_ M) (msl_ M) (mlo_ M)) 24 (bI_hs (bI_hs hI _) _) (by decide)) [0, 1, 2, 3, 4, 5, 6, 7, 8, 9, 10, 11, 12, 13, 14, 15] rfl (by decide) (fun _ => mW_adr _ _ _ _ _ _) rfl rfl rfl (by decide) hl.1 rfl rfl (Nat.le_of_ble_eq_true rfl) dX5_ring_55 (by decide) (fun u_13 H locs hw_14 hP hD hS => ?_)
      replace hw_14 : u_13 = hs_ 24 (hs_ 24 (hs_ v_ B)) := hw_14
      subst u_13
      replace hP : va_P D vwCl ([(r 0, .inr (5, [.ref (r 1), .ref (r 2), .ref (r 3), .ref (r 4), .ref (r 5), .ref (r 6), .int (nI (sn_ (hs_ 24 (hs_ 24 (hs_ v_ B))))), .int (qt_ (hs_ 24 (hs_ 24 (hs_ v_ B)))), .int (il_ (hs_ 24 (hs_ 24 (hs_ v_ B)))), .int (pa_ (hs_ 24 (hs_ 24 (hs_ v_ B)))), .int (ho_ (hs_ 24 (hs_ 24 (hs_ v_ B)))), .int (dy_ (hs_ 24 (hs_ 24 (hs_ v_ B)))), .ref (r 13), .ref (r 14), .ref (r 15), .ref (r 16), .int (nI (mtn_ M)), .int (nI (mrd_ M)), .int (nI (msm_ M)), .ref (r 20), .int (mhi_ M), .int (1), .int (nI (41 * 2 + 41)), .int (nI (mbk_ M)), .ref (r 25), .ref (r 26), .int (mlw_ M), .int (mhg_ M), .int (msl_ M), .ref (r 30), .int (nI (mrm_ M)), .ref (r 32), .int (mlo_ M)])), (r 1, .inl (cI, 7, .inl (mrf_ M))), (r 2, .inl (cI, 7, .inl (kd_ (hs_ 24 (hs_ 24 (hs_ v_ B)))))), (r 3, .inl (cI, 7, .inl (fg_ (hs_ 24 (hs_ 24 (hs_ v_ B)))))), (r 4, .inl (cI, 7, .inl (pl_ (hs_ 24 (hs_ 24 (hs_ v_ B)))))), (r 5, .inl (cI, 7, .inl (pw_ (hs_ 24 (hs_ 24 (hs_ v_ B)))))), (r 6, .inl (cI, 7, .inl (jy_ (hs_ 24 (hs_ 24 (hs_ v_ B)))))), (r 13, .inl (cI, 96, .inl (mtp_ M))), (r 14, .inl (cI, 48, .inl (mlt_ M))), (r 15, .inl (cI, 48, .inl (mla_ M))), (r 16, .inl (cI, 144, .inl (mtd_ M))), (r 20, .inl (cI, 451, .inl (flatK (va_up (mkp_ M) 2 B)))), (r 25, .inl (cI, 7, .inl (mof_ M))), (r 26, .inl (cI, 7, .inl (mfa_ M))), (r 30, .inl (cI, 12, .inl (mrw_ M))), (r 32, .inl (cI, 8, .inl (mhb_ M)))]) H := (va_P.m [true, true, true, true, true, true, true, true, true, true, true, true, true, true, true, true] [] hP)
      refine lv_iload hx hb dX5_ring_58 (lv_at hl 0 rfl) ?_
      refine lv_if_ge (tgt := 76) hx hb dX5_ring_60 (by decide) (fun q => absurd q (by decide)) (fun _ => ?_)
      refine lv_aload_n hx hb dX5_ring_63 rfl (lv_at hl 3 rfl) ?_
      refine va_get (ci := 5) (C := RX5) (T := TX5) (N := 33) hx hb hts hinX5 hown hK.1 hP 0 rfl rfl 8 (by decide) (hts _ (List.mem_of_getElem? (i := 1) rfl)) (fun _ h9 => h9) rfl dX5_ring_64 ?_
      refine lv_iload_n hx hb dX5_ring_67 rfl (lv_at hl 1 rfl) ?_
      refine lv_icmp_ne (tgt := 76) hx hb dX5_ring_68 (by decide) (fun c_68 => ?_) (fun c_68 => ?_)
      · skip
        refine lv_iload hx hb dX5_ring_76 (lv_at hl 0 rfl) ?_
        refine lv_istore (lv' := [(4, .int (-9)), (3, .int (il_ (hs_ v_ B))), (2, .int (ob_ (nI v_) 0 99)), (0, .ref (r 0)), (1, .int (nI v_))]) hx hb dX5_ring_78 hl (by decide) rfl (fun ls hl => ?_)
        refine lv_aload_n hx hb dX5_ring_80 rfl (lv_at hl 3 rfl) ?_
        refine kMvV hx hb hml hown hts hK hP (va_D.adr hD0 (mW_adE rfl)) hA hS gX5_ring_X5_forgets okX5_forgets (qX5_forgetsE l D cI cB r (hs_ 24 (hs_ 24 (hs_ v_ B))) (mkM (mrf_ M) (mtp_ M) (mlt_ M) (mla_ M) (mtd_ M) (va_up (mkp_ M) 2 B) (mof_ M) (mfa_ M) (mrw_ M) (mhb_ M) (mtn_ M) (mrd_ M) (msm_ M) (41 * 2 + 41) (mbk_ M) (mrm_ M) (mhi_ M) 1 (mlw_ M) (mhg_ M) (msl_ M) (mlo_ M)) ) [0, 1, 2, 3, 4, 5, 6, 7, 8, 9, 10, 11, 12, 13, 14, 15] rfl (by decide) (fun _ => mW_adE rfl) rfl rfl rfl (by decide) hl.1 rfl rfl (Nat.le_of_ble_eq_true rfl) dX5_ring_81 (by decide) (fun u_16 H locs hw_17 hP hD hS => ?_)
        replace hP : va_P D vwCl ([(r 0, .inr (5, [.ref (r 1), .ref (r 2), .ref (r 3), .ref (r 4), .ref (r 5), .ref (r 6), .int (nI (sn_ B)), .int (qt_ B), .int (il_ B), .int (pa_ B), .int (ho_ B), .int (dy_ B), .ref (r 13), .ref (r 14), .ref (r 15), .ref (r 16), .int (nI (mtn_ M)), .int (nI (mrd_ M)), .int (nI (msm_ M)), .ref (r 20), .int (mhi_ M), .int (0), .int (nI (41 * 2 + 41)), .int (nI (mbk_ M)), .ref (r 25), .ref (r 26), .int (mlw_ M), .int (mhg_ M), .int (msl_ M), .ref (r 30), .int (nI (mrm_ M)), .ref (r 32), .int (mlo_ M)])), (r 1, .inl (cI, 7, .inl (mrf_ M))), (r 2, .inl (cI, 7, .inl (kd_ B))), (r 3, .inl (cI, 7, .inl (fg_ B))), (r 4, .inl (cI, 7, .inl (pl_ B))), (r 5, .inl (cI, 7, .inl (pw_ B))), (r 6, .inl (cI, 7, .inl (jy_ B))), (r 13, .inl (cI, 96, .inl (mtp_ M))), (r 14, .inl (cI, 48, .inl (mlt_ M))), (r 15, .inl (cI, 48, .inl (mla_ M))), (r 16, .inl (cI, 144, .inl (mtd_ M))), (r 20, .inl (cI, 451, .inl (flatK (va_up (mkp_ M) 2 B)))), (r 25, .inl (cI, 7, .inl (mof_ M))), (r 26, .inl (cI, 7, .inl (mfa_ M))), (r 30, .inl (cI, 12, .inl (mrw_ M))), (r 32, .inl (cI, 8, .inl (mhb_ M)))]) H := (va_P.m [true, true, true, true, true, true, true, true, true, true, true, true, true, true, true, true] [] hP)
        refine lv_iload hx hb dX5_ring_84 (lv_at hl 0 rfl) ?_
        refine rMi hx hb hr hlk hS (mkM (mrf_ M) (mtp_ M) (mlt_ M) (mla_ M) (mtd_ M) (va_up (mkp_ M) 2 B) (mof_ M) (mfa_ M) (mrw_ M) (mhb_ M) (mtn_ M) (mrd_ M) (msm_ M) (41 * 2 + 41) (mbk_ M) (mrm_ M) (mhi_ M) 0 (mlw_ M) (mhg_ M) (msl_ M) (mlo_ M)) hP ?_ dX5_ring_86
        first | exact ⟨(if_neg c_6).symm, oQ_n _ _⟩ | exact ⟨by (rw [if_pos c_6]; simp only [tn_n (show v_ < 2147483648 by omega)]; rw [← rg_eq (bI_hs hI _)]; unfold rgX_; rw [show hs_ 48 (hs_ v_ B) = hs_ 24 (hs_ 24 (hs_ v_ B)) from (hs_hs 24 (hs_ v_ B) 24).symm]; first | (rw [if_pos c_40]; done) | (rw [if_neg c_40, if_pos c_68]; done) | (rw [if_neg c_40, if_neg c_68]; done)), oQ_0 c_6 (by (first | exact (oN_mk (by assumption)).m | exact oM_.rf _ | exact (oN_pp _ _).m | exact (oN_fo _ _ _ _).m | assumption | (apply oN_.m; assumption) | exact oM_.tr (by assumption) (by assumption)))⟩
      · skip
        refine lv_bipush (v := 48) hx hb dX5_ring_71 (by decide) ?_
        refine lv_goto (tgt := 78) hx hb dX5_ring_73 (by decide) ?_
        refine lv_istore (lv' := [(4, .int 48), (3, .int (il_ (hs_ v_ B))), (2, .int (ob_ (nI v_) 0 99)), (0, .ref (r 0)), (1, .int (nI v_))]) hx hb dX5_ring_78 hl (by decide) rfl (fun ls hl => ?_)
        refine lv_aload_n hx hb dX5_ring_80 rfl (lv_at hl 3 rfl) ?_
        refine kMvV hx hb hml hown hts hK hP (va_D.adr hD0 (mW_adE rfl)) hA hS gX5_ring_X5_forgets okX5_forgets (qX5_forgetsE l D cI cB r (hs_ 24 (hs_ 24 (hs_ v_ B))) (mkM (mrf_ M) (mtp_ M) (mlt_ M) (mla_ M) (mtd_ M) (va_up (mkp_ M) 2 B) (mof_ M) (mfa_ M) (mrw_ M) (mhb_ M) (mtn_ M) (mrd_ M) (msm_ M) (41 * 2 + 41) (mbk_ M) (mrm_ M) (mhi_ M) 1 (mlw_ M) (mhg_ M) (msl_ M) (mlo_ M)) ) [0, 1, 2, 3, 4, 5, 6, 7, 8, 9, 10, 11, 12, 13, 14, 15] rfl (by decide) (fun _ => mW_adE rfl) rfl rfl rfl (by decide) hl.1 rfl rfl (Nat.le_of_ble_eq_true rfl) dX5_ring_81 (by decide) (fun u_19 H locs hw_20 hP hD hS => ?_)
        replace hP : va_P D vwCl ([(r 0, .inr (5, [.ref (r 1), .ref (r 2), .ref (r 3), .ref (r 4), .ref (r 5), .ref (r 6), .int (nI (sn_ B)), .int (qt_ B), .int (il_ B), .int (pa_ B), .int (ho_ B), .int (dy_ B), .ref (r 13), .ref (r 14), .ref (r 15), .ref (r 16), .int (nI (mtn_ M)), .int (nI (mrd_ M)), .int (nI (msm_ M)), .ref (r 20), .int (mhi_ M), .int (0), .int (nI (41 * 2 + 41)), .int (nI (mbk_ M)), .ref (r 25), .ref (r 26), .int (mlw_ M), .int (mhg_ M), .int (msl_ M), .ref (r 30), .int (nI (mrm_ M)), .ref (r 32), .int (mlo_ M)])), (r 1, .inl (cI, 7, .inl (mrf_ M))), (r 2, .inl (cI, 7, .inl (kd_ B))), (r 3, .inl (cI, 7, .inl (fg_ B))), (r 4, .inl (cI, 7, .inl (pl_ B))), (r 5, .inl (cI, 7, .inl (pw_ B))), (r 6, .inl (cI, 7, .inl (jy_ B))), (r 13, .inl (cI, 96, .inl (mtp_ M))), (r 14, .inl (cI, 48, .inl (mlt_ M))), (r 15, .inl (cI, 48, .inl (mla_ M))), (r 16, .inl (cI, 144, .inl (mtd_ M))), (r 20, .inl (cI, 451, .inl (flatK (va_up (mkp_ M) 2 B)))), (r 25, .inl (cI, 7, .inl (mof_ M))), (r 26, .inl (cI, 7, .inl (mfa_ M))), (r 30, .inl (cI, 12, .inl (mrw_ M))), (r 32, .inl (cI, 8, .inl (mhb_ M)))]) H := (va_P.m [true, true, true, true, true, true, true, true, true, true, true, true, true, true, true, true] [] hP)
        refine lv_iload hx hb dX5_ring_84 (lv_at hl 0 rfl) ?_
        refine rMi hx hb hr hlk hS (mkM (mrf_ M) (mtp_ M) (mlt_ M) (mla_ M) (mtd_ M) (va_up (mkp_ M) 2 B) (mof_ M) (mfa_ M) (mrw_ M) (mhb_ M) (mtn_ M) (mrd_ M) (msm_ M) (41 * 2 + 41) (mbk_ M) (mrm_ M) (mhi_ M) 0 (mlw_ M) (mhg_ M) (msl_ M) (mlo_ M)) hP ?_ dX5_ring_86
        first | exact ⟨(if_neg c_6).symm, oQ_n _ _⟩ | exact ⟨by (rw [if_pos c_6]; simp only [tn_n (show v_ < 2147483648 by omega)]; rw [← rg_eq (bI_hs hI _)]; unfold rgX_; rw [show hs_ 48 (hs_ v_ B) = hs_ 24 (hs_ 24 (hs_ v_ B)) from (hs_hs 24 (hs_ v_ B) 24).symm]; first | (rw [if_pos c_40]; done) | (rw [if_neg c_40, if_pos c_68]; done) | (rw [if_neg c_40, if_neg c_68]; done)), oQ_0 c_6 (by (first | exact (oN_mk (by assumption)).m | exact oM_.rf _ | exact (oN_pp _ _).m | exact (oN_fo _ _ _ _).m | assumption | (apply oN_.m; assumption) | exact oM_.tr (by assumption) (by assumption)))⟩
    · skip
      refine lv_bipush (v := 24) hx hb dX5_ring_43 (by decide) ?_
      refine lv_goto (tgt := 50) hx hb dX5_ring_45 (by decide) ?_
      refine lv_istore (lv' := [(4, .int 24), (3, .int (il_ (hs_ v_ B))), (2, .int (ob_ (nI v_) 0 99)), (0, .ref (r 0)), (1, .int (nI v_))]) hx hb dX5_ring_50 hl (by decide) rfl (fun ls hl => ?_)
      refine lv_aload_n hx hb dX5_ring_52 rfl (lv_at hl 3 rfl) ?_
      refine lv_bipush (v := 24) hx hb dX5_ring_53 (by decide) ?_
      refine kMvV hx hb hml hown hts hK hP (va_D.adr hD0 (mW_adE rfl)) hA hS gX5_ring_X5_goes okX5_goes (qX5_goes l D cI cB r (hs_ 24 (hs_ v_ B)) (mkM (mrf_ M) (mtp_ M) (mlt_ M) (mla_ M) (mtd_ M) (va_up (mkp_ M) 2 B) (mof_ M) (mfa_ M) (mrw_ M) (mhb_ M) (mtn_ M) (mrd_ M) (msm_ M) (41 * 2 + 41) (mbk_ M) (mrm_ M) (mhi_ M) 1 (mlw_ M) (mhg_ M) (msl_ M) (mlo_ M)) 24 (bI_hs (bI_hs hI _) _) (by decide)) [0, 1, 2, 3, 4, 5, 6, 7, 8, 9, 10, 11, 12, 13, 14, 15] rfl (by decide) (fun _ => mW_adr _ _ _ _ _ _) rfl rfl rfl (by decide) hl.1 rfl rfl (Nat.le_of_ble_eq_true rfl) dX5_ring_55 (by decide) (fun u_22 H locs hw_23 hP hD hS => ?_)
      replace hw_23 : u_22 = hs_ 24 (hs_ 24 (hs_ v_ B)) := hw_23
      subst u_22
      replace hP : va_P D vwCl ([(r 0, .inr (5, [.ref (r 1), .ref (r 2), .ref (r 3), .ref (r 4), .ref (r 5), .ref (r 6), .int (nI (sn_ (hs_ 24 (hs_ 24 (hs_ v_ B))))), .int (qt_ (hs_ 24 (hs_ 24 (hs_ v_ B)))), .int (il_ (hs_ 24 (hs_ 24 (hs_ v_ B)))), .int (pa_ (hs_ 24 (hs_ 24 (hs_ v_ B)))), .int (ho_ (hs_ 24 (hs_ 24 (hs_ v_ B)))), .int (dy_ (hs_ 24 (hs_ 24 (hs_ v_ B)))), .ref (r 13), .ref (r 14), .ref (r 15), .ref (r 16), .int (nI (mtn_ M)), .int (nI (mrd_ M)), .int (nI (msm_ M)), .ref (r 20), .int (mhi_ M), .int (1), .int (nI (41 * 2 + 41)), .int (nI (mbk_ M)), .ref (r 25), .ref (r 26), .int (mlw_ M), .int (mhg_ M), .int (msl_ M), .ref (r 30), .int (nI (mrm_ M)), .ref (r 32), .int (mlo_ M)])), (r 1, .inl (cI, 7, .inl (mrf_ M))), (r 2, .inl (cI, 7, .inl (kd_ (hs_ 24 (hs_ 24 (hs_ v_ B)))))), (r 3, .inl (cI, 7, .inl (fg_ (hs_ 24 (hs_ 24 (hs_ v_ B)))))), (r 4, .inl (cI, 7, .inl (pl_ (hs_ 24 (hs_ 24 (hs_ v_ B)))))), (r 5, .inl (cI, 7, .inl (pw_ (hs_ 24 (hs_ 24 (hs_ v_ B)))))), (r 6, .inl (cI, 7, .inl (jy_ (hs_ 24 (hs_ 24 (hs_ v_ B)))))), (r 13, .inl (cI, 96, .inl (mtp_ M))), (r 14, .inl (cI, 48, .inl (mlt_ M))), (r 15, .inl (cI, 48, .inl (mla_ M))), (r 16, .inl (cI, 144, .inl (mtd_ M))), (r 20, .inl (cI, 451, .inl (flatK (va_up (mkp_ M) 2 B)))), (r 25, .inl (cI, 7, .inl (mof_ M))), (r 26, .inl (cI, 7, .inl (mfa_ M))), (r 30, .inl (cI, 12, .inl (mrw_ M))), (r 32, .inl (cI, 8, .inl (mhb_ M)))]) H := (va_P.m [true, true, true, true, true, true, true, true, true, true, true, true, true, true, true, true] [] hP)
      refine lv_iload hx hb dX5_ring_58 (lv_at hl 0 rfl) ?_
      refine lv_if_ge (tgt := 76) hx hb dX5_ring_60 (by decide) (fun _ => ?_) (fun q => absurd q (by decide))
      refine lv_iload hx hb dX5_ring_76 (lv_at hl 0 rfl) ?_
      refine lv_istore (lv' := [(4, .int 24), (3, .int (il_ (hs_ v_ B))), (2, .int (ob_ (nI v_) 0 99)), (0, .ref (r 0)), (1, .int (nI v_))]) hx hb dX5_ring_78 hl (by decide) rfl (fun ls hl => ?_)
      refine lv_aload_n hx hb dX5_ring_80 rfl (lv_at hl 3 rfl) ?_
      refine kMvV hx hb hml hown hts hK hP (va_D.adr hD0 (mW_adE rfl)) hA hS gX5_ring_X5_forgets okX5_forgets (qX5_forgetsE l D cI cB r (hs_ 24 (hs_ 24 (hs_ v_ B))) (mkM (mrf_ M) (mtp_ M) (mlt_ M) (mla_ M) (mtd_ M) (va_up (mkp_ M) 2 B) (mof_ M) (mfa_ M) (mrw_ M) (mhb_ M) (mtn_ M) (mrd_ M) (msm_ M) (41 * 2 + 41) (mbk_ M) (mrm_ M) (mhi_ M) 1 (mlw_ M) (mhg_ M) (msl_ M) (mlo_ M)) ) [0, 1, 2, 3, 4, 5, 6, 7, 8, 9, 10, 11, 12, 13, 14, 15] rfl (by decide) (fun _ => mW_adE rfl) rfl rfl rfl (by decide) hl.1 rfl rfl (Nat.le_of_ble_eq_true rfl) dX5_ring_81 (by decide) (fun u_25 H locs hw_26 hP hD hS => ?_)
      replace hP : va_P D vwCl ([(r 0, .inr (5, [.ref (r 1), .ref (r 2), .ref (r 3), .ref (r 4), .ref (r 5), .ref (r 6), .int (nI (sn_ B)), .int (qt_ B), .int (il_ B), .int (pa_ B), .int (ho_ B), .int (dy_ B), .ref (r 13), .ref (r 14), .ref (r 15), .ref (r 16), .int (nI (mtn_ M)), .int (nI (mrd_ M)), .int (nI (msm_ M)), .ref (r 20), .int (mhi_ M), .int (0), .int (nI (41 * 2 + 41)), .int (nI (mbk_ M)), .ref (r 25), .ref (r 26), .int (mlw_ M), .int (mhg_ M), .int (msl_ M), .ref (r 30), .int (nI (mrm_ M)), .ref (r 32), .int (mlo_ M)])), (r 1, .inl (cI, 7, .inl (mrf_ M))), (r 2, .inl (cI, 7, .inl (kd_ B))), (r 3, .inl (cI, 7, .inl (fg_ B))), (r 4, .inl (cI, 7, .inl (pl_ B))), (r 5, .inl (cI, 7, .inl (pw_ B))), (r 6, .inl (cI, 7, .inl (jy_ B))), (r 13, .inl (cI, 96, .inl (mtp_ M))), (r 14, .inl (cI, 48, .inl (mlt_ M))), (r 15, .inl (cI, 48, .inl (mla_ M))), (r 16, .inl (cI, 144, .inl (mtd_ M))), (r 20, .inl (cI, 451, .inl (flatK (va_up (mkp_ M) 2 B)))), (r 25, .inl (cI, 7, .inl (mof_ M))), (r 26, .inl (cI, 7, .inl (mfa_ M))), (r 30, .inl (cI, 12, .inl (mrw_ M))), (r 32, .inl (cI, 8, .inl (mhb_ M)))]) H := (va_P.m [true, true, true, true, true, true, true, true, true, true, true, true, true, true, true, true] [] hP)
      refine lv_iload hx hb dX5_ring_84 (lv_at hl 0 rfl) ?_
      refine rMi hx hb hr hlk hS (mkM (mrf_ M) (mtp_ M) (mlt_ M) (mla_ M) (mtd_ M) (va_up (mkp_ M) 2 B) (mof_ M) (mfa_ M) (mrw_ M) (mhb_ M) (mtn_ M) (mrd_ M) (msm_ M) (41 * 2 + 41) (mbk_ M) (mrm_ M) (mhi_ M) 0 (mlw_ M) (mhg_ M) (msl_ M) (mlo_ M)) hP ?_ dX5_ring_86
      first | exact ⟨(if_neg c_6).symm, oQ_n _ _⟩ | exact ⟨by (rw [if_pos c_6]; simp only [tn_n (show v_ < 2147483648 by omega)]; rw [← rg_eq (bI_hs hI _)]; unfold rgX_; rw [show hs_ 48 (hs_ v_ B) = hs_ 24 (hs_ 24 (hs_ v_ B)) from (hs_hs 24 (hs_ v_ B) 24).symm]; first | (rw [if_pos c_40]; done) | (rw [if_neg c_40, if_pos c_68]; done) | (rw [if_neg c_40, if_neg c_68]; done)), oQ_0 c_6 (by (first | exact (oN_mk (by assumption)).m | exact oM_.rf _ | exact (oN_pp _ _).m | exact (oN_fo _ _ _ _).m | assumption | (apply oN_.m; assumption) | exact oM_.tr (by assumption) (by assumption)))⟩
  · skip
    refine lv_aload_n hx hb dX5_ring_9 rfl (lv_at hl 1 rfl) ?_
    refine lv_iload_n hx hb dX5_ring_10 rfl (lv_at hl 0 rfl) ?_
    refine kMiV hx hb hml hown hts hK hP (va_D.adr hD0 (mW_adE rfl)) hA hS gX5_ring_X5_no okX5_no (qX5_no l D cI cB r B M (ob_ v 0 99) (rc0_n (by first | exact rc0_wS _ _ | exact rc0_wSN _ _ _ | exact rc0_wSNW _ _ _ _ | exact rc0_wNW _ _ | exact rc0_wTh _ _ _ _ _ | exact rc0_wTr _ _ _ _ | exact rc0_nb _ _ | exact rc0_uk _ _ | exact rc0_ob _ _ _ | exact rc0_f2 (rc0_nb _ _) (rc0_nb _ _) | exact rc0_f2 (rc0_nb _ _) (rc0_uk _ _) | exact rc0_f2 (rc0_ob _ _ _) (rc0_uk _ _) | exact rc0_f2 (rc0_uk _ _) (rc0_f2 (rc0_uk _ _) (rc0_ob _ _ _))) c_6)) [0, 1, 2, 3, 4, 5, 6, 7, 8, 9, 10, 11, 12, 13, 14, 15] rfl (by decide) (fun _ => mW_adr _ _ _ _ _ _) rfl rfl rfl (by decide) hl.1 rfl rfl (Nat.le_of_ble_eq_true rfl) dX5_ring_11 (by decide) (fun r_27 u_28 H locs hw_29 hP hD hS => ?_)
    replace hw_29 : r_27 = ob_ v 0 99 ∧ u_28 = (rfm_ M (ob_ v 0 99)) := hw_29
    obtain ⟨hw_29a, hw_29b⟩ := hw_29
    subst r_27
    subst u_28
    replace hP : va_P D vwCl ([(r 0, .inr (5, [.ref (r 1), .ref (r 2), .ref (r 3), .ref (r 4), .ref (r 5), .ref (r 6), .int (nI (sn_ B)), .int (qt_ B), .int (il_ B), .int (pa_ B), .int (ho_ B), .int (dy_ B), .ref (r 13), .ref (r 14), .ref (r 15), .ref (r 16), .int (nI (mtn_ M)), .int (nI (mrd_ M)), .int (nI (msm_ M)), .ref (r 20), .int (mhi_ M), .int (mik_ M), .int (nI (mcu_ M)), .int (nI (mbk_ M)), .ref (r 25), .ref (r 26), .int (mlw_ M), .int (mhg_ M), .int (msl_ M), .ref (r 30), .int (nI (mrm_ M)), .ref (r 32), .int (mlo_ M)])), (r 1, .inl (cI, 7, .inl (rfx_ (mrf_ M) (ob_ v 0 99)))), (r 2, .inl (cI, 7, .inl (kd_ B))), (r 3, .inl (cI, 7, .inl (fg_ B))), (r 4, .inl (cI, 7, .inl (pl_ B))), (r 5, .inl (cI, 7, .inl (pw_ B))), (r 6, .inl (cI, 7, .inl (jy_ B))), (r 13, .inl (cI, 96, .inl (mtp_ M))), (r 14, .inl (cI, 48, .inl (mlt_ M))), (r 15, .inl (cI, 48, .inl (mla_ M))), (r 16, .inl (cI, 144, .inl (mtd_ M))), (r 20, .inl (cI, 451, .inl (flatK (mkp_ M)))), (r 25, .inl (cI, 7, .inl (mof_ M))), (r 26, .inl (cI, 7, .inl (mfa_ M))), (r 30, .inl (cI, 12, .inl (mrw_ M))), (r 32, .inl (cI, 8, .inl (mhb_ M)))]) H := (va_P.m [true, true, true, true, true, true, true, true, true, true, true, true, true, true, true, true] [] hP)
    refine rMi hx hb hr hlk hS (rfm_ M (ob_ v 0 99)) hP ?_ dX5_ring_14
    first | exact ⟨(if_neg c_6).symm, oQ_n _ _⟩ | exact ⟨by (rw [if_pos c_6]; simp only [tn_n (show v_ < 2147483648 by omega)]; rw [← rg_eq (bI_hs hI _)]; unfold rgX_; rw [show hs_ 48 (hs_ v_ B) = hs_ 24 (hs_ 24 (hs_ v_ B)) from (hs_hs 24 (hs_ v_ B) 24).symm]; first | (rw [if_pos c_40]; done) | (rw [if_neg c_40, if_pos c_68]; done) | (rw [if_neg c_40, if_neg c_68]; done)), oQ_0 c_6 (by (first | exact (oN_mk (by assumption)).m | exact oM_.rf _ | exact (oN_pp _ _).m | exact (oN_fo _ _ _ _).m | assumption | (apply oN_.m; assumption) | exact oM_.tr (by assumption) (by assumption)))⟩

theorem okX5_judge : jok yX5_judge wsX5_judge cX5_judge 5 (some .int) 0 := ⟨⟨_, rfl⟩, by decide +kernel, by decide +kernel⟩
set_option maxHeartbeats 2000000 in
set_option maxRecDepth 100000 in
theorem qX5_judge (l : Launch) (D : va_G) (cI cB : ClassId) (r : Nat → Nat) (B : BayT) (M : MT) (hI : bI_ B) (hrm : mrm_ M ≤ 12) : jMi D cI cB l yX5_judge wsX5_judge 6 [.ref (r 0)] (mW cI r B M) (S := MT) (fun r u => r = oI_ (fx_ (mrw_ M) B (mrm_ M) 0) ∧ oM_ (urm_ M 0) u) (fun u => mW cI r B u) := by
  refine jMi.of (cc := cX5_judge) (maxL := 5) (ret := (some .int)) okX5_judge (Nat.le_of_ble_eq_true rfl) ?_
  intro p e s m below meth c ls A hx hb hr hts hown hlk hml hP hK hD hA hS hl
  replace hown : s.vm.findClass RX5 = some m.cls := hown
  replace hl : lv_has ls 5 [(0, .ref (r 0))] := hl
  have hD0 := hD
  have hn7 := hI.1
  have hinX5 : ∀ w ∈ wsX50, w ∈ wsX5_judge := by decide +kernel
  refine lv_aload_n hx hb dX5_judge_0 rfl (lv_at hl 0 rfl) ?_
  refine va_get (ci := 5) (C := RX5) (T := TX5) (N := 33) hx hb hts hinX5 hown hK.1 hP 0 rfl rfl 30 (by decide) (hts _ (List.mem_of_getElem? (i := 1) rfl)) (fun _ h9 => h9) rfl dX5_judge_1 ?_
  refine lv_istore_n (lv' := [(1, .int (nI (mrm_ M))), (0, .ref (r 0))]) hx hb dX5_judge_4 rfl hl (by decide) rfl (fun ls hl => ?_)
  refine lv_aload_n hx hb dX5_judge_5 rfl (lv_at hl 1 rfl) ?_
  refine lv_iconst (v := 0) hx hb dX5_judge_6 (by decide) ?_
  refine sti (x := 0) (y := nI 0) (rfl) ?_
  refine va_put (ci := 5) (ty := .int) (C := RX5) (T := TX5) (N := 33) hx hb hts hinX5 tyX5 tyX5_ok nmX5 hown hK.1 hP (va_D.adr hD0 (mW_adE rfl)) hS 0 rfl rfl 30 (by decide) (hts _ (List.mem_of_getElem? (i := 1) rfl)) (fun _ h9 => h9) rfl (by decide +kernel) (rfl) (rfl) (Nat.le_of_ble_eq_true rfl) dX5_judge_7 (fun H locs hP hD hS => ?_)
  replace hP : va_P D vwCl ([(r 0, .inr (5, [.ref (r 1), .ref (r 2), .ref (r 3), .ref (r 4), .ref (r 5), .ref (r 6), .int (nI (sn_ B)), .int (qt_ B), .int (il_ B), .int (pa_ B), .int (ho_ B), .int (dy_ B), .ref (r 13), .ref (r 14), .ref (r 15), .ref (r 16), .int (nI (mtn_ M)), .int (nI (mrd_ M)), .int (nI (msm_ M)), .ref (r 20), .int (mhi_ M), .int (mik_ M), .int (nI (mcu_ M)), .int (nI (mbk_ M)), .ref (r 25), .ref (r 26), .int (mlw_ M), .int (mhg_ M), .int (msl_ M), .ref (r 30), .int (nI 0), .ref (r 32), .int (mlo_ M)])), (r 1, .inl (cI, 7, .inl (mrf_ M))), (r 2, .inl (cI, 7, .inl (kd_ B))), (r 3, .inl (cI, 7, .inl (fg_ B))), (r 4, .inl (cI, 7, .inl (pl_ B))), (r 5, .inl (cI, 7, .inl (pw_ B))), (r 6, .inl (cI, 7, .inl (jy_ B))), (r 13, .inl (cI, 96, .inl (mtp_ M))), (r 14, .inl (cI, 48, .inl (mlt_ M))), (r 15, .inl (cI, 48, .inl (mla_ M))), (r 16, .inl (cI, 144, .inl (mtd_ M))), (r 20, .inl (cI, 451, .inl (flatK (mkp_ M)))), (r 25, .inl (cI, 7, .inl (mof_ M))), (r 26, .inl (cI, 7, .inl (mfa_ M))), (r 30, .inl (cI, 12, .inl (mrw_ M))), (r 32, .inl (cI, 8, .inl (mhb_ M)))]) H := hP
  replace hP : va_P D vwCl ([(r 0, .inr (5, [.ref (r 1), .ref (r 2), .ref (r 3), .ref (r 4), .ref (r 5), .ref (r 6), .int (nI (sn_ B)), .int (qt_ B), .int (il_ B), .int (pa_ B), .int (ho_ B), .int (dy_ B), .ref (r 13), .ref (r 14), .ref (r 15), .ref (r 16), .int (nI (mtn_ M)), .int (nI (mrd_ M)), .int (nI (msm_ M)), .ref (r 20), .int (mhi_ M), .int (mik_ M), .int (nI (mcu_ M)), .int (nI (mbk_ M)), .ref (r 25), .ref (r 26), .int (mlw_ M), .int (mhg_ M), .int (msl_ M), .ref (r 30), .int (nI 0), .ref (r 32), .int (mlo_ M)])), (r 1, .inl (cI, 7, .inl (mrf_ M))), (r 2, .inl (cI, 7, .inl (kd_ B))), (r 3, .inl (cI, 7, .inl (fg_ B))), (r 4, .inl (cI, 7, .inl (pl_ B))), (r 5, .inl (cI, 7, .inl (pw_ B))), (r 6, .inl (cI, 7, .inl (jy_ B))), (r 13, .inl (cI, 96, .inl (mtp_ M))), (r 14, .inl (cI, 48, .inl (mlt_ M))), (r 15, .inl (cI, 48, .inl (mla_ M))), (r 16, .inl (cI, 144, .inl (mtd_ M))), (r 20, .inl (cI, 451, .inl (flatK (mkp_ M)))), (r 25, .inl (cI, 7, .inl (mof_ M))), (r 26, .inl (cI, 7, .inl (mfa_ M))), (r 30, .inl (cI, 12, .inl (mrw_ M))), (r 32, .inl (cI, 8, .inl (mhb_ M)))]) H := hP
  refine lv_aload_n hx hb dX5_judge_10 rfl (lv_at hl 1 rfl) ?_
  refine kMvV hx hb hml hown hts hK hP (va_D.adr hD0 (mW_adE rfl)) hA hS gX5_judge_X5_thinks okX5_thinks (qX5_thinksE l D cI cB r B (urm_ M 0) ) [0, 1, 2, 3, 4, 5, 6, 7, 8, 9, 10, 11, 12, 13, 14, 15] rfl (by decide) (fun _ => mW_adE rfl) rfl rfl rfl (by decide) hl.1 rfl rfl (Nat.le_of_ble_eq_true rfl) dX5_judge_11 (by decide) (fun u_2 H locs hw_3 hP hD hS => ?_)
  replace hP : va_P D vwCl ([(r 0, .inr (5, [.ref (r 1), .ref (r 2), .ref (r 3), .ref (r 4), .ref (r 5), .ref (r 6), .int (nI (sn_ B)), .int (qt_ B), .int (il_ B), .int (pa_ B), .int (ho_ B), .int (dy_ B), .ref (r 13), .ref (r 14), .ref (r 15), .ref (r 16), .int (nI (mtn_ M)), .int (nI (mrd_ M)), .int (nI (msm_ M)), .ref (r 20), .int (mhi_ M), .int (1), .int (nI (41 * 2 + 41)), .int (nI (mbk_ M)), .ref (r 25), .ref (r 26), .int (mlw_ M), .int (mhg_ M), .int (msl_ M), .ref (r 30), .int (nI 0), .ref (r 32), .int (mlo_ M)])), (r 1, .inl (cI, 7, .inl (mrf_ M))), (r 2, .inl (cI, 7, .inl (kd_ B))), (r 3, .inl (cI, 7, .inl (fg_ B))), (r 4, .inl (cI, 7, .inl (pl_ B))), (r 5, .inl (cI, 7, .inl (pw_ B))), (r 6, .inl (cI, 7, .inl (jy_ B))), (r 13, .inl (cI, 96, .inl (mtp_ M))), (r 14, .inl (cI, 48, .inl (mlt_ M))), (r 15, .inl (cI, 48, .inl (mla_ M))), (r 16, .inl (cI, 144, .inl (mtd_ M))), (r 20, .inl (cI, 451, .inl (flatK (va_up (mkp_ M) 2 B)))), (r 25, .inl (cI, 7, .inl (mof_ M))), (r 26, .inl (cI, 7, .inl (mfa_ M))), (r 30, .inl (cI, 12, .inl (mrw_ M))), (r 32, .inl (cI, 8, .inl (mhb_ M)))]) H := (va_P.m [true, true, true, true, true, true, true, true, true, true, true, true, true, true, true, true] [] hP)
  refine lv_bipush (v := (-9)) hx hb dX5_judge_14 (by decide) ?_
  refine lv_istore_n (lv' := [(2, .int (-9)), (1, .int (nI (mrm_ M))), (0, .ref (r 0))]) hx hb dX5_judge_16 rfl hl (by decide) rfl (fun ls hl => ?_)
  refine lv_iconst (v := 0) hx hb dX5_judge_17 (by decide) ?_
  refine lv_istore_n (lv' := [(3, .int 0), (2, .int (-9)), (1, .int (nI (mrm_ M))), (0, .ref (r 0))]) hx hb dX5_judge_18 rfl hl (by decide) rfl (fun ls hl => ?_)
  have lp_19 : ∀ (fu_19 : Nat) (i : Nat) (o9 : Option Nat) (x2_19 : Int32) (x3_19 : Int32) (T : BayT), (x2_19 = oI_ o9) → (x3_19 = nI i) → (T = hs_ i B) → (i ≤ mrm_ M) → (∀ t, o9 = some t → t < 12) → ((match o9 with | none => fx_ (mrw_ M) B (mrm_ M - i) i | some t => some t) = fx_ (mrw_ M) B (mrm_ M) 0) → mrm_ M - i < fu_19 → ∀ (H : Heap) (locs : List Loc), va_P D vwCl ([(r 0, .inr (5, [.ref (r 1), .ref (r 2), .ref (r 3), .ref (r 4), .ref (r 5), .ref (r 6), .int (nI (sn_ T)), .int (qt_ T), .int (il_ T), .int (pa_ T), .int (ho_ T), .int (dy_ T), .ref (r 13), .ref (r 14), .ref (r 15), .ref (r 16), .int (nI (mtn_ M)), .int (nI (mrd_ M)), .int (nI (msm_ M)), .ref (r 20), .int (mhi_ M), .int (1), .int (nI (41 * 2 + 41)), .int (nI (mbk_ M)), .ref (r 25), .ref (r 26), .int (mlw_ M), .int (mhg_ M), .int (msl_ M), .ref (r 30), .int (nI 0), .ref (r 32), .int (mlo_ M)])), (r 1, .inl (cI, 7, .inl (mrf_ M))), (r 2, .inl (cI, 7, .inl (kd_ T))), (r 3, .inl (cI, 7, .inl (fg_ T))), (r 4, .inl (cI, 7, .inl (pl_ T))), (r 5, .inl (cI, 7, .inl (pw_ T))), (r 6, .inl (cI, 7, .inl (jy_ T))), (r 13, .inl (cI, 96, .inl (mtp_ M))), (r 14, .inl (cI, 48, .inl (mlt_ M))), (r 15, .inl (cI, 48, .inl (mla_ M))), (r 16, .inl (cI, 144, .inl (mtd_ M))), (r 20, .inl (cI, 451, .inl (flatK (va_up (mkp_ M) 2 B)))), (r 25, .inl (cI, 7, .inl (mof_ M))), (r 26, .inl (cI, 7, .inl (mfa_ M))), (r 30, .inl (cI, 12, .inl (mrw_ M))), (r 32, .inl (cI, 8, .inl (mhb_ M)))]) H → va_D A ([(r 0, .inr (5, [.ref (r 1), .ref (r 2), .ref (r 3), .ref (r 4), .ref (r 5), .ref (r 6), .int (nI (sn_ T)), .int (qt_ T), .int (il_ T), .int (pa_ T), .int (ho_ T), .int (dy_ T), .ref (r 13), .ref (r 14), .ref (r 15), .ref (r 16), .int (nI (mtn_ M)), .int (nI (mrd_ M)), .int (nI (msm_ M)), .ref (r 20), .int (mhi_ M), .int (1), .int (nI (41 * 2 + 41)), .int (nI (mbk_ M)), .ref (r 25), .ref (r 26), .int (mlw_ M), .int (mhg_ M), .int (msl_ M), .ref (r 30), .int (nI 0), .ref (r 32), .int (mlo_ M)])), (r 1, .inl (cI, 7, .inl (mrf_ M))), (r 2, .inl (cI, 7, .inl (kd_ T))), (r 3, .inl (cI, 7, .inl (fg_ T))), (r 4, .inl (cI, 7, .inl (pl_ T))), (r 5, .inl (cI, 7, .inl (pw_ T))), (r 6, .inl (cI, 7, .inl (jy_ T))), (r 13, .inl (cI, 96, .inl (mtp_ M))), (r 14, .inl (cI, 48, .inl (mlt_ M))), (r 15, .inl (cI, 48, .inl (mla_ M))), (r 16, .inl (cI, 144, .inl (mtd_ M))), (r 20, .inl (cI, 451, .inl (flatK (va_up (mkp_ M) 2 B)))), (r 25, .inl (cI, 7, .inl (mof_ M))), (r 26, .inl (cI, 7, .inl (mfa_ M))), (r 30, .inl (cI, 12, .inl (mrw_ M))), (r 32, .inl (cI, 8, .inl (mhb_ M)))]) → va_S A s.heap H locs → ∀ ls : Array Slot, lv_has ls 5 [(3, .int x3_19), (2, .int x2_19), (1, .int (nI (mrm_ M))), (0, .ref (r 0))] → W p l e (jR 6) s m ([.ref (r 0)] : List Value).toArray below meth c H locs 0 0 (MQ below (va_Qi (S := MT) (fun r u => r = oI_ (fx_ (mrw_ M) B (mrm_ M) 0) ∧ oM_ (urm_ M 0) u) (fun u t => va_P D vwCl ((fun u => mW cI r B u) u) t.heap) A) ([.ref (r 0)] : List Value).toArray s 0 0 A) (F0 m 19 ls []) := by
    intro fu_19
    induction fu_19 with
    | zero => intro i o9 x2_19 x3_19 T hx2_19 hx3_19 hT hi ho9 hre hfu; exact absurd hfu (Nat.not_lt_zero _)
    | succ fu_19 ih_19 =>
      intro i o9 x2_19 x3_19 T hx2_19 hx3_19 hT hi ho9 hre hfu_19 H locs hP hD hS ls hl
      subst x2_19
      subst x3_19
      subst T
      replace hl : lv_has ls 5 [(3, .int (nI i)), (2, .int (oI_ o9)), (1, .int (nI (mrm_ M))), (0, .ref (r 0))] := hl
      replace hP : va_P D vwCl ([(r 0, .inr (5, [.ref (r 1), .ref (r 2), .ref (r 3), .ref (r 4), .ref (r 5), .ref (r 6), .int (nI (sn_ (hs_ i B))), .int (qt_ (hs_ i B)), .int (il_ (hs_ i B)), .int (pa_ (hs_ i B)), .int (ho_ (hs_ i B)), .int (dy_ (hs_ i B)), .ref (r 13), .ref (r 14), .ref (r 15), .ref (r 16), .int (nI (mtn_ M)), .int (nI (mrd_ M)), .int (nI (msm_ M)), .ref (r 20), .int (mhi_ M), .int (1), .int (nI (41 * 2 + 41)), .int (nI (mbk_ M)), .ref (r 25), .ref (r 26), .int (mlw_ M), .int (mhg_ M), .int (msl_ M), .ref (r 30), .int (nI 0), .ref (r 32), .int (mlo_ M)])), (r 1, .inl (cI, 7, .inl (mrf_ M))), (r 2, .inl (cI, 7, .inl (kd_ (hs_ i B)))), (r 3, .inl (cI, 7, .inl (fg_ (hs_ i B)))), (r 4, .inl (cI, 7, .inl (pl_ (hs_ i B)))), (r 5, .inl (cI, 7, .inl (pw_ (hs_ i B)))), (r 6, .inl (cI, 7, .inl (jy_ (hs_ i B)))), (r 13, .inl (cI, 96, .inl (mtp_ M))), (r 14, .inl (cI, 48, .inl (mlt_ M))), (r 15, .inl (cI, 48, .inl (mla_ M))), (r 16, .inl (cI, 144, .inl (mtd_ M))), (r 20, .inl (cI, 451, .inl (flatK (va_up (mkp_ M) 2 B)))), (r 25, .inl (cI, 7, .inl (mof_ M))), (r 26, .inl (cI, 7, .inl (mfa_ M))), (r 30, .inl (cI, 12, .inl (mrw_ M))), (r 32, .inl (cI, 8, .inl (mhb_ M)))]) H := hP
      rcases hL : o9 with _ | t9
      · rw [hL] at hl
        replace hl : lv_has ls 5 [(3, .int (nI i)), (2, .int (-9)), (1, .int (nI (mrm_ M))), (0, .ref (r 0))] := hl
        refine lv_iload_n hx hb dX5_judge_19 rfl (lv_at hl 0 rfl) ?_
        refine lv_iload_n hx hb dX5_judge_20 rfl (lv_at hl 2 rfl) ?_
        refine lv_icmp_ge (tgt := 77) hx hb dX5_judge_21 (by decide) (fun c_21 => ?_) (fun c_21 => ?_)
        · replace c_21 : nI (mrm_ M) ≤ nI i := c_21
          rw [jle (by omega) (by omega)] at c_21
          refine lv_aload_n hx hb dX5_judge_77 rfl (lv_at hl 3 rfl) ?_
          refine kMvV hx hb hml hown hts hK hP (va_D.adr hD0 (mW_adE rfl)) hA hS gX5_judge_X5_forgets okX5_forgets (qX5_forgetsE l D cI cB r (hs_ i B) (mkM (mrf_ M) (mtp_ M) (mlt_ M) (mla_ M) (mtd_ M) (va_up (mkp_ M) 2 B) (mof_ M) (mfa_ M) (mrw_ M) (mhb_ M) (mtn_ M) (mrd_ M) (msm_ M) (41 * 2 + 41) (mbk_ M) 0 (mhi_ M) 1 (mlw_ M) (mhg_ M) (msl_ M) (mlo_ M)) ) [0, 1, 2, 3, 4, 5, 6, 7, 8, 9, 10, 11, 12, 13, 14, 15] rfl (by decide) (fun _ => mW_adE rfl) rfl rfl rfl (by decide) hl.1 rfl rfl (Nat.le_of_ble_eq_true rfl) dX5_judge_78 (by decide) (fun u_5 H locs hw_6 hP hD hS => ?_)
          replace hP : va_P D vwCl ([(r 0, .inr (5, [.ref (r 1), .ref (r 2), .ref (r 3), .ref (r 4), .ref (r 5), .ref (r 6), .int (nI (sn_ B)), .int (qt_ B), .int (il_ B), .int (pa_ B), .int (ho_ B), .int (dy_ B), .ref (r 13), .ref (r 14), .ref (r 15), .ref (r 16), .int (nI (mtn_ M)), .int (nI (mrd_ M)), .int (nI (msm_ M)), .ref (r 20), .int (mhi_ M), .int (0), .int (nI (41 * 2 + 41)), .int (nI (mbk_ M)), .ref (r 25), .ref (r 26), .int (mlw_ M), .int (mhg_ M), .int (msl_ M), .ref (r 30), .int (nI 0), .ref (r 32), .int (mlo_ M)])), (r 1, .inl (cI, 7, .inl (mrf_ M))), (r 2, .inl (cI, 7, .inl (kd_ B))), (r 3, .inl (cI, 7, .inl (fg_ B))), (r 4, .inl (cI, 7, .inl (pl_ B))), (r 5, .inl (cI, 7, .inl (pw_ B))), (r 6, .inl (cI, 7, .inl (jy_ B))), (r 13, .inl (cI, 96, .inl (mtp_ M))), (r 14, .inl (cI, 48, .inl (mlt_ M))), (r 15, .inl (cI, 48, .inl (mla_ M))), (r 16, .inl (cI, 144, .inl (mtd_ M))), (r 20, .inl (cI, 451, .inl (flatK (va_up (mkp_ M) 2 B)))), (r 25, .inl (cI, 7, .inl (mof_ M))), (r 26, .inl (cI, 7, .inl (mfa_ M))), (r 30, .inl (cI, 12, .inl (mrw_ M))), (r 32, .inl (cI, 8, .inl (mhb_ M)))]) H := (va_P.m [true, true, true, true, true, true, true, true, true, true, true, true, true, true, true, true] [] hP)
          refine lv_iload_n hx hb dX5_judge_81 rfl (lv_at hl 1 rfl) ?_
          refine rMi hx hb hr hlk hS (mkM (mrf_ M) (mtp_ M) (mlt_ M) (mla_ M) (mtd_ M) (va_up (mkp_ M) 2 B) (mof_ M) (mfa_ M) (mrw_ M) (mhb_ M) (mtn_ M) (mrd_ M) (msm_ M) (41 * 2 + 41) (mbk_ M) 0 (mhi_ M) 0 (mlw_ M) (mhg_ M) (msl_ M) (mlo_ M)) hP ?_ dX5_judge_82
          first | (rw [hL] at hre; simp only at hre; rw [fx_0 (by omega)] at hre; rw [← hre]; exact ⟨rfl, (oN_pp _ _).m⟩) | (rw [hL] at hre; simp only at hre; rw [← hre]; exact ⟨rfl, (oN_pp _ _).m⟩)
        · replace c_21 : ¬ nI (mrm_ M) ≤ nI i := c_21
          rw [jle (by omega) (by omega)] at c_21
          refine lv_iload_n hx hb dX5_judge_24 rfl (lv_at hl 1 rfl) ?_
          refine lv_if_ge (tgt := 77) hx hb dX5_judge_25 (by decide) (fun q => absurd q (by decide)) (fun _ => ?_)
          refine lv_aload_n hx hb dX5_judge_28 rfl (lv_at hl 3 rfl) ?_
          refine lv_aload_n hx hb dX5_judge_29 rfl (lv_at hl 3 rfl) ?_
          refine va_get (ci := 5) (C := RX5) (T := TX5) (N := 33) hx hb hts hinX5 hown hK.1 hP 0 rfl rfl 10 (by decide) (hts _ (List.mem_of_getElem? (i := 2) rfl)) (fun _ h9 => h9) rfl dX5_judge_30 ?_
          refine kSiV hx hb hml hown hts hK hP gX5_judge_X5_loudestAt okX5_loudestAt (qX5_loudestAt l D cI cB r (hs_ i B) (mkM (mrf_ M) (mtp_ M) (mlt_ M) (mla_ M) (mtd_ M) (va_up (mkp_ M) 2 B) (mof_ M) (mfa_ M) (mrw_ M) (mhb_ M) (mtn_ M) (mrd_ M) (msm_ M) (41 * 2 + 41) (mbk_ M) 0 (mhi_ M) 1 (mlw_ M) (mhg_ M) (msl_ M) (mlo_ M)) (ho_ (hs_ i B)) (bI_hs hI _)) [0, 1, 2, 3, 4, 5, 6, 7, 8, 9, 10, 11, 12, 13, 14, 15] rfl rfl rfl rfl (by decide) hl.1 rfl rfl (Nat.le_of_ble_eq_true rfl) dX5_judge_33 (by decide) (fun r_7 hr_8 => ?_)
          replace hr_8 : r_7 = oI_ (lt_ (hs_ i B) (ho_ (hs_ i B))) := hr_8
          subst r_7
          refine lv_istore (lv' := [(4, .int (oI_ (lt_ (hs_ i B) (ho_ (hs_ i B))))), (3, .int (nI i)), (2, .int (-9)), (1, .int (nI (mrm_ M))), (0, .ref (r 0))]) hx hb dX5_judge_36 hl (by decide) rfl (fun ls hl => ?_)
          rcases hT9 : lt_ (hs_ i B) (ho_ (hs_ i B)) with _ | t
          · rw [hT9] at hl
            replace hl : lv_has ls 5 [(4, .int (-9)), (3, .int (nI i)), (2, .int (-9)), (1, .int (nI (mrm_ M))), (0, .ref (r 0))] := hl
            refine lv_iload hx hb dX5_judge_38 (lv_at hl 0 rfl) ?_
            refine lv_if_ge (tgt := 48) hx hb dX5_judge_40 (by decide) (fun q => absurd q (by decide)) (fun _ => ?_)
            refine lv_bipush (v := 9) hx hb dX5_judge_43 (by decide) ?_
            refine lv_goto (tgt := 50) hx hb dX5_judge_45 (by decide) ?_
            refine lv_aload_n hx hb dX5_judge_50 rfl (lv_at hl 4 rfl) ?_
            refine va_get (ci := 5) (C := RX5) (T := TX5) (N := 33) hx hb hts hinX5 hown hK.1 hP 0 rfl rfl 29 (by decide) (hts _ (List.mem_of_getElem? (i := 3) rfl)) (fun _ h9 => h9) rfl dX5_judge_51 ?_
            refine lv_iload_n hx hb dX5_judge_54 rfl (lv_at hl 1 rfl) ?_
            refine jald hx hb hK.1 hP 14 0 i rfl rfl rfl (by omega) (Nat.le_of_ble_eq_true rfl) dX5_judge_55 ?_
            refine lv_icmp_ne (tgt := 64) hx hb dX5_judge_56 (by decide) (fun c_56 => ?_) (fun c_56 => ?_)
            · skip
              refine lv_iload_n hx hb dX5_judge_64 rfl (lv_at hl 1 rfl) ?_
              refine lv_istore_n (lv' := [(2, .int (nI i)), (4, .int (-9)), (3, .int (nI i)), (1, .int (nI (mrm_ M))), (0, .ref (r 0))]) hx hb dX5_judge_65 rfl hl (by decide) rfl (fun ls hl => ?_)
              refine lv_aload_n hx hb dX5_judge_66 rfl (lv_at hl 4 rfl) ?_
              refine lv_iconst (v := 0) hx hb dX5_judge_67 (by decide) ?_
              refine kMvV hx hb hml hown hts hK hP (va_D.adr hD0 (mW_adE rfl)) hA hS gX5_judge_X5_goesHour okX5_goesHour (qX5_goesHour l D cI cB r (hs_ i B) (mkM (mrf_ M) (mtp_ M) (mlt_ M) (mla_ M) (mtd_ M) (va_up (mkp_ M) 2 B) (mof_ M) (mfa_ M) (mrw_ M) (mhb_ M) (mtn_ M) (mrd_ M) (msm_ M) (41 * 2 + 41) (mbk_ M) 0 (mhi_ M) 1 (mlw_ M) (mhg_ M) (msl_ M) (mlo_ M)) False inferInstance (bI_hs hI _)) [0, 1, 2, 3, 4, 5, 6, 7, 8, 9, 10, 11, 12, 13, 14, 15] rfl (by decide) (fun _ => mW_adr _ _ _ _ _ _) rfl rfl rfl (by decide) hl.1 rfl rfl (Nat.le_of_ble_eq_true rfl) dX5_judge_68 (by decide) (fun u_10 H locs hw_11 hP hD hS => ?_)
              replace hw_11 : u_10 = hb_ False (hs_ i B) := hw_11
              subst u_10
              replace hP : va_P D vwCl ([(r 0, .inr (5, [.ref (r 1), .ref (r 2), .ref (r 3), .ref (r 4), .ref (r 5), .ref (r 6), .int (nI (sn_ (hb_ False (hs_ i B)))), .int (qt_ (hb_ False (hs_ i B))), .int (il_ (hb_ False (hs_ i B))), .int (pa_ (hb_ False (hs_ i B))), .int (ho_ (hb_ False (hs_ i B))), .int (dy_ (hb_ False (hs_ i B))), .ref (r 13), .ref (r 14), .ref (r 15), .ref (r 16), .int (nI (mtn_ M)), .int (nI (mrd_ M)), .int (nI (msm_ M)), .ref (r 20), .int (mhi_ M), .int (1), .int (nI (41 * 2 + 41)), .int (nI (mbk_ M)), .ref (r 25), .ref (r 26), .int (mlw_ M), .int (mhg_ M), .int (msl_ M), .ref (r 30), .int (nI 0), .ref (r 32), .int (mlo_ M)])), (r 1, .inl (cI, 7, .inl (mrf_ M))), (r 2, .inl (cI, 7, .inl (kd_ (hb_ False (hs_ i B))))), (r 3, .inl (cI, 7, .inl (fg_ (hb_ False (hs_ i B))))), (r 4, .inl (cI, 7, .inl (pl_ (hb_ False (hs_ i B))))), (r 5, .inl (cI, 7, .inl (pw_ (hb_ False (hs_ i B))))), (r 6, .inl (cI, 7, .inl (jy_ (hb_ False (hs_ i B))))), (r 13, .inl (cI, 96, .inl (mtp_ M))), (r 14, .inl (cI, 48, .inl (mlt_ M))), (r 15, .inl (cI, 48, .inl (mla_ M))), (r 16, .inl (cI, 144, .inl (mtd_ M))), (r 20, .inl (cI, 451, .inl (flatK (va_up (mkp_ M) 2 B)))), (r 25, .inl (cI, 7, .inl (mof_ M))), (r 26, .inl (cI, 7, .inl (mfa_ M))), (r 30, .inl (cI, 12, .inl (mrw_ M))), (r 32, .inl (cI, 8, .inl (mhb_ M)))]) H := (va_P.m [true, true, true, true, true, true, true, true, true, true, true, true, true, true, true, true] [] hP)
              refine lv_iinc (v := (nI i) + 1) (lv' := [(3, .int ((nI i) + 1)), (2, .int (nI i)), (4, .int (-9)), (1, .int (nI (mrm_ M))), (0, .ref (r 0))]) hx hb dX5_judge_71 hl (k := 2) rfl (by first | rfl | decide) (by decide) rfl (fun ls hl => ?_)
              refine lv_goto (tgt := 19) hx hb dX5_judge_74 (by decide) ?_
              exact ih_19 (i + 1) (some i) (nI i) ((nI i) + 1) (hb_ False (hs_ i B)) (rfl) (by first | rfl | exact nI_1 _) (rfl) (by omega) (fun t z => by first | (cases z; omega) | cases z) (by rw [hL] at hre; simp only at hre; first | (rw [fx_s (by omega), if_pos (by rw [hT9]; exact c_56.symm)] at hre; exact hre) | (rw [fx_s (by omega), if_neg (by rw [hT9]; exact fun z => c_56 z.symm)] at hre; exact hre)) (by omega) _ _ hP (va_D.adr hD0 (mW_adE rfl)) hS ls (lv_sub hl [0, 1, 3, 4] rfl)
            · skip
              refine lv_bipush (v := (-9)) hx hb dX5_judge_59 (by decide) ?_
              refine lv_goto (tgt := 65) hx hb dX5_judge_61 (by decide) ?_
              refine lv_istore_n (lv' := [(2, .int (-9)), (4, .int (-9)), (3, .int (nI i)), (1, .int (nI (mrm_ M))), (0, .ref (r 0))]) hx hb dX5_judge_65 rfl hl (by decide) rfl (fun ls hl => ?_)
              refine lv_aload_n hx hb dX5_judge_66 rfl (lv_at hl 4 rfl) ?_
              refine lv_iconst (v := 0) hx hb dX5_judge_67 (by decide) ?_
              refine kMvV hx hb hml hown hts hK hP (va_D.adr hD0 (mW_adE rfl)) hA hS gX5_judge_X5_goesHour okX5_goesHour (qX5_goesHour l D cI cB r (hs_ i B) (mkM (mrf_ M) (mtp_ M) (mlt_ M) (mla_ M) (mtd_ M) (va_up (mkp_ M) 2 B) (mof_ M) (mfa_ M) (mrw_ M) (mhb_ M) (mtn_ M) (mrd_ M) (msm_ M) (41 * 2 + 41) (mbk_ M) 0 (mhi_ M) 1 (mlw_ M) (mhg_ M) (msl_ M) (mlo_ M)) False inferInstance (bI_hs hI _)) [0, 1, 2, 3, 4, 5, 6, 7, 8, 9, 10, 11, 12, 13, 14, 15] rfl (by decide) (fun _ => mW_adr _ _ _ _ _ _) rfl rfl rfl (by decide) hl.1 rfl rfl (Nat.le_of_ble_eq_true rfl) dX5_judge_68 (by decide) (fun u_13 H locs hw_14 hP hD hS => ?_)
              replace hw_14 : u_13 = hb_ False (hs_ i B) := hw_14
              subst u_13
              replace hP : va_P D vwCl ([(r 0, .inr (5, [.ref (r 1), .ref (r 2), .ref (r 3), .ref (r 4), .ref (r 5), .ref (r 6), .int (nI (sn_ (hb_ False (hs_ i B)))), .int (qt_ (hb_ False (hs_ i B))), .int (il_ (hb_ False (hs_ i B))), .int (pa_ (hb_ False (hs_ i B))), .int (ho_ (hb_ False (hs_ i B))), .int (dy_ (hb_ False (hs_ i B))), .ref (r 13), .ref (r 14), .ref (r 15), .ref (r 16), .int (nI (mtn_ M)), .int (nI (mrd_ M)), .int (nI (msm_ M)), .ref (r 20), .int (mhi_ M), .int (1), .int (nI (41 * 2 + 41)), .int (nI (mbk_ M)), .ref (r 25), .ref (r 26), .int (mlw_ M), .int (mhg_ M), .int (msl_ M), .ref (r 30), .int (nI 0), .ref (r 32), .int (mlo_ M)])), (r 1, .inl (cI, 7, .inl (mrf_ M))), (r 2, .inl (cI, 7, .inl (kd_ (hb_ False (hs_ i B))))), (r 3, .inl (cI, 7, .inl (fg_ (hb_ False (hs_ i B))))), (r 4, .inl (cI, 7, .inl (pl_ (hb_ False (hs_ i B))))), (r 5, .inl (cI, 7, .inl (pw_ (hb_ False (hs_ i B))))), (r 6, .inl (cI, 7, .inl (jy_ (hb_ False (hs_ i B))))), (r 13, .inl (cI, 96, .inl (mtp_ M))), (r 14, .inl (cI, 48, .inl (mlt_ M))), (r 15, .inl (cI, 48, .inl (mla_ M))), (r 16, .inl (cI, 144, .inl (mtd_ M))), (r 20, .inl (cI, 451, .inl (flatK (va_up (mkp_ M) 2 B)))), (r 25, .inl (cI, 7, .inl (mof_ M))), (r 26, .inl (cI, 7, .inl (mfa_ M))), (r 30, .inl (cI, 12, .inl (mrw_ M))), (r 32, .inl (cI, 8, .inl (mhb_ M)))]) H := (va_P.m [true, true, true, true, true, true, true, true, true, true, true, true, true, true, true, true] [] hP)
              refine lv_iinc (v := (nI i) + 1) (lv' := [(3, .int ((nI i) + 1)), (2, .int (-9)), (4, .int (-9)), (1, .int (nI (mrm_ M))), (0, .ref (r 0))]) hx hb dX5_judge_71 hl (k := 2) rfl (by first | rfl | decide) (by decide) rfl (fun ls hl => ?_)
              refine lv_goto (tgt := 19) hx hb dX5_judge_74 (by decide) ?_
              exact ih_19 (i + 1) none (-9) ((nI i) + 1) (hb_ False (hs_ i B)) (rfl) (by first | rfl | exact nI_1 _) (rfl) (by omega) (fun t z => by first | (cases z; omega) | cases z) (by rw [hL] at hre; simp only at hre; first | (rw [fx_s (by omega), if_pos (by rw [hT9]; exact c_56.symm)] at hre; exact hre) | (rw [fx_s (by omega), if_neg (by rw [hT9]; exact fun z => c_56 z.symm)] at hre; exact hre)) (by omega) _ _ hP (va_D.adr hD0 (mW_adE rfl)) hS ls (lv_sub hl [0, 1, 3, 4] rfl)
          · rw [hT9] at hl
            replace hl : lv_has ls 5 [(4, .int (nI t)), (3, .int (nI i)), (2, .int (-9)), (1, .int (nI (mrm_ M))), (0, .ref (r 0))] := hl
            have ht : t < sn_ B := by have := (lo_lt _ _ hT9).1; rw [sn_hs] at this; exact this
            refine lv_iload hx hb dX5_judge_38 (lv_at hl 0 rfl) ?_
            refine lv_if_ge (tgt := 48) hx hb dX5_judge_40 (by decide) (fun _ => ?_) (fun q => absurd (nI_pos' (by omega)) q)
            refine lv_iload hx hb dX5_judge_48 (lv_at hl 0 rfl) ?_
            refine lv_aload_n hx hb dX5_judge_50 rfl (lv_at hl 4 rfl) ?_
            refine va_get (ci := 5) (C := RX5) (T := TX5) (N := 33) hx hb hts hinX5 hown hK.1 hP 0 rfl rfl 29 (by decide) (hts _ (List.mem_of_getElem? (i := 3) rfl)) (fun _ h9 => h9) rfl dX5_judge_51 ?_
            refine lv_iload_n hx hb dX5_judge_54 rfl (lv_at hl 1 rfl) ?_
            refine jald hx hb hK.1 hP 14 0 i rfl rfl rfl (by omega) (Nat.le_of_ble_eq_true rfl) dX5_judge_55 ?_
            refine lv_icmp_ne (tgt := 64) hx hb dX5_judge_56 (by decide) (fun c_56 => ?_) (fun c_56 => ?_)
            · skip
              refine lv_iload_n hx hb dX5_judge_64 rfl (lv_at hl 1 rfl) ?_
              refine lv_istore_n (lv' := [(2, .int (nI i)), (4, .int (nI t)), (3, .int (nI i)), (1, .int (nI (mrm_ M))), (0, .ref (r 0))]) hx hb dX5_judge_65 rfl hl (by decide) rfl (fun ls hl => ?_)
              refine lv_aload_n hx hb dX5_judge_66 rfl (lv_at hl 4 rfl) ?_
              refine lv_iconst (v := 0) hx hb dX5_judge_67 (by decide) ?_
              refine kMvV hx hb hml hown hts hK hP (va_D.adr hD0 (mW_adE rfl)) hA hS gX5_judge_X5_goesHour okX5_goesHour (qX5_goesHour l D cI cB r (hs_ i B) (mkM (mrf_ M) (mtp_ M) (mlt_ M) (mla_ M) (mtd_ M) (va_up (mkp_ M) 2 B) (mof_ M) (mfa_ M) (mrw_ M) (mhb_ M) (mtn_ M) (mrd_ M) (msm_ M) (41 * 2 + 41) (mbk_ M) 0 (mhi_ M) 1 (mlw_ M) (mhg_ M) (msl_ M) (mlo_ M)) False inferInstance (bI_hs hI _)) [0, 1, 2, 3, 4, 5, 6, 7, 8, 9, 10, 11, 12, 13, 14, 15] rfl (by decide) (fun _ => mW_adr _ _ _ _ _ _) rfl rfl rfl (by decide) hl.1 rfl rfl (Nat.le_of_ble_eq_true rfl) dX5_judge_68 (by decide) (fun u_16 H locs hw_17 hP hD hS => ?_)
              replace hw_17 : u_16 = hb_ False (hs_ i B) := hw_17
              subst u_16
              replace hP : va_P D vwCl ([(r 0, .inr (5, [.ref (r 1), .ref (r 2), .ref (r 3), .ref (r 4), .ref (r 5), .ref (r 6), .int (nI (sn_ (hb_ False (hs_ i B)))), .int (qt_ (hb_ False (hs_ i B))), .int (il_ (hb_ False (hs_ i B))), .int (pa_ (hb_ False (hs_ i B))), .int (ho_ (hb_ False (hs_ i B))), .int (dy_ (hb_ False (hs_ i B))), .ref (r 13), .ref (r 14), .ref (r 15), .ref (r 16), .int (nI (mtn_ M)), .int (nI (mrd_ M)), .int (nI (msm_ M)), .ref (r 20), .int (mhi_ M), .int (1), .int (nI (41 * 2 + 41)), .int (nI (mbk_ M)), .ref (r 25), .ref (r 26), .int (mlw_ M), .int (mhg_ M), .int (msl_ M), .ref (r 30), .int (nI 0), .ref (r 32), .int (mlo_ M)])), (r 1, .inl (cI, 7, .inl (mrf_ M))), (r 2, .inl (cI, 7, .inl (kd_ (hb_ False (hs_ i B))))), (r 3, .inl (cI, 7, .inl (fg_ (hb_ False (hs_ i B))))), (r 4, .inl (cI, 7, .inl (pl_ (hb_ False (hs_ i B))))), (r 5, .inl (cI, 7, .inl (pw_ (hb_ False (hs_ i B))))), (r 6, .inl (cI, 7, .inl (jy_ (hb_ False (hs_ i B))))), (r 13, .inl (cI, 96, .inl (mtp_ M))), (r 14, .inl (cI, 48, .inl (mlt_ M))), (r 15, .inl (cI, 48, .inl (mla_ M))), (r 16, .inl (cI, 144, .inl (mtd_ M))), (r 20, .inl (cI, 451, .inl (flatK (va_up (mkp_ M) 2 B)))), (r 25, .inl (cI, 7, .inl (mof_ M))), (r 26, .inl (cI, 7, .inl (mfa_ M))), (r 30, .inl (cI, 12, .inl (mrw_ M))), (r 32, .inl (cI, 8, .inl (mhb_ M)))]) H := (va_P.m [true, true, true, true, true, true, true, true, true, true, true, true, true, true, true, true] [] hP)
              refine lv_iinc (v := (nI i) + 1) (lv' := [(3, .int ((nI i) + 1)), (2, .int (nI i)), (4, .int (nI t)), (1, .int (nI (mrm_ M))), (0, .ref (r 0))]) hx hb dX5_judge_71 hl (k := 2) rfl (by first | rfl | decide) (by decide) rfl (fun ls hl => ?_)
              refine lv_goto (tgt := 19) hx hb dX5_judge_74 (by decide) ?_
              exact ih_19 (i + 1) (some i) (nI i) ((nI i) + 1) (hb_ False (hs_ i B)) (rfl) (by first | rfl | exact nI_1 _) (rfl) (by omega) (fun t z => by first | (cases z; omega) | cases z) (by rw [hL] at hre; simp only at hre; first | (rw [fx_s (by omega), if_pos (by rw [hT9]; exact c_56.symm)] at hre; exact hre) | (rw [fx_s (by omega), if_neg (by rw [hT9]; exact fun z => c_56 z.symm)] at hre; exact hre)) (by omega) _ _ hP (va_D.adr hD0 (mW_adE rfl)) hS ls (lv_sub hl [0, 1, 3, 4] rfl)
            · skip
              refine lv_bipush (v := (-9)) hx hb dX5_judge_59 (by decide) ?_
              refine lv_goto (tgt := 65) hx hb dX5_judge_61 (by decide) ?_
              refine lv_istore_n (lv' := [(2, .int (-9)), (4, .int (nI t)), (3, .int (nI i)), (1, .int (nI (mrm_ M))), (0, .ref (r 0))]) hx hb dX5_judge_65 rfl hl (by decide) rfl (fun ls hl => ?_)
              refine lv_aload_n hx hb dX5_judge_66 rfl (lv_at hl 4 rfl) ?_
              refine lv_iconst (v := 0) hx hb dX5_judge_67 (by decide) ?_
              refine kMvV hx hb hml hown hts hK hP (va_D.adr hD0 (mW_adE rfl)) hA hS gX5_judge_X5_goesHour okX5_goesHour (qX5_goesHour l D cI cB r (hs_ i B) (mkM (mrf_ M) (mtp_ M) (mlt_ M) (mla_ M) (mtd_ M) (va_up (mkp_ M) 2 B) (mof_ M) (mfa_ M) (mrw_ M) (mhb_ M) (mtn_ M) (mrd_ M) (msm_ M) (41 * 2 + 41) (mbk_ M) 0 (mhi_ M) 1 (mlw_ M) (mhg_ M) (msl_ M) (mlo_ M)) False inferInstance (bI_hs hI _)) [0, 1, 2, 3, 4, 5, 6, 7, 8, 9, 10, 11, 12, 13, 14, 15] rfl (by decide) (fun _ => mW_adr _ _ _ _ _ _) rfl rfl rfl (by decide) hl.1 rfl rfl (Nat.le_of_ble_eq_true rfl) dX5_judge_68 (by decide) (fun u_19 H locs hw_20 hP hD hS => ?_)
              replace hw_20 : u_19 = hb_ False (hs_ i B) := hw_20
              subst u_19
              replace hP : va_P D vwCl ([(r 0, .inr (5, [.ref (r 1), .ref (r 2), .ref (r 3), .ref (r 4), .ref (r 5), .ref (r 6), .int (nI (sn_ (hb_ False (hs_ i B)))), .int (qt_ (hb_ False (hs_ i B))), .int (il_ (hb_ False (hs_ i B))), .int (pa_ (hb_ False (hs_ i B))), .int (ho_ (hb_ False (hs_ i B))), .int (dy_ (hb_ False (hs_ i B))), .ref (r 13), .ref (r 14), .ref (r 15), .ref (r 16), .int (nI (mtn_ M)), .int (nI (mrd_ M)), .int (nI (msm_ M)), .ref (r 20), .int (mhi_ M), .int (1), .int (nI (41 * 2 + 41)), .int (nI (mbk_ M)), .ref (r 25), .ref (r 26), .int (mlw_ M), .int (mhg_ M), .int (msl_ M), .ref (r 30), .int (nI 0), .ref (r 32), .int (mlo_ M)])), (r 1, .inl (cI, 7, .inl (mrf_ M))), (r 2, .inl (cI, 7, .inl (kd_ (hb_ False (hs_ i B))))), (r 3, .inl (cI, 7, .inl (fg_ (hb_ False (hs_ i B))))), (r 4, .inl (cI, 7, .inl (pl_ (hb_ False (hs_ i B))))), (r 5, .inl (cI, 7, .inl (pw_ (hb_ False (hs_ i B))))), (r 6, .inl (cI, 7, .inl (jy_ (hb_ False (hs_ i B))))), (r 13, .inl (cI, 96, .inl (mtp_ M))), (r 14, .inl (cI, 48, .inl (mlt_ M))), (r 15, .inl (cI, 48, .inl (mla_ M))), (r 16, .inl (cI, 144, .inl (mtd_ M))), (r 20, .inl (cI, 451, .inl (flatK (va_up (mkp_ M) 2 B)))), (r 25, .inl (cI, 7, .inl (mof_ M))), (r 26, .inl (cI, 7, .inl (mfa_ M))), (r 30, .inl (cI, 12, .inl (mrw_ M))), (r 32, .inl (cI, 8, .inl (mhb_ M)))]) H := (va_P.m [true, true, true, true, true, true, true, true, true, true, true, true, true, true, true, true] [] hP)
              refine lv_iinc (v := (nI i) + 1) (lv' := [(3, .int ((nI i) + 1)), (2, .int (-9)), (4, .int (nI t)), (1, .int (nI (mrm_ M))), (0, .ref (r 0))]) hx hb dX5_judge_71 hl (k := 2) rfl (by first | rfl | decide) (by decide) rfl (fun ls hl => ?_)
              refine lv_goto (tgt := 19) hx hb dX5_judge_74 (by decide) ?_
              exact ih_19 (i + 1) none (-9) ((nI i) + 1) (hb_ False (hs_ i B)) (rfl) (by first | rfl | exact nI_1 _) (rfl) (by omega) (fun t z => by first | (cases z; omega) | cases z) (by rw [hL] at hre; simp only at hre; first | (rw [fx_s (by omega), if_pos (by rw [hT9]; exact c_56.symm)] at hre; exact hre) | (rw [fx_s (by omega), if_neg (by rw [hT9]; exact fun z => c_56 z.symm)] at hre; exact hre)) (by omega) _ _ hP (va_D.adr hD0 (mW_adE rfl)) hS ls (lv_sub hl [0, 1, 3, 4] rfl)
      · rw [hL] at hl
        replace hl : lv_has ls 5 [(3, .int (nI i)), (2, .int (nI t9)), (1, .int (nI (mrm_ M))), (0, .ref (r 0))] := hl
        have ht9 := ho9 t9 hL
        refine lv_iload_n hx hb dX5_judge_19 rfl (lv_at hl 0 rfl) ?_
        refine lv_iload_n hx hb dX5_judge_20 rfl (lv_at hl 2 rfl) ?_
        refine lv_icmp_ge (tgt := 77) hx hb dX5_judge_21 (by decide) (fun c_21 => ?_) (fun c_21 => ?_)
        · replace c_21 : nI (mrm_ M) ≤ nI i := c_21
          rw [jle (by omega) (by omega)] at c_21
          refine lv_aload_n hx hb dX5_judge_77 rfl (lv_at hl 3 rfl) ?_
          refine kMvV hx hb hml hown hts hK hP (va_D.adr hD0 (mW_adE rfl)) hA hS gX5_judge_X5_forgets okX5_forgets (qX5_forgetsE l D cI cB r (hs_ i B) (mkM (mrf_ M) (mtp_ M) (mlt_ M) (mla_ M) (mtd_ M) (va_up (mkp_ M) 2 B) (mof_ M) (mfa_ M) (mrw_ M) (mhb_ M) (mtn_ M) (mrd_ M) (msm_ M) (41 * 2 + 41) (mbk_ M) 0 (mhi_ M) 1 (mlw_ M) (mhg_ M) (msl_ M) (mlo_ M)) ) [0, 1, 2, 3, 4, 5, 6, 7, 8, 9, 10, 11, 12, 13, 14, 15] rfl (by decide) (fun _ => mW_adE rfl) rfl rfl rfl (by decide) hl.1 rfl rfl (Nat.le_of_ble_eq_true rfl) dX5_judge_78 (by decide) (fun u_22 H locs hw_23 hP hD hS => ?_)
          replace hP : va_P D vwCl ([(r 0, .inr (5, [.ref (r 1), .ref (r 2), .ref (r 3), .ref (r 4), .ref (r 5), .ref (r 6), .int (nI (sn_ B)), .int (qt_ B), .int (il_ B), .int (pa_ B), .int (ho_ B), .int (dy_ B), .ref (r 13), .ref (r 14), .ref (r 15), .ref (r 16), .int (nI (mtn_ M)), .int (nI (mrd_ M)), .int (nI (msm_ M)), .ref (r 20), .int (mhi_ M), .int (0), .int (nI (41 * 2 + 41)), .int (nI (mbk_ M)), .ref (r 25), .ref (r 26), .int (mlw_ M), .int (mhg_ M), .int (msl_ M), .ref (r 30), .int (nI 0), .ref (r 32), .int (mlo_ M)])), (r 1, .inl (cI, 7, .inl (mrf_ M))), (r 2, .inl (cI, 7, .inl (kd_ B))), (r 3, .inl (cI, 7, .inl (fg_ B))), (r 4, .inl (cI, 7, .inl (pl_ B))), (r 5, .inl (cI, 7, .inl (pw_ B))), (r 6, .inl (cI, 7, .inl (jy_ B))), (r 13, .inl (cI, 96, .inl (mtp_ M))), (r 14, .inl (cI, 48, .inl (mlt_ M))), (r 15, .inl (cI, 48, .inl (mla_ M))), (r 16, .inl (cI, 144, .inl (mtd_ M))), (r 20, .inl (cI, 451, .inl (flatK (va_up (mkp_ M) 2 B)))), (r 25, .inl (cI, 7, .inl (mof_ M))), (r 26, .inl (cI, 7, .inl (mfa_ M))), (r 30, .inl (cI, 12, .inl (mrw_ M))), (r 32, .inl (cI, 8, .inl (mhb_ M)))]) H := (va_P.m [true, true, true, true, true, true, true, true, true, true, true, true, true, true, true, true] [] hP)
          refine lv_iload_n hx hb dX5_judge_81 rfl (lv_at hl 1 rfl) ?_
          refine rMi hx hb hr hlk hS (mkM (mrf_ M) (mtp_ M) (mlt_ M) (mla_ M) (mtd_ M) (va_up (mkp_ M) 2 B) (mof_ M) (mfa_ M) (mrw_ M) (mhb_ M) (mtn_ M) (mrd_ M) (msm_ M) (41 * 2 + 41) (mbk_ M) 0 (mhi_ M) 0 (mlw_ M) (mhg_ M) (msl_ M) (mlo_ M)) hP ?_ dX5_judge_82
          first | (rw [hL] at hre; simp only at hre; rw [fx_0 (by omega)] at hre; rw [← hre]; exact ⟨rfl, (oN_pp _ _).m⟩) | (rw [hL] at hre; simp only at hre; rw [← hre]; exact ⟨rfl, (oN_pp _ _).m⟩)
        · replace c_21 : ¬ nI (mrm_ M) ≤ nI i := c_21
          rw [jle (by omega) (by omega)] at c_21
          refine lv_iload_n hx hb dX5_judge_24 rfl (lv_at hl 1 rfl) ?_
          refine lv_if_ge (tgt := 77) hx hb dX5_judge_25 (by decide) (fun _ => ?_) (fun q => absurd (nI_pos' (by omega)) q)
          refine lv_aload_n hx hb dX5_judge_77 rfl (lv_at hl 3 rfl) ?_
          refine kMvV hx hb hml hown hts hK hP (va_D.adr hD0 (mW_adE rfl)) hA hS gX5_judge_X5_forgets okX5_forgets (qX5_forgetsE l D cI cB r (hs_ i B) (mkM (mrf_ M) (mtp_ M) (mlt_ M) (mla_ M) (mtd_ M) (va_up (mkp_ M) 2 B) (mof_ M) (mfa_ M) (mrw_ M) (mhb_ M) (mtn_ M) (mrd_ M) (msm_ M) (41 * 2 + 41) (mbk_ M) 0 (mhi_ M) 1 (mlw_ M) (mhg_ M) (msl_ M) (mlo_ M)) ) [0, 1, 2, 3, 4, 5, 6, 7, 8, 9, 10, 11, 12, 13, 14, 15] rfl (by decide) (fun _ => mW_adE rfl) rfl rfl rfl (by decide) hl.1 rfl rfl (Nat.le_of_ble_eq_true rfl) dX5_judge_78 (by decide) (fun u_25 H locs hw_26 hP hD hS => ?_)
          replace hP : va_P D vwCl ([(r 0, .inr (5, [.ref (r 1), .ref (r 2), .ref (r 3), .ref (r 4), .ref (r 5), .ref (r 6), .int (nI (sn_ B)), .int (qt_ B), .int (il_ B), .int (pa_ B), .int (ho_ B), .int (dy_ B), .ref (r 13), .ref (r 14), .ref (r 15), .ref (r 16), .int (nI (mtn_ M)), .int (nI (mrd_ M)), .int (nI (msm_ M)), .ref (r 20), .int (mhi_ M), .int (0), .int (nI (41 * 2 + 41)), .int (nI (mbk_ M)), .ref (r 25), .ref (r 26), .int (mlw_ M), .int (mhg_ M), .int (msl_ M), .ref (r 30), .int (nI 0), .ref (r 32), .int (mlo_ M)])), (r 1, .inl (cI, 7, .inl (mrf_ M))), (r 2, .inl (cI, 7, .inl (kd_ B))), (r 3, .inl (cI, 7, .inl (fg_ B))), (r 4, .inl (cI, 7, .inl (pl_ B))), (r 5, .inl (cI, 7, .inl (pw_ B))), (r 6, .inl (cI, 7, .inl (jy_ B))), (r 13, .inl (cI, 96, .inl (mtp_ M))), (r 14, .inl (cI, 48, .inl (mlt_ M))), (r 15, .inl (cI, 48, .inl (mla_ M))), (r 16, .inl (cI, 144, .inl (mtd_ M))), (r 20, .inl (cI, 451, .inl (flatK (va_up (mkp_ M) 2 B)))), (r 25, .inl (cI, 7, .inl (mof_ M))), (r 26, .inl (cI, 7, .inl (mfa_ M))), (r 30, .inl (cI, 12, .inl (mrw_ M))), (r 32, .inl (cI, 8, .inl (mhb_ M)))]) H := (va_P.m [true, true, true, true, true, true, true, true, true, true, true, true, true, true, true, true] [] hP)
          refine lv_iload_n hx hb dX5_judge_81 rfl (lv_at hl 1 rfl) ?_
          refine rMi hx hb hr hlk hS (mkM (mrf_ M) (mtp_ M) (mlt_ M) (mla_ M) (mtd_ M) (va_up (mkp_ M) 2 B) (mof_ M) (mfa_ M) (mrw_ M) (mhb_ M) (mtn_ M) (mrd_ M) (msm_ M) (41 * 2 + 41) (mbk_ M) 0 (mhi_ M) 0 (mlw_ M) (mhg_ M) (msl_ M) (mlo_ M)) hP ?_ dX5_judge_82
          first | (rw [hL] at hre; simp only at hre; rw [fx_0 (by omega)] at hre; rw [← hre]; exact ⟨rfl, (oN_pp _ _).m⟩) | (rw [hL] at hre; simp only at hre; rw [← hre]; exact ⟨rfl, (oN_pp _ _).m⟩)
  exact lp_19 ((mrm_ M) + 1) 0 none (-9) 0 B (rfl) (by first | rfl | exact nI_0.symm) (rfl) (by omega) (fun t z => by cases z) (rfl) (by omega) _ _ hP (va_D.adr hD0 (mW_adE rfl)) hS ls (lv_sub hl [0, 1, 2, 3] rfl)

theorem okX5_count : jok yX5_count wsX5_count cX5_count 2 (some .int) 1 := ⟨⟨_, rfl⟩, by decide +kernel, by decide +kernel⟩
set_option maxHeartbeats 2000000 in
set_option maxRecDepth 100000 in
theorem qX5_count (l : Launch) (D : va_G) (cI cB : ClassId) (r : Nat → Nat) (B : BayT) (M : MT) (q : Int32) (hn7 : sn_ B ≤ 7) : jSi D cI cB l yX5_count wsX5_count 1 [.ref (r 0), .int q] (mW cI r B M) (fun r => r = cnX_ B (mtn_ M) (mrm_ M) (mbk_ M) (mrf_ M) q) := by
  refine jSi.of (cc := cX5_count) (maxL := 2) (ret := (some .int)) okX5_count (Nat.le_of_ble_eq_true rfl) ?_
  intro p e s m below meth c ls hx hb hr hts hown hlk hml hP hK hl
  replace hown : s.vm.findClass RX5 = some m.cls := hown
  replace hl : lv_has ls 2 [(0, .ref (r 0)), (1, .int q)] := hl
  have hinX5 : ∀ w ∈ wsX50, w ∈ wsX5_count := by decide +kernel
  refine lv_iload_n hx hb dX5_count_0 rfl (lv_at hl 1 rfl) ?_
  refine lv_bipush (v := 11) hx hb dX5_count_1 (by decide) ?_
  refine lv_bipush (v := 16) hx hb dX5_count_3 (by decide) ?_
  refine kSiS hx hb hml hown hts hK hP gX5_count_X5_isIn okX5_isIn (qX5_isIn l D cI cB q 11 16 ) [] rfl (by decide) hl.1 rfl rfl (Nat.le_of_ble_eq_true rfl) dX5_count_5 (by decide) (fun r_1 hr_2 => ?_)
  replace hr_2 : r_1 = b1 (11 ≤ q ∧ q ≤ 16) := hr_2
  subst r_1
  refine lv_if_eq (tgt := 21) hx hb dX5_count_8 (by decide) (fun c_8 => ?_) (fun c_8 => ?_)
  · replace c_8 := b1_z c_8
    refine lv_iload_n hx hb dX5_count_21 rfl (lv_at hl 1 rfl) ?_
    by_cases c_22_0 : q = 0
    · refine lv_tableIn (off := 50) (tgt := 72) hx hb dX5_count_22 (by rw [c_22_0]; decide) (by rw [c_22_0]; decide) (by rw [c_22_0]; rfl) (by decide) ?_
      refine lv_aload_n hx hb dX5_count_72 rfl (lv_at hl 0 rfl) ?_
      refine va_get (ci := 5) (C := RX5) (T := TX5) (N := 33) hx hb hts hinX5 hown hK.1 hP 0 rfl rfl 6 (by decide) (hts _ (List.mem_of_getElem? (i := 2) rfl)) (fun _ h9 => h9) rfl dX5_count_73 ?_
      refine rSi hx hb hr hlk ?_ dX5_count_76
      show (nI (sn_ B)) = _
      first | (rw [c_22_0]; rfl) | (rw [c_22_1]; rfl) | (rw [c_22_2]; rfl) | (rw [c_22_3]; rfl) | (rw [c_22_4]; rfl) | (rw [c_22_5]; rfl) | (rw [c_22_6]; rfl) | (rw [c_22_7]; rfl) | (rw [c_22_8]; rfl) | (unfold cnX_; rw [if_neg c_22_0, if_neg c_22_1, if_neg c_22_2, if_neg c_22_3, if_neg c_22_4, if_neg c_22_5, if_neg c_22_6, if_neg c_22_7, if_neg c_22_8, if_neg c_8]) | exact (cn_in c_8).symm
    by_cases c_22_1 : q = 1
    · refine lv_tableIn (off := 55) (tgt := 77) hx hb dX5_count_22 (by rw [c_22_1]; decide) (by rw [c_22_1]; decide) (by rw [c_22_1]; rfl) (by decide) ?_
      refine lv_aload_n hx hb dX5_count_77 rfl (lv_at hl 0 rfl) ?_
      refine va_get (ci := 5) (C := RX5) (T := TX5) (N := 33) hx hb hts hinX5 hown hK.1 hP 0 rfl rfl 10 (by decide) (hts _ (List.mem_of_getElem? (i := 3) rfl)) (fun _ h9 => h9) rfl dX5_count_78 ?_
      refine rSi hx hb hr hlk ?_ dX5_count_81
      show (ho_ B) = _
      first | (rw [c_22_0]; rfl) | (rw [c_22_1]; rfl) | (rw [c_22_2]; rfl) | (rw [c_22_3]; rfl) | (rw [c_22_4]; rfl) | (rw [c_22_5]; rfl) | (rw [c_22_6]; rfl) | (rw [c_22_7]; rfl) | (rw [c_22_8]; rfl) | (unfold cnX_; rw [if_neg c_22_0, if_neg c_22_1, if_neg c_22_2, if_neg c_22_3, if_neg c_22_4, if_neg c_22_5, if_neg c_22_6, if_neg c_22_7, if_neg c_22_8, if_neg c_8]) | exact (cn_in c_8).symm
    by_cases c_22_2 : q = 2
    · refine lv_tableIn (off := 60) (tgt := 82) hx hb dX5_count_22 (by rw [c_22_2]; decide) (by rw [c_22_2]; decide) (by rw [c_22_2]; rfl) (by decide) ?_
      refine lv_aload_n hx hb dX5_count_82 rfl (lv_at hl 0 rfl) ?_
      refine va_get (ci := 5) (C := RX5) (T := TX5) (N := 33) hx hb hts hinX5 hown hK.1 hP 0 rfl rfl 11 (by decide) (hts _ (List.mem_of_getElem? (i := 4) rfl)) (fun _ h9 => h9) rfl dX5_count_83 ?_
      refine rSi hx hb hr hlk ?_ dX5_count_86
      show (dy_ B) = _
      first | (rw [c_22_0]; rfl) | (rw [c_22_1]; rfl) | (rw [c_22_2]; rfl) | (rw [c_22_3]; rfl) | (rw [c_22_4]; rfl) | (rw [c_22_5]; rfl) | (rw [c_22_6]; rfl) | (rw [c_22_7]; rfl) | (rw [c_22_8]; rfl) | (unfold cnX_; rw [if_neg c_22_0, if_neg c_22_1, if_neg c_22_2, if_neg c_22_3, if_neg c_22_4, if_neg c_22_5, if_neg c_22_6, if_neg c_22_7, if_neg c_22_8, if_neg c_8]) | exact (cn_in c_8).symm
    by_cases c_22_3 : q = 3
    · refine lv_tableIn (off := 65) (tgt := 87) hx hb dX5_count_22 (by rw [c_22_3]; decide) (by rw [c_22_3]; decide) (by rw [c_22_3]; rfl) (by decide) ?_
      refine lv_aload_n hx hb dX5_count_87 rfl (lv_at hl 0 rfl) ?_
      refine va_get (ci := 5) (C := RX5) (T := TX5) (N := 33) hx hb hts hinX5 hown hK.1 hP 0 rfl rfl 7 (by decide) (hts _ (List.mem_of_getElem? (i := 5) rfl)) (fun _ h9 => h9) rfl dX5_count_88 ?_
      refine rSi hx hb hr hlk ?_ dX5_count_91
      show (qt_ B) = _
      first | (rw [c_22_0]; rfl) | (rw [c_22_1]; rfl) | (rw [c_22_2]; rfl) | (rw [c_22_3]; rfl) | (rw [c_22_4]; rfl) | (rw [c_22_5]; rfl) | (rw [c_22_6]; rfl) | (rw [c_22_7]; rfl) | (rw [c_22_8]; rfl) | (unfold cnX_; rw [if_neg c_22_0, if_neg c_22_1, if_neg c_22_2, if_neg c_22_3, if_neg c_22_4, if_neg c_22_5, if_neg c_22_6, if_neg c_22_7, if_neg c_22_8, if_neg c_8]) | exact (cn_in c_8).symm
    by_cases c_22_4 : q = 4
    · refine lv_tableIn (off := 70) (tgt := 92) hx hb dX5_count_22 (by rw [c_22_4]; decide) (by rw [c_22_4]; decide) (by rw [c_22_4]; rfl) (by decide) ?_
      refine lv_aload_n hx hb dX5_count_92 rfl (lv_at hl 0 rfl) ?_
      refine kSiV hx hb hml hown hts hK hP gX5_count_X5_allJoy okX5_allJoy (qX5_allJoy l D cI cB r B M (by show sn_ B ≤ 7; omega)) [0, 1, 2, 3, 4, 5, 6, 7, 8, 9, 10, 11, 12, 13, 14, 15] rfl rfl rfl rfl (by decide) hl.1 rfl rfl (Nat.le_of_ble_eq_true rfl) dX5_count_93 (by decide) (fun r_3 hr_4 => ?_)
      replace hr_4 : r_3 = su_ (jy_ B) (sn_ B) := hr_4
      subst r_3
      refine rSi hx hb hr hlk ?_ dX5_count_96
      show (su_ (jy_ B) (sn_ B)) = _
      first | (rw [c_22_0]; rfl) | (rw [c_22_1]; rfl) | (rw [c_22_2]; rfl) | (rw [c_22_3]; rfl) | (rw [c_22_4]; rfl) | (rw [c_22_5]; rfl) | (rw [c_22_6]; rfl) | (rw [c_22_7]; rfl) | (rw [c_22_8]; rfl) | (unfold cnX_; rw [if_neg c_22_0, if_neg c_22_1, if_neg c_22_2, if_neg c_22_3, if_neg c_22_4, if_neg c_22_5, if_neg c_22_6, if_neg c_22_7, if_neg c_22_8, if_neg c_8]) | exact (cn_in c_8).symm
    by_cases c_22_5 : q = 5
    · refine lv_tableIn (off := 75) (tgt := 97) hx hb dX5_count_22 (by rw [c_22_5]; decide) (by rw [c_22_5]; decide) (by rw [c_22_5]; rfl) (by decide) ?_
      refine lv_aload_n hx hb dX5_count_97 rfl (lv_at hl 0 rfl) ?_
      refine kSiV hx hb hml hown hts hK hP gX5_count_X5_allPowder okX5_allPowder (qX5_allPowder l D cI cB r B M (by show sn_ B ≤ 7; omega)) [0, 1, 2, 3, 4, 5, 6, 7, 8, 9, 10, 11, 12, 13, 14, 15] rfl rfl rfl rfl (by decide) hl.1 rfl rfl (Nat.le_of_ble_eq_true rfl) dX5_count_98 (by decide) (fun r_5 hr_6 => ?_)
      replace hr_6 : r_5 = su_ (pw_ B) (sn_ B) := hr_6
      subst r_5
      refine rSi hx hb hr hlk ?_ dX5_count_101
      show (su_ (pw_ B) (sn_ B)) = _
      first | (rw [c_22_0]; rfl) | (rw [c_22_1]; rfl) | (rw [c_22_2]; rfl) | (rw [c_22_3]; rfl) | (rw [c_22_4]; rfl) | (rw [c_22_5]; rfl) | (rw [c_22_6]; rfl) | (rw [c_22_7]; rfl) | (rw [c_22_8]; rfl) | (unfold cnX_; rw [if_neg c_22_0, if_neg c_22_1, if_neg c_22_2, if_neg c_22_3, if_neg c_22_4, if_neg c_22_5, if_neg c_22_6, if_neg c_22_7, if_neg c_22_8, if_neg c_8]) | exact (cn_in c_8).symm
    by_cases c_22_6 : q = 6
    · refine lv_tableIn (off := 80) (tgt := 102) hx hb dX5_count_22 (by rw [c_22_6]; decide) (by rw [c_22_6]; decide) (by rw [c_22_6]; rfl) (by decide) ?_
      refine lv_aload_n hx hb dX5_count_102 rfl (lv_at hl 0 rfl) ?_
      refine va_get (ci := 5) (C := RX5) (T := TX5) (N := 33) hx hb hts hinX5 hown hK.1 hP 0 rfl rfl 16 (by decide) (hts _ (List.mem_of_getElem? (i := 6) rfl)) (fun _ h9 => h9) rfl dX5_count_103 ?_
      refine rSi hx hb hr hlk ?_ dX5_count_106
      show (nI (mtn_ M)) = _
      first | (rw [c_22_0]; rfl) | (rw [c_22_1]; rfl) | (rw [c_22_2]; rfl) | (rw [c_22_3]; rfl) | (rw [c_22_4]; rfl) | (rw [c_22_5]; rfl) | (rw [c_22_6]; rfl) | (rw [c_22_7]; rfl) | (rw [c_22_8]; rfl) | (unfold cnX_; rw [if_neg c_22_0, if_neg c_22_1, if_neg c_22_2, if_neg c_22_3, if_neg c_22_4, if_neg c_22_5, if_neg c_22_6, if_neg c_22_7, if_neg c_22_8, if_neg c_8]) | exact (cn_in c_8).symm
    by_cases c_22_7 : q = 7
    · refine lv_tableIn (off := 85) (tgt := 107) hx hb dX5_count_22 (by rw [c_22_7]; decide) (by rw [c_22_7]; decide) (by rw [c_22_7]; rfl) (by decide) ?_
      refine lv_aload_n hx hb dX5_count_107 rfl (lv_at hl 0 rfl) ?_
      refine va_get (ci := 5) (C := RX5) (T := TX5) (N := 33) hx hb hts hinX5 hown hK.1 hP 0 rfl rfl 30 (by decide) (hts _ (List.mem_of_getElem? (i := 7) rfl)) (fun _ h9 => h9) rfl dX5_count_108 ?_
      refine rSi hx hb hr hlk ?_ dX5_count_111
      show (nI (mrm_ M)) = _
      first | (rw [c_22_0]; rfl) | (rw [c_22_1]; rfl) | (rw [c_22_2]; rfl) | (rw [c_22_3]; rfl) | (rw [c_22_4]; rfl) | (rw [c_22_5]; rfl) | (rw [c_22_6]; rfl) | (rw [c_22_7]; rfl) | (rw [c_22_8]; rfl) | (unfold cnX_; rw [if_neg c_22_0, if_neg c_22_1, if_neg c_22_2, if_neg c_22_3, if_neg c_22_4, if_neg c_22_5, if_neg c_22_6, if_neg c_22_7, if_neg c_22_8, if_neg c_8]) | exact (cn_in c_8).symm
    by_cases c_22_8 : q = 8
    · refine lv_tableIn (off := 90) (tgt := 112) hx hb dX5_count_22 (by rw [c_22_8]; decide) (by rw [c_22_8]; decide) (by rw [c_22_8]; rfl) (by decide) ?_
      refine lv_aload_n hx hb dX5_count_112 rfl (lv_at hl 0 rfl) ?_
      refine va_get (ci := 5) (C := RX5) (T := TX5) (N := 33) hx hb hts hinX5 hown hK.1 hP 0 rfl rfl 23 (by decide) (hts _ (List.mem_of_getElem? (i := 8) rfl)) (fun _ h9 => h9) rfl dX5_count_113 ?_
      refine rSi hx hb hr hlk ?_ dX5_count_116
      show (nI (mbk_ M)) = _
      first | (rw [c_22_0]; rfl) | (rw [c_22_1]; rfl) | (rw [c_22_2]; rfl) | (rw [c_22_3]; rfl) | (rw [c_22_4]; rfl) | (rw [c_22_5]; rfl) | (rw [c_22_6]; rfl) | (rw [c_22_7]; rfl) | (rw [c_22_8]; rfl) | (unfold cnX_; rw [if_neg c_22_0, if_neg c_22_1, if_neg c_22_2, if_neg c_22_3, if_neg c_22_4, if_neg c_22_5, if_neg c_22_6, if_neg c_22_7, if_neg c_22_8, if_neg c_8]) | exact (cn_in c_8).symm
    refine lv_tableOut (tgt := 117) hx hb dX5_count_22 (by have t0 := lv_neT c_22_0 (a := 0) (by decide); have t1 := lv_neT c_22_1 (a := 1) (by decide); have t2 := lv_neT c_22_2 (a := 2) (by decide); have t3 := lv_neT c_22_3 (a := 3) (by decide); have t4 := lv_neT c_22_4 (a := 4) (by decide); have t5 := lv_neT c_22_5 (a := 5) (by decide); have t6 := lv_neT c_22_6 (a := 6) (by decide); have t7 := lv_neT c_22_7 (a := 7) (by decide); have t8 := lv_neT c_22_8 (a := 8) (by decide); omega) (by decide) ?_
    refine lv_bipush (v := (-9)) hx hb dX5_count_117 (by decide) ?_
    refine rSi hx hb hr hlk ?_ dX5_count_119
    show (-9) = _
    first | (rw [c_22_0]; rfl) | (rw [c_22_1]; rfl) | (rw [c_22_2]; rfl) | (rw [c_22_3]; rfl) | (rw [c_22_4]; rfl) | (rw [c_22_5]; rfl) | (rw [c_22_6]; rfl) | (rw [c_22_7]; rfl) | (rw [c_22_8]; rfl) | (unfold cnX_; rw [if_neg c_22_0, if_neg c_22_1, if_neg c_22_2, if_neg c_22_3, if_neg c_22_4, if_neg c_22_5, if_neg c_22_6, if_neg c_22_7, if_neg c_22_8, if_neg c_8]) | exact (cn_in c_8).symm
  · replace c_8 := b1_n c_8
    refine lv_aload_n hx hb dX5_count_11 rfl (lv_at hl 0 rfl) ?_
    refine va_get (ci := 5) (C := RX5) (T := TX5) (N := 33) hx hb hts hinX5 hown hK.1 hP 0 rfl rfl 0 (by decide) (hts _ (List.mem_of_getElem? (i := 1) rfl)) (fun _ h9 => h9) rfl dX5_count_12 ?_
    refine lv_iload_n hx hb dX5_count_15 rfl (lv_at hl 1 rfl) ?_
    refine lv_bipush (v := 10) hx hb dX5_count_16 (by decide) ?_
    refine lv_isub hx hb dX5_count_18 ?_
    refine jald hx hb hK.1 hP 1 0 (tn_ q - 10) rfl rfl ((cn_i c_8.1 c_8.2).1) ((cn_i c_8.1 c_8.2).2) (Nat.le_of_ble_eq_true rfl) dX5_count_19 ?_
    refine rSi hx hb hr hlk ?_ dX5_count_20
    show ((mrf_ M) (tn_ q - 10)) = _
    first | (rw [c_22_0]; rfl) | (rw [c_22_1]; rfl) | (rw [c_22_2]; rfl) | (rw [c_22_3]; rfl) | (rw [c_22_4]; rfl) | (rw [c_22_5]; rfl) | (rw [c_22_6]; rfl) | (rw [c_22_7]; rfl) | (rw [c_22_8]; rfl) | (unfold cnX_; rw [if_neg c_22_0, if_neg c_22_1, if_neg c_22_2, if_neg c_22_3, if_neg c_22_4, if_neg c_22_5, if_neg c_22_6, if_neg c_22_7, if_neg c_22_8, if_neg c_8]) | exact (cn_in c_8).symm
