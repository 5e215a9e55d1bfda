theorem oN_mk {M u : MT} (h : oN_ M u) {a2 a3 a4 a6 a7 a9 : Nat → Int32} {a11 a12 a13 : Nat} {a17 a18 a19 a20 a21 : Int32} : oN_ M (mkM (mrf_ u) (mtp_ u) a2 a3 a4 (mkp_ u) a6 a7 (mrw_ u) a9 (mtn_ u) a11 a12 a13 (mbk_ u) (mrm_ u) (mhi_ u) a17 a18 a19 a20 a21) := h
theorem ft_TT {F : Nat → Int32} {B : BayT} {a b i n : Nat} (h : ∀ j, j < i → F (2 * j) = tc_ (tt_ B a b j) a n ∧ F (2 * j + 1) = tc_ (tt_ B a b j) b n) : ∀ j, j < i + 1 → upd (upd F (2 * i) (tc_ (tt_ B a b i) a n)) (2 * i + 1) (tc_ (tt_ B a b i) b n) (2 * j) = tc_ (tt_ B a b j) a n ∧ upd (upd F (2 * i) (tc_ (tt_ B a b i) a n)) (2 * i + 1) (tc_ (tt_ B a b i) b n) (2 * j + 1) = tc_ (tt_ B a b j) b n := ft_T (f := fun j => tc_ (tt_ B a b j) a n) (g := fun j => tc_ (tt_ B a b j) b n) h
theorem okX5_findTreaty : jok yX5_findTreaty wsX5_findTreaty cX5_findTreaty 5 none 2 := ⟨⟨_, rfl⟩, by decide +kernel, by decide +kernel⟩
set_option maxHeartbeats 2000000 in
set_option maxRecDepth 100000 in
theorem qX5_findTreaty (l : Launch) (D : va_G) (cI cB : ClassId) (r : Nat → Nat) (B : BayT) (M : MT) (a : Nat) (b : Nat) (hI : bI_ B) (ha : a < sn_ B) (hb_9 : b < sn_ B) : jMv D cI cB l yX5_findTreaty wsX5_findTreaty 7 [.ref (r 0), .int (nI a), .int (nI b)] (mW cI r B M) (S := MT) (fun u => oN_ M u ∧ (∀ j, j < 4 → mhb_ u (2 * j) = tc_ (tt_ B a b j) a 12 ∧ mhb_ u (2 * j + 1) = tc_ (tt_ B a b j) b 12)) (fun u => mW cI r B u) := by
  refine jMv.of (cc := cX5_findTreaty) (maxL := 5) (ret := none) okX5_findTreaty (Nat.le_of_ble_eq_true rfl) ?_
  intro p e s m below meth c ls A hx hb hr hts hown hlk hml hP hK hD hA hS hl
  replace hown : s.vm.findClass RX5 = some m.cls := hown
  replace hl : lv_has ls 5 [(0, .ref (r 0)), (1, .int (nI a)), (2, .int (nI b))] := hl
  have hn7 := hI.1
  have hinX5 : ∀ w ∈ wsX50, w ∈ wsX5_findTreaty := by decide +kernel
  refine lv_aload_n hx hb dX5_findTreaty_0 rfl (lv_at hl 0 rfl) ?_
  refine va_get (ci := 5) (C := RX5) (T := TX5) (N := 33) hx hb hts hinX5 hown hK.1 hP 0 rfl rfl 7 (by decide) (hts _ (List.mem_of_getElem? (i := 1) rfl)) (fun _ h9 => h9) rfl dX5_findTreaty_1 ?_
  refine lv_istore_n (lv' := [(3, .int (qt_ B)), (0, .ref (r 0)), (1, .int (nI a)), (2, .int (nI b))]) hx hb dX5_findTreaty_4 rfl hl (by decide) rfl (fun ls hl => ?_)
  refine lv_iconst (v := 0) hx hb dX5_findTreaty_5 (by decide) ?_
  refine lv_istore (lv' := [(4, .int 0), (3, .int (qt_ B)), (0, .ref (r 0)), (1, .int (nI a)), (2, .int (nI b))]) hx hb dX5_findTreaty_6 hl (by decide) rfl (fun ls hl => ?_)
  have lp_8 : ∀ (fu_8 : Nat) (i : Nat) (x4_8 : Int32) (Q9 : Int32) (M2 : MT), (x4_8 = nI i) → (i ≤ 4) → (oN_ M M2) → (∀ j, j < i → mhb_ M2 (2 * j) = tc_ (tt_ B a b j) a 12 ∧ mhb_ M2 (2 * j + 1) = tc_ (tt_ B a b j) b 12) → 4 - i < fu_8 → ∀ (H : Heap) (locs : List Loc), va_P D vwCl ([(r 0, .inr (5, [.ref (r 1), .ref (r 2), .ref (r 3), .ref (r 4), .ref (r 5), .ref (r 6), .int (nI (sn_ B)), .int (Q9), .int (il_ B), .int (pa_ B), .int (ho_ B), .int (dy_ B), .ref (r 13), .ref (r 14), .ref (r 15), .ref (r 16), .int (nI (mtn_ M2)), .int (nI (mrd_ M2)), .int (nI (msm_ M2)), .ref (r 20), .int (mhi_ M2), .int (mik_ M2), .int (nI (mcu_ M2)), .int (nI (mbk_ M2)), .ref (r 25), .ref (r 26), .int (mlw_ M2), .int (mhg_ M2), .int (msl_ M2), .ref (r 30), .int (nI (mrm_ M2)), .ref (r 32), .int (mlo_ M2)])), (r 1, .inl (cI, 7, .inl (mrf_ M2))), (r 2, .inl (cI, 7, .inl (kd_ B))), (r 3, .inl (cI, 7, .inl (fg_ B))), (r 4, .inl (cI, 7, .inl (pl_ B))), (r 5, .inl (cI, 7, .inl (pw_ B))), (r 6, .inl (cI, 7, .inl (jy_ B))), (r 13, .inl (cI, 96, .inl (mtp_ M2))), (r 14, .inl (cI, 48, .inl (mlt_ M2))), (r 15, .inl (cI, 48, .inl (mla_ M2))), (r 16, .inl (cI, 144, .inl (mtd_ M2))), (r 20, .inl (cI, 451, .inl (flatK (mkp_ M2)))), (r 25, .inl (cI, 7, .inl (mof_ M2))), (r 26, .inl (cI, 7, .inl (mfa_ M2))), (r 30, .inl (cI, 12, .inl (mrw_ M2))), (r 32, .inl (cI, 8, .inl (mhb_ M2)))]) H → va_D A ([(r 0, .inr (5, [.ref (r 1), .ref (r 2), .ref (r 3), .ref (r 4), .ref (r 5), .ref (r 6), .int (nI (sn_ B)), .int (Q9), .int (il_ B), .int (pa_ B), .int (ho_ B), .int (dy_ B), .ref (r 13), .ref (r 14), .ref (r 15), .ref (r 16), .int (nI (mtn_ M2)), .int (nI (mrd_ M2)), .int (nI (msm_ M2)), .ref (r 20), .int (mhi_ M2), .int (mik_ M2), .int (nI (mcu_ M2)), .int (nI (mbk_ M2)), .ref (r 25), .ref (r 26), .int (mlw_ M2), .int (mhg_ M2), .int (msl_ M2), .ref (r 30), .int (nI (mrm_ M2)), .ref (r 32), .int (mlo_ M2)])), (r 1, .inl (cI, 7, .inl (mrf_ M2))), (r 2, .inl (cI, 7, .inl (kd_ B))), (r 3, .inl (cI, 7, .inl (fg_ B))), (r 4, .inl (cI, 7, .inl (pl_ B))), (r 5, .inl (cI, 7, .inl (pw_ B))), (r 6, .inl (cI, 7, .inl (jy_ B))), (r 13, .inl (cI, 96, .inl (mtp_ M2))), (r 14, .inl (cI, 48, .inl (mlt_ M2))), (r 15, .inl (cI, 48, .inl (mla_ M2))), (r 16, .inl (cI, 144, .inl (mtd_ M2))), (r 20, .inl (cI, 451, .inl (flatK (mkp_ M2)))), (r 25, .inl (cI, 7, .inl (mof_ M2))), (r 26, .inl (cI, 7, .inl (mfa_ M2))), (r 30, .inl (cI, 12, .inl (mrw_ M2))), (r 32, .inl (cI, 8, .inl (mhb_ M2)))]) → va_S A s.heap H locs → ∀ ls : Array Slot, lv_has ls 5 [(4, .int x4_8), (3, .int (qt_ B)), (0, .ref (r 0)), (1, .int (nI a)), (2, .int (nI b))] → W p l e (jR 7) s m ([.ref (r 0), .int (nI a), .int (nI b)] : List Value).toArray below meth c H locs 0 0 (MQ below (va_Qv (S := MT) (fun u => oN_ M u ∧ (∀ j, j < 4 → mhb_ u (2 * j) = tc_ (tt_ B a b j) a 12 ∧ mhb_ u (2 * j + 1) = tc_ (tt_ B a b j) b 12)) (fun u t => va_P D vwCl ((fun u => mW cI r B u) u) t.heap) A) ([.ref (r 0), .int (nI a), .int (nI b)] : List Value).toArray s 0 0 A) (F0 m 8 ls []) := by
    intro fu_8
    induction fu_8 with
    | zero => intro i x4_8 Q9 M2 hx4_8 hi hM hT hfu; exact absurd hfu (Nat.not_lt_zero _)
    | succ fu_8 ih_8 =>
      intro i x4_8 Q9 M2 hx4_8 hi hM hT hfu_8 H locs hP hD hS ls hl
      subst x4_8
      replace hl : lv_has ls 5 [(4, .int (nI i)), (3, .int (qt_ B)), (0, .ref (r 0)), (1, .int (nI a)), (2, .int (nI b))] := hl
      replace hP : va_P D vwCl ([(r 0, .inr (5, [.ref (r 1), .ref (r 2), .ref (r 3), .ref (r 4), .ref (r 5), .ref (r 6), .int (nI (sn_ B)), .int (Q9), .int (il_ B), .int (pa_ B), .int (ho_ B), .int (dy_ B), .ref (r 13), .ref (r 14), .ref (r 15), .ref (r 16), .int (nI (mtn_ M2)), .int (nI (mrd_ M2)), .int (nI (msm_ M2)), .ref (r 20), .int (mhi_ M2), .int (mik_ M2), .int (nI (mcu_ M2)), .int (nI (mbk_ M2)), .ref (r 25), .ref (r 26), .int (mlw_ M2), .int (mhg_ M2), .int (msl_ M2), .ref (r 30), .int (nI (mrm_ M2)), .ref (r 32), .int (mlo_ M2)])), (r 1, .inl (cI, 7, .inl (mrf_ M2))), (r 2, .inl (cI, 7, .inl (kd_ B))), (r 3, .inl (cI, 7, .inl (fg_ B))), (r 4, .inl (cI, 7, .inl (pl_ B))), (r 5, .inl (cI, 7, .inl (pw_ B))), (r 6, .inl (cI, 7, .inl (jy_ B))), (r 13, .inl (cI, 96, .inl (mtp_ M2))), (r 14, .inl (cI, 48, .inl (mlt_ M2))), (r 15, .inl (cI, 48, .inl (mla_ M2))), (r 16, .inl (cI, 144, .inl (mtd_ M2))), (r 20, .inl (cI, 451, .inl (flatK (mkp_ M2)))), (r 25, .inl (cI, 7, .inl (mof_ M2))), (r 26, .inl (cI, 7, .inl (mfa_ M2))), (r 30, .inl (cI, 12, .inl (mrw_ M2))), (r 32, .inl (cI, 8, .inl (mhb_ M2)))]) H := hP
      replace hD : va_D A ([(r 0, .inr (5, [.ref (r 1), .ref (r 2), .ref (r 3), .ref (r 4), .ref (r 5), .ref (r 6), .int (nI (sn_ B)), .int (Q9), .int (il_ B), .int (pa_ B), .int (ho_ B), .int (dy_ B), .ref (r 13), .ref (r 14), .ref (r 15), .ref (r 16), .int (nI (mtn_ M2)), .int (nI (mrd_ M2)), .int (nI (msm_ M2)), .ref (r 20), .int (mhi_ M2), .int (mik_ M2), .int (nI (mcu_ M2)), .int (nI (mbk_ M2)), .ref (r 25), .ref (r 26), .int (mlw_ M2), .int (mhg_ M2), .int (msl_ M2), .ref (r 30), .int (nI (mrm_ M2)), .ref (r 32), .int (mlo_ M2)])), (r 1, .inl (cI, 7, .inl (mrf_ M2))), (r 2, .inl (cI, 7, .inl (kd_ B))), (r 3, .inl (cI, 7, .inl (fg_ B))), (r 4, .inl (cI, 7, .inl (pl_ B))), (r 5, .inl (cI, 7, .inl (pw_ B))), (r 6, .inl (cI, 7, .inl (jy_ B))), (r 13, .inl (cI, 96, .inl (mtp_ M2))), (r 14, .inl (cI, 48, .inl (mlt_ M2))), (r 15, .inl (cI, 48, .inl (mla_ M2))), (r 16, .inl (cI, 144, .inl (mtd_ M2))), (r 20, .inl (cI, 451, .inl (flatK (mkp_ M2)))), (r 25, .inl (cI, 7, .inl (mof_ M2))), (r 26, .inl (cI, 7, .inl (mfa_ M2))), (r 30, .inl (cI, 12, .inl (mrw_ M2))), (r 32, .inl (cI, 8, .inl (mhb_ M2)))]) := hD
      refine lv_iload hx hb dX5_findTreaty_8 (lv_at hl 0 rfl) ?_
      refine lv_iconst (v := 4) hx hb dX5_findTreaty_10 (by decide) ?_
      refine lv_icmp_ge (tgt := 80) hx hb dX5_findTreaty_11 (by decide) (fun c_11 => ?_) (fun c_11 => ?_)
      · replace c_11 : nI 4 ≤ nI i := c_11
        rw [jle (by omega) (by omega)] at c_11
        refine lv_aload_n hx hb dX5_findTreaty_80 rfl (lv_at hl 2 rfl) ?_
        refine lv_iload_n hx hb dX5_findTreaty_81 rfl (lv_at hl 1 rfl) ?_
        refine lv_topi (fun y_1 ey_1 => ?_)
        replace ey_1 : y_1 = qt_ B := ey_1
        refine va_put (ci := 5) (ty := .int) (C := RX5) (T := TX5) (N := 33) hx hb hts hinX5 tyX5 tyX5_ok nmX5 hown hK.1 hP hD hS 0 rfl rfl 7 (by decide) (hts _ (List.mem_of_getElem? (i := 1) rfl)) (fun _ h9 => h9) rfl (by decide +kernel) (rfl) (rfl) (Nat.le_of_ble_eq_true rfl) dX5_findTreaty_82 (fun H locs hP hD hS => ?_)
        replace hP : va_P D vwCl ([(r 0, .inr (5, [.ref (r 1), .ref (r 2), .ref (r 3), .ref (r 4), .ref (r 5), .ref (r 6), .int (nI (sn_ B)), .int (y_1), .int (il_ B), .int (pa_ B), .int (ho_ B), .int (dy_ B), .ref (r 13), .ref (r 14), .ref (r 15), .ref (r 16), .int (nI (mtn_ M2)), .int (nI (mrd_ M2)), .int (nI (msm_ M2)), .ref (r 20), .int (mhi_ M2), .int (mik_ M2), .int (nI (mcu_ M2)), .int (nI (mbk_ M2)), .ref (r 25), .ref (r 26), .int (mlw_ M2), .int (mhg_ M2), .int (msl_ M2), .ref (r 30), .int (nI (mrm_ M2)), .ref (r 32), .int (mlo_ M2)])), (r 1, .inl (cI, 7, .inl (mrf_ M2))), (r 2, .inl (cI, 7, .inl (kd_ B))), (r 3, .inl (cI, 7, .inl (fg_ B))), (r 4, .inl (cI, 7, .inl (pl_ B))), (r 5, .inl (cI, 7, .inl (pw_ B))), (r 6, .inl (cI, 7, .inl (jy_ B))), (r 13, .inl (cI, 96, .inl (mtp_ M2))), (r 14, .inl (cI, 48, .inl (mlt_ M2))), (r 15, .inl (cI, 48, .inl (mla_ M2))), (r 16, .inl (cI, 144, .inl (mtd_ M2))), (r 20, .inl (cI, 451, .inl (flatK (mkp_ M2)))), (r 25, .inl (cI, 7, .inl (mof_ M2))), (r 26, .inl (cI, 7, .inl (mfa_ M2))), (r 30, .inl (cI, 12, .inl (mrw_ M2))), (r 32, .inl (cI, 8, .inl (mhb_ M2)))]) H := hP
        replace hD : va_D A ([(r 0, .inr (5, [.ref (r 1), .ref (r 2), .ref (r 3), .ref (r 4), .ref (r 5), .ref (r 6), .int (nI (sn_ B)), .int (y_1), .int (il_ B), .int (pa_ B), .int (ho_ B), .int (dy_ B), .ref (r 13), .ref (r 14), .ref (r 15), .ref (r 16), .int (nI (mtn_ M2)), .int (nI (mrd_ M2)), .int (nI (msm_ M2)), .ref (r 20), .int (mhi_ M2), .int (mik_ M2), .int (nI (mcu_ M2)), .int (nI (mbk_ M2)), .ref (r 25), .ref (r 26), .int (mlw_ M2), .int (mhg_ M2), .int (msl_ M2), .ref (r 30), .int (nI (mrm_ M2)), .ref (r 32), .int (mlo_ M2)])), (r 1, .inl (cI, 7, .inl (mrf_ M2))), (r 2, .inl (cI, 7, .inl (kd_ B))), (r 3, .inl (cI, 7, .inl (fg_ B))), (r 4, .inl (cI, 7, .inl (pl_ B))), (r 5, .inl (cI, 7, .inl (pw_ B))), (r 6, .inl (cI, 7, .inl (jy_ B))), (r 13, .inl (cI, 96, .inl (mtp_ M2))), (r 14, .inl (cI, 48, .inl (mlt_ M2))), (r 15, .inl (cI, 48, .inl (mla_ M2))), (r 16, .inl (cI, 144, .inl (mtd_ M2))), (r 20, .inl (cI, 451, .inl (flatK (mkp_ M2)))), (r 25, .inl (cI, 7, .inl (mof_ M2))), (r 26, .inl (cI, 7, .inl (mfa_ M2))), (r 30, .inl (cI, 12, .inl (mrw_ M2))), (r 32, .inl (cI, 8, .inl (mhb_ M2)))]) := hD
        (try rw [ey_1] at hP); (try rw [ey_1] at hD); (try rw [ey_1] at hl); (try rw [ey_1] at c_11); (try rw [ey_1])
        replace hP : va_P D vwCl (mW cI r B M2) H := hP
        replace hD : va_D A (mW cI r B M2) := hD
        refine rMv hx hb hr hlk hS M2 hP ?_ dX5_findTreaty_85
        have e9 : i = 4 := by omega
        subst e9
        exact ⟨hM, hT⟩
      · replace c_11 : ¬ nI 4 ≤ nI i := c_11
        rw [jle (by omega) (by omega)] at c_11
        refine lv_aload_n hx hb dX5_findTreaty_14 rfl (lv_at hl 2 rfl) ?_
        refine lv_iload_n hx hb dX5_findTreaty_15 rfl (lv_at hl 1 rfl) ?_
        refine lv_iload_n hx hb dX5_findTreaty_16 rfl (lv_at hl 3 rfl) ?_
        refine lv_iload hx hb dX5_findTreaty_17 (lv_at hl 0 rfl) ?_
        refine lv_iconst (v := 2) hx hb dX5_findTreaty_19 (by decide) ?_
        refine lv_idiv hx hb dX5_findTreaty_20 (by decide) ?_
        refine kSiS hx hb hml hown hts hK hP gX5_findTreaty_X5_hushed okX5_hushed (qX5_hushed l D cI cB (qt_ B) a ((nI i) / 2) ) [] rfl (by decide) hl.1 rfl rfl (Nat.le_of_ble_eq_true rfl) dX5_findTreaty_21 (by decide) (fun r_2 hr_3 => ?_)
        replace hr_3 : r_2 = sq_ (((nI i) / 2) = 0) (qt_ B) a := hr_3
        subst r_2
        refine lv_iload_n hx hb dX5_findTreaty_24 rfl (lv_at hl 4 rfl) ?_
        refine lv_iload hx hb dX5_findTreaty_25 (lv_at hl 0 rfl) ?_
        refine lv_iconst (v := 2) hx hb dX5_findTreaty_27 (by decide) ?_
        refine lv_irem hx hb dX5_findTreaty_28 (by decide) ?_
        refine kSiS hx hb hml hown hts hK hP gX5_findTreaty_X5_hushed okX5_hushed (qX5_hushed l D cI cB (sq_ (((nI i) / 2) = 0) (qt_ B) a) b ((nI i) - (nI i) / 2 * 2) ) [] rfl (by decide) hl.1 rfl rfl (Nat.le_of_ble_eq_true rfl) dX5_findTreaty_29 (by decide) (fun r_4 hr_5 => ?_)
        replace hr_5 : r_4 = sq_ (((nI i) - (nI i) / 2 * 2) = 0) (sq_ (((nI i) / 2) = 0) (qt_ B) a) b := hr_5
        subst r_4
        refine sti (x := sq_ (((nI i) - (nI i) / 2 * 2) = 0) (sq_ (((nI i) / 2) = 0) (qt_ B) a) b) (y := qt_ (tt_ B a b i)) (congrArg qt_ (tt_e (j := i) (jd2 (by omega)).1 (jd2 (by omega)).2)) ?_
        refine lv_topi (fun y_6 ey_6 => ?_)
        replace ey_6 : y_6 = qt_ (tt_ B a b i) := ey_6
        refine va_put (ci := 5) (ty := .int) (C := RX5) (T := TX5) (N := 33) hx hb hts hinX5 tyX5 tyX5_ok nmX5 hown hK.1 hP hD hS 0 rfl rfl 7 (by decide) (hts _ (List.mem_of_getElem? (i := 1) rfl)) (fun _ h9 => h9) rfl (by decide +kernel) (rfl) (rfl) (Nat.le_of_ble_eq_true rfl) dX5_findTreaty_32 (fun H locs hP hD hS => ?_)
        replace hP : va_P D vwCl ([(r 0, .inr (5, [.ref (r 1), .ref (r 2), .ref (r 3), .ref (r 4), .ref (r 5), .ref (r 6), .int (nI (sn_ B)), .int (y_6), .int (il_ B), .int (pa_ B), .int (ho_ B), .int (dy_ B), .ref (r 13), .ref (r 14), .ref (r 15), .ref (r 16), .int (nI (mtn_ M2)), .int (nI (mrd_ M2)), .int (nI (msm_ M2)), .ref (r 20), .int (mhi_ M2), .int (mik_ M2), .int (nI (mcu_ M2)), .int (nI (mbk_ M2)), .ref (r 25), .ref (r 26), .int (mlw_ M2), .int (mhg_ M2), .int (msl_ M2), .ref (r 30), .int (nI (mrm_ M2)), .ref (r 32), .int (mlo_ M2)])), (r 1, .inl (cI, 7, .inl (mrf_ M2))), (r 2, .inl (cI, 7, .inl (kd_ B))), (r 3, .inl (cI, 7, .inl (fg_ B))), (r 4, .inl (cI, 7, .inl (pl_ B))), (r 5, .inl (cI, 7, .inl (pw_ B))), (r 6, .inl (cI, 7, .inl (jy_ B))), (r 13, .inl (cI, 96, .inl (mtp_ M2))), (r 14, .inl (cI, 48, .inl (mlt_ M2))), (r 15, .inl (cI, 48, .inl (mla_ M2))), (r 16, .inl (cI, 144, .inl (mtd_ M2))), (r 20, .inl (cI, 451, .inl (flatK (mkp_ M2)))), (r 25, .inl (cI, 7, .inl (mof_ M2))), (r 26, .inl (cI, 7, .inl (mfa_ M2))), (r 30, .inl (cI, 12, .inl (mrw_ M2))), (r 32, .inl (cI, 8, .inl (mhb_ M2)))]) H := hP
        replace hD : va_D A ([(r 0, .inr (5, [.ref (r 1), .ref (r 2), .ref (r 3), .ref (r 4), .ref (r 5), .ref (r 6), .int (nI (sn_ B)), .int (y_6), .int (il_ B), .int (pa_ B), .int (ho_ B), .int (dy_ B), .ref (r 13), .ref (r 14), .ref (r 15), .ref (r 16), .int (nI (mtn_ M2)), .int (nI (mrd_ M2)), .int (nI (msm_ M2)), .ref (r 20), .int (mhi_ M2), .int (mik_ M2), .int (nI (mcu_ M2)), .int (nI (mbk_ M2)), .ref (r 25), .ref (r 26), .int (mlw_ M2), .int (mhg_ M2), .int (msl_ M2), .ref (r 30), .int (nI (mrm_ M2)), .ref (r 32), .int (mlo_ M2)])), (r 1, .inl (cI, 7, .inl (mrf_ M2))), (r 2, .inl (cI, 7, .inl (kd_ B))), (r 3, .inl (cI, 7, .inl (fg_ B))), (r 4, .inl (cI, 7, .inl (pl_ B))), (r 5, .inl (cI, 7, .inl (pw_ B))), (r 6, .inl (cI, 7, .inl (jy_ B))), (r 13, .inl (cI, 96, .inl (mtp_ M2))), (r 14, .inl (cI, 48, .inl (mlt_ M2))), (r 15, .inl (cI, 48, .inl (mla_ M2))), (r 16, .inl (cI, 144, .inl (mtd_ M2))), (r 20, .inl (cI, 451, .inl (flatK (mkp_ M2)))), (r 25, .inl (cI, 7, .inl (mof_ M2))), (r 26, .inl (cI, 7, .inl (mfa_ M2))), (r 30, .inl (cI, 12, .inl (mrw_ M2))), (r 32, .inl (cI, 8, .inl (mhb_ M2)))]) := hD
        (try rw [ey_6] at hP); (try rw [ey_6] at hD); (try rw [ey_6] at hl); (try rw [ey_6] at c_11); (try rw [ey_6])
        replace hP : va_P D vwCl ([(r 0, .inr (5, [.ref (r 1), .ref (r 2), .ref (r 3), .ref (r 4), .ref (r 5), .ref (r 6), .int (nI (sn_ B)), .int (qt_ (tt_ B a b i)), .int (il_ B), .int (pa_ B), .int (ho_ B), .int (dy_ B), .ref (r 13), .ref (r 14), .ref (r 15), .ref (r 16), .int (nI (mtn_ M2)), .int (nI (mrd_ M2)), .int (nI (msm_ M2)), .ref (r 20), .int (mhi_ M2), .int (mik_ M2), .int (nI (mcu_ M2)), .int (nI (mbk_ M2)), .ref (r 25), .ref (r 26), .int (mlw_ M2), .int (mhg_ M2), .int (msl_ M2), .ref (r 30), .int (nI (mrm_ M2)), .ref (r 32), .int (mlo_ M2)])), (r 1, .inl (cI, 7, .inl (mrf_ M2))), (r 2, .inl (cI, 7, .inl (kd_ B))), (r 3, .inl (cI, 7, .inl (fg_ B))), (r 4, .inl (cI, 7, .inl (pl_ B))), (r 5, .inl (cI, 7, .inl (pw_ B))), (r 6, .inl (cI, 7, .inl (jy_ B))), (r 13, .inl (cI, 96, .inl (mtp_ M2))), (r 14, .inl (cI, 48, .inl (mlt_ M2))), (r 15, .inl (cI, 48, .inl (mla_ M2))), (r 16, .inl (cI, 144, .inl (mtd_ M2))), (r 20, .inl (cI, 451, .inl (flatK (mkp_ M2)))), (r 25, .inl (cI, 7, .inl (mof_ M2))), (r 26, .inl (cI, 7, .inl (mfa_ M2))), (r 30, .inl (cI, 12, .inl (mrw_ M2))), (r 32, .inl (cI, 8, .inl (mhb_ M2)))]) H := hP
        replace hD : va_D A ([(r 0, .inr (5, [.ref (r 1), .ref (r 2), .ref (r 3), .ref (r 4), .ref (r 5), .ref (r 6), .int (nI (sn_ B)), .int (qt_ (tt_ B a b i)), .int (il_ B), .int (pa_ B), .int (ho_ B), .int (dy_ B), .ref (r 13), .ref (r 14), .ref (r 15), .ref (r 16), .int (nI (mtn_ M2)), .int (nI (mrd_ M2)), .int (nI (msm_ M2)), .ref (r 20), .int (mhi_ M2), .int (mik_ M2), .int (nI (mcu_ M2)), .int (nI (mbk_ M2)), .ref (r 25), .ref (r 26), .int (mlw_ M2), .int (mhg_ M2), .int (msl_ M2), .ref (r 30), .int (nI (mrm_ M2)), .ref (r 32), .int (mlo_ M2)])), (r 1, .inl (cI, 7, .inl (mrf_ M2))), (r 2, .inl (cI, 7, .inl (kd_ B))), (r 3, .inl (cI, 7, .inl (fg_ B))), (r 4, .inl (cI, 7, .inl (pl_ B))), (r 5, .inl (cI, 7, .inl (pw_ B))), (r 6, .inl (cI, 7, .inl (jy_ B))), (r 13, .inl (cI, 96, .inl (mtp_ M2))), (r 14, .inl (cI, 48, .inl (mlt_ M2))), (r 15, .inl (cI, 48, .inl (mla_ M2))), (r 16, .inl (cI, 144, .inl (mtd_ M2))), (r 20, .inl (cI, 451, .inl (flatK (mkp_ M2)))), (r 25, .inl (cI, 7, .inl (mof_ M2))), (r 26, .inl (cI, 7, .inl (mfa_ M2))), (r 30, .inl (cI, 12, .inl (mrw_ M2))), (r 32, .inl (cI, 8, .inl (mhb_ M2)))]) := hD
        refine lv_aload_n hx hb dX5_findTreaty_35 rfl (lv_at hl 2 rfl) ?_
        refine lv_iconst (v := 1) hx hb dX5_findTreaty_36 (by decide) ?_
        refine lv_bipush (v := 12) hx hb dX5_findTreaty_37 (by decide) ?_
        refine kMvV hx hb hml hown hts hK hP hD hA hS gX5_findTreaty_X5_findOften okX5_findOften (qX5_findOften l D cI cB r (tt_ B a b i) M2 1 12 (bI_tt hI ha hb_9) (by decide) (by decide)) [0, 1, 2, 3, 4, 5, 6, 7, 8, 9, 10, 11, 12, 13, 14, 15] rfl (by decide) (fun _ => mW_adr _ _ _ _ _ _) rfl rfl rfl (by decide) hl.1 rfl rfl (Nat.le_of_ble_eq_true rfl) dX5_findTreaty_39 (by decide) (fun u_8 H locs hw_9 hP hD hS => ?_)
        replace hw_9 : u_8 = pu_ (fom_ M2 (tt_ B a b i) 1 13) 2 := hw_9
        obtain ⟨N9, hN9⟩ : ∃ N : Nat, N = 13 := ⟨_, rfl⟩
        rw [← hN9] at hw_9
        have hNu_8 : oN_ M2 u_8 := by rw [hw_9]; exact oN_fo _ _ _ _
        have eMOF : mof_ u_8 = ofn_ (tt_ B a b i) 1 N9 := fo_mof hw_9
        have eMFA : mfa_ u_8 = fan_ (tt_ B a b i) N9 := fo_mfa hw_9
        have eMLW : mlw_ u_8 = lwn_ (tt_ B a b i) N9 := fo_mlw hw_9
        have eMHG : mhg_ u_8 = hgn_ (tt_ B a b i) N9 := fo_mhg hw_9
        have eMSL : msl_ u_8 = sln_ (tt_ B a b i) N9 := fo_msl hw_9
        have eMHB : mhb_ u_8 = mhb_ M2 := fo_mhb hw_9
        replace hP : va_P D vwCl ([(r 0, .inr (5, [.ref (r 1), .ref (r 2), .ref (r 3), .ref (r 4), .ref (r 5), .ref (r 6), .int (nI (sn_ B)), .int (qt_ (tt_ B a b i)), .int (il_ B), .int (pa_ B), .int (ho_ B), .int (dy_ B), .ref (r 13), .ref (r 14), .ref (r 15), .ref (r 16), .int (nI (mtn_ u_8)), .int (nI (mrd_ u_8)), .int (nI (msm_ u_8)), .ref (r 20), .int (mhi_ u_8), .int (mik_ u_8), .int (nI (mcu_ u_8)), .int (nI (mbk_ u_8)), .ref (r 25), .ref (r 26), .int (mlw_ u_8), .int (mhg_ u_8), .int (msl_ u_8), .ref (r 30), .int (nI (mrm_ u_8)), .ref (r 32), .int (mlo_ u_8)])), (r 1, .inl (cI, 7, .inl (mrf_ u_8))), (r 2, .inl (cI, 7, .inl (kd_ B))), (r 3, .inl (cI, 7, .inl (fg_ B))), (r 4, .inl (cI, 7, .inl (pl_ B))), (r 5, .inl (cI, 7, .inl (pw_ B))), (r 6, .inl (cI, 7, .inl (jy_ B))), (r 13, .inl (cI, 96, .inl (mtp_ u_8))), (r 14, .inl (cI, 48, .inl (mlt_ u_8))), (r 15, .inl (cI, 48, .inl (mla_ u_8))), (r 16, .inl (cI, 144, .inl (mtd_ u_8))), (r 20, .inl (cI, 451, .inl (flatK (mkp_ u_8)))), (r 25, .inl (cI, 7, .inl (mof_ u_8))), (r 26, .inl (cI, 7, .inl (mfa_ u_8))), (r 30, .inl (cI, 12, .inl (mrw_ u_8))), (r 32, .inl (cI, 8, .inl (mhb_ u_8)))]) H := (va_P.m [true, true, true, true, true, true, true, true, true, true, true, true, true, true, true, true] [] hP)
        replace hD : va_D A ([(r 0, .inr (5, [.ref (r 1), .ref (r 2), .ref (r 3), .ref (r 4), .ref (r 5), .ref (r 6), .int (nI (sn_ B)), .int (qt_ (tt_ B a b i)), .int (il_ B), .int (pa_ B), .int (ho_ B), .int (dy_ B), .ref (r 13), .ref (r 14), .ref (r 15), .ref (r 16), .int (nI (mtn_ u_8)), .int (nI (mrd_ u_8)), .int (nI (msm_ u_8)), .ref (r 20), .int (mhi_ u_8), .int (mik_ u_8), .int (nI (mcu_ u_8)), .int (nI (mbk_ u_8)), .ref (r 25), .ref (r 26), .int (mlw_ u_8), .int (mhg_ u_8), .int (msl_ u_8), .ref (r 30), .int (nI (mrm_ u_8)), .ref (r 32), .int (mlo_ u_8)])), (r 1, .inl (cI, 7, .inl (mrf_ u_8))), (r 2, .inl (cI, 7, .inl (kd_ B))), (r 3, .inl (cI, 7, .inl (fg_ B))), (r 4, .inl (cI, 7, .inl (pl_ B))), (r 5, .inl (cI, 7, .inl (pw_ B))), (r 6, .inl (cI, 7, .inl (jy_ B))), (r 13, .inl (cI, 96, .inl (mtp_ u_8))), (r 14, .inl (cI, 48, .inl (mlt_ u_8))), (r 15, .inl (cI, 48, .inl (mla_ u_8))), (r 16, .inl (cI, 144, .inl (mtd_ u_8))), (r 20, .inl (cI, 451, .inl (flatK (mkp_ u_8)))), (r 25, .inl (cI, 7, .inl (mof_ u_8))), (r 26, .inl (cI, 7, .inl (mfa_ u_8))), (r 30, .inl (cI, 12, .inl (mrw_ u_8))), (r 32, .inl (cI, 8, .inl (mhb_ u_8)))]) := (va_D.m [true, true, true, true, true, true, true, true, true, true, true, true, true, true, true, true] [] hD)
        refine lv_aload_n hx hb dX5_findTreaty_42 rfl (lv_at hl 2 rfl) ?_
        refine va_get (ci := 5) (C := RX5) (T := TX5) (N := 33) hx hb hts hinX5 hown hK.1 hP 0 rfl rfl 31 (by decide) (hts _ (List.mem_of_getElem? (i := 2) rfl)) (fun _ h9 => h9) rfl dX5_findTreaty_43 ?_
        refine lv_iconst (v := 2) hx hb dX5_findTreaty_46 (by decide) ?_
        refine lv_iload hx hb dX5_findTreaty_47 (lv_at hl 0 rfl) ?_
        refine lv_imul hx hb dX5_findTreaty_49 ?_
        refine lv_aload_n hx hb dX5_findTreaty_50 rfl (lv_at hl 2 rfl) ?_
        refine va_get (ci := 5) (C := RX5) (T := TX5) (N := 33) hx hb hts hinX5 hown hK.1 hP 0 rfl rfl 24 (by decide) (hts _ (List.mem_of_getElem? (i := 3) rfl)) (fun _ h9 => h9) rfl dX5_findTreaty_51 ?_
        refine lv_iload_n hx hb dX5_findTreaty_54 rfl (lv_at hl 3 rfl) ?_
        refine jald hx hb hK.1 hP 12 0 a rfl rfl rfl (by omega) (Nat.le_of_ble_eq_true rfl) dX5_findTreaty_55 ?_
        refine sti (x := (mof_ u_8) a) (y := tc_ (tt_ B a b i) a 12) ((congrFun eMOF a).trans (by rw [hN9]; exact ofn_tc (bI_tt hI ha hb_9) ha 12)) ?_
        refine jast hx hb hK.1 hP hD hS 15 0 (2 * i) rfl rfl (pk_mul 2 i) (by omega) (Nat.le_of_ble_eq_true rfl) dX5_findTreaty_56 (fun f_10 ef_10 H locs hP hD hS => ?_)
        replace ef_10 : f_10 = upd (mhb_ u_8) (2 * i) (tc_ (tt_ B a b i) a 12) := ef_10
        replace hP : va_P D vwCl ([(r 0, .inr (5, [.ref (r 1), .ref (r 2), .ref (r 3), .ref (r 4), .ref (r 5), .ref (r 6), .int (nI (sn_ B)), .int (qt_ (tt_ B a b i)), .int (il_ B), .int (pa_ B), .int (ho_ B), .int (dy_ B), .ref (r 13), .ref (r 14), .ref (r 15), .ref (r 16), .int (nI (mtn_ u_8)), .int (nI (mrd_ u_8)), .int (nI (msm_ u_8)), .ref (r 20), .int (mhi_ u_8), .int (mik_ u_8), .int (nI (mcu_ u_8)), .int (nI (mbk_ u_8)), .ref (r 25), .ref (r 26), .int (mlw_ u_8), .int (mhg_ u_8), .int (msl_ u_8), .ref (r 30), .int (nI (mrm_ u_8)), .ref (r 32), .int (mlo_ u_8)])), (r 1, .inl (cI, 7, .inl (mrf_ u_8))), (r 2, .inl (cI, 7, .inl (kd_ B))), (r 3, .inl (cI, 7, .inl (fg_ B))), (r 4, .inl (cI, 7, .inl (pl_ B))), (r 5, .inl (cI, 7, .inl (pw_ B))), (r 6, .inl (cI, 7, .inl (jy_ B))), (r 13, .inl (cI, 96, .inl (mtp_ u_8))), (r 14, .inl (cI, 48, .inl (mlt_ u_8))), (r 15, .inl (cI, 48, .inl (mla_ u_8))), (r 16, .inl (cI, 144, .inl (mtd_ u_8))), (r 20, .inl (cI, 451, .inl (flatK (mkp_ u_8)))), (r 25, .inl (cI, 7, .inl (mof_ u_8))), (r 26, .inl (cI, 7, .inl (mfa_ u_8))), (r 30, .inl (cI, 12, .inl (mrw_ u_8))), (r 32, .inl (cI, 8, .inl f_10))]) H := hP
        replace hD : va_D A ([(r 0, .inr (5, [.ref (r 1), .ref (r 2), .ref (r 3), .ref (r 4), .ref (r 5), .ref (r 6), .int (nI (sn_ B)), .int (qt_ (tt_ B a b i)), .int (il_ B), .int (pa_ B), .int (ho_ B), .int (dy_ B), .ref (r 13), .ref (r 14), .ref (r 15), .ref (r 16), .int (nI (mtn_ u_8)), .int (nI (mrd_ u_8)), .int (nI (msm_ u_8)), .ref (r 20), .int (mhi_ u_8), .int (mik_ u_8), .int (nI (mcu_ u_8)), .int (nI (mbk_ u_8)), .ref (r 25), .ref (r 26), .int (mlw_ u_8), .int (mhg_ u_8), .int (msl_ u_8), .ref (r 30), .int (nI (mrm_ u_8)), .ref (r 32), .int (mlo_ u_8)])), (r 1, .inl (cI, 7, .inl (mrf_ u_8))), (r 2, .inl (cI, 7, .inl (kd_ B))), (r 3, .inl (cI, 7, .inl (fg_ B))), (r 4, .inl (cI, 7, .inl (pl_ B))), (r 5, .inl (cI, 7, .inl (pw_ B))), (r 6, .inl (cI, 7, .inl (jy_ B))), (r 13, .inl (cI, 96, .inl (mtp_ u_8))), (r 14, .inl (cI, 48, .inl (mlt_ u_8))), (r 15, .inl (cI, 48, .inl (mla_ u_8))), (r 16, .inl (cI, 144, .inl (mtd_ u_8))), (r 20, .inl (cI, 451, .inl (flatK (mkp_ u_8)))), (r 25, .inl (cI, 7, .inl (mof_ u_8))), (r 26, .inl (cI, 7, .inl (mfa_ u_8))), (r 30, .inl (cI, 12, .inl (mrw_ u_8))), (r 32, .inl (cI, 8, .inl f_10))]) := hD
        refine lv_aload_n hx hb dX5_findTreaty_57 rfl (lv_at hl 2 rfl) ?_
        refine va_get (ci := 5) (C := RX5) (T := TX5) (N := 33) hx hb hts hinX5 hown hK.1 hP 0 rfl rfl 31 (by decide) (hts _ (List.mem_of_getElem? (i := 2) rfl)) (fun _ h9 => h9) rfl dX5_findTreaty_58 ?_
        refine lv_iconst (v := 2) hx hb dX5_findTreaty_61 (by decide) ?_
        refine lv_iload hx hb dX5_findTreaty_62 (lv_at hl 0 rfl) ?_
        refine lv_imul hx hb dX5_findTreaty_64 ?_
        refine lv_iconst (v := 1) hx hb dX5_findTreaty_65 (by decide) ?_
        refine lv_iadd hx hb dX5_findTreaty_66 ?_
        refine lv_aload_n hx hb dX5_findTreaty_67 rfl (lv_at hl 2 rfl) ?_
        refine va_get (ci := 5) (C := RX5) (T := TX5) (N := 33) hx hb hts hinX5 hown hK.1 hP 0 rfl rfl 24 (by decide) (hts _ (List.mem_of_getElem? (i := 3) rfl)) (fun _ h9 => h9) rfl dX5_findTreaty_68 ?_
        refine lv_iload_n hx hb dX5_findTreaty_71 rfl (lv_at hl 4 rfl) ?_
        refine jald hx hb hK.1 hP 12 0 b rfl rfl rfl (by omega) (Nat.le_of_ble_eq_true rfl) dX5_findTreaty_72 ?_
        refine sti (x := (mof_ u_8) b) (y := tc_ (tt_ B a b i) b 12) ((congrFun eMOF b).trans (by rw [hN9]; exact ofn_tc (bI_tt hI ha hb_9) hb_9 12)) ?_
        refine jast hx hb hK.1 hP hD hS 15 0 (2 * i + 1) rfl rfl (by rw [show (2 : Int32) * nI i = nI (2 * i) from pk_mul 2 i]; exact nI_1 _) (by omega) (Nat.le_of_ble_eq_true rfl) dX5_findTreaty_73 (fun f_11 ef_11 H locs hP hD hS => ?_)
        replace ef_11 : f_11 = upd f_10 (2 * i + 1) (tc_ (tt_ B a b i) b 12) := ef_11
        replace hP : va_P D vwCl ([(r 0, .inr (5, [.ref (r 1), .ref (r 2), .ref (r 3), .ref (r 4), .ref (r 5), .ref (r 6), .int (nI (sn_ B)), .int (qt_ (tt_ B a b i)), .int (il_ B), .int (pa_ B), .int (ho_ B), .int (dy_ B), .ref (r 13), .ref (r 14), .ref (r 15), .ref (r 16), .int (nI (mtn_ u_8)), .int (nI (mrd_ u_8)), .int (nI (msm_ u_8)), .ref (r 20), .int (mhi_ u_8), .int (mik_ u_8), .int (nI (mcu_ u_8)), .int (nI (mbk_ u_8)), .ref (r 25), .ref (r 26), .int (mlw_ u_8), .int (mhg_ u_8), .int (msl_ u_8), .ref (r 30), .int (nI (mrm_ u_8)), .ref (r 32), .int (mlo_ u_8)])), (r 1, .inl (cI, 7, .inl (mrf_ u_8))), (r 2, .inl (cI, 7, .inl (kd_ B))), (r 3, .inl (cI, 7, .inl (fg_ B))), (r 4, .inl (cI, 7, .inl (pl_ B))), (r 5, .inl (cI, 7, .inl (pw_ B))), (r 6, .inl (cI, 7, .inl (jy_ B))), (r 13, .inl (cI, 96, .inl (mtp_ u_8))), (r 14, .inl (cI, 48, .inl (mlt_ u_8))), (r 15, .inl (cI, 48, .inl (mla_ u_8))), (r 16, .inl (cI, 144, .inl (mtd_ u_8))), (r 20, .inl (cI, 451, .inl (flatK (mkp_ u_8)))), (r 25, .inl (cI, 7, .inl (mof_ u_8))), (r 26, .inl (cI, 7, .inl (mfa_ u_8))), (r 30, .inl (cI, 12, .inl (mrw_ u_8))), (r 32, .inl (cI, 8, .inl f_11))]) H := hP
        replace hD : va_D A ([(r 0, .inr (5, [.ref (r 1), .ref (r 2), .ref (r 3), .ref (r 4), .ref (r 5), .ref (r 6), .int (nI (sn_ B)), .int (qt_ (tt_ B a b i)), .int (il_ B), .int (pa_ B), .int (ho_ B), .int (dy_ B), .ref (r 13), .ref (r 14), .ref (r 15), .ref (r 16), .int (nI (mtn_ u_8)), .int (nI (mrd_ u_8)), .int (nI (msm_ u_8)), .ref (r 20), .int (mhi_ u_8), .int (mik_ u_8), .int (nI (mcu_ u_8)), .int (nI (mbk_ u_8)), .ref (r 25), .ref (r 26), .int (mlw_ u_8), .int (mhg_ u_8), .int (msl_ u_8), .ref (r 30), .int (nI (mrm_ u_8)), .ref (r 32), .int (mlo_ u_8)])), (r 1, .inl (cI, 7, .inl (mrf_ u_8))), (r 2, .inl (cI, 7, .inl (kd_ B))), (r 3, .inl (cI, 7, .inl (fg_ B))), (r 4, .inl (cI, 7, .inl (pl_ B))), (r 5, .inl (cI, 7, .inl (pw_ B))), (r 6, .inl (cI, 7, .inl (jy_ B))), (r 13, .inl (cI, 96, .inl (mtp_ u_8))), (r 14, .inl (cI, 48, .inl (mlt_ u_8))), (r 15, .inl (cI, 48, .inl (mla_ u_8))), (r 16, .inl (cI, 144, .inl (mtd_ u_8))), (r 20, .inl (cI, 451, .inl (flatK (mkp_ u_8)))), (r 25, .inl (cI, 7, .inl (mof_ u_8))), (r 26, .inl (cI, 7, .inl (mfa_ u_8))), (r 30, .inl (cI, 12, .inl (mrw_ u_8))), (r 32, .inl (cI, 8, .inl f_11))]) := hD
        refine lv_iinc (v := (nI i) + 1) (lv' := [(4, .int ((nI i) + 1)), (3, .int (qt_ B)), (0, .ref (r 0)), (1, .int (nI a)), (2, .int (nI b))]) hx hb dX5_findTreaty_74 hl (k := 0) rfl (by first | rfl | decide) (by decide) rfl (fun ls hl => ?_)
        refine lv_goto (tgt := 8) hx hb dX5_findTreaty_77 (by decide) ?_
        (try rw [ef_11] at hP); (try rw [ef_11] at hD); (try rw [ef_11] at hl); (try rw [ef_11] at c_11); (try rw [ef_11])
        (try rw [ef_10] at hP); (try rw [ef_10] at hD); (try rw [ef_10] at hl); (try rw [ef_10] at c_11); (try rw [ef_10])
        exact ih_8 (i + 1) ((nI i) + 1) (qt_ (tt_ B a b i)) (mkM (mrf_ u_8) (mtp_ u_8) (mlt_ u_8) (mla_ u_8) (mtd_ u_8) (mkp_ u_8) (mof_ u_8) (mfa_ u_8) (mrw_ u_8) (upd (upd (mhb_ u_8) (2 * i) (tc_ (tt_ B a b i) a 12)) (2 * i + 1) (tc_ (tt_ B a b i) b 12)) (mtn_ u_8) (mrd_ u_8) (msm_ u_8) (mcu_ u_8) (mbk_ u_8) (mrm_ u_8) (mhi_ u_8) (mik_ u_8) (mlw_ u_8) (mhg_ u_8) (msl_ u_8) (mlo_ u_8)) (by first | rfl | exact nI_1 _) (by omega) (oN_.tr hM (oN_mk (by assumption))) (ft_TT (n := 12) (by rw [eMHB]; exact hT)) (by omega) _ _ hP hD hS ls (lv_sub hl [0, 1, 2, 3, 4] rfl)
  exact lp_8 (4 + 1) 0 0 (qt_ B) M (by first | rfl | exact nI_0.symm) (by omega) (oN_.rf _) (fun j hj => absurd hj (Nat.not_lt_zero _)) (by omega) _ _ hP hD hS ls (lv_sub hl [0, 1, 2, 3, 4] rfl)

theorem okX5_divisor : jok yX5_divisor wsX5_divisor cX5_divisor 10 (some .long) 2 := ⟨⟨_, rfl⟩, by decide +kernel, by decide +kernel⟩
set_option maxHeartbeats 2000000 in
set_option maxRecDepth 100000 in
theorem qX5_divisor (l : Launch) (D : va_G) (cI cB : ClassId) (a : Int64) (b : Int64) (ha : ∃ x, x < 2 ^ 62 ∧ a = lN x) (hb_9 : ∃ y, y < 2 ^ 31 ∧ b = lN y) : jSl D cI cB l yX5_divisor wsX5_divisor 0 [.long a, .long b] ([] : va_W) (fun r => r = gc_ 128 a b) := by
  refine jSl.of (cc := cX5_divisor) (maxL := 10) (ret := (some .long)) okX5_divisor (Nat.le_of_ble_eq_true rfl) ?_
  intro p e s m below meth c ls hx hb hr hts hown hlk hml hP hK hl
  replace hown : s.vm.findClass RX5 = some m.cls := hown
  replace hl : lv_has ls 10 [(0, .long a), (2, .long b)] := hl
  obtain ⟨a0, ha0, rfl⟩ := ha
  obtain ⟨b0, hb0, rfl⟩ := hb_9
  replace hl : lv_has ls 10 [(0, .long (lN a0)), (2, .long (lN b0))] := hl
  refine lv_lload_n hx hb dX5_divisor_0 rfl (lv_at hl 0 rfl) ?_
  refine lv_lstore (lv' := [(4, .long (lN a0)), (0, .long (lN a0)), (2, .long (lN b0))]) hx hb dX5_divisor_1 hl (by decide) rfl (fun ls hl => ?_)
  refine lv_lload_n hx hb dX5_divisor_3 rfl (lv_at hl 2 rfl) ?_
  refine lv_lstore (lv' := [(6, .long (lN b0)), (4, .long (lN a0)), (0, .long (lN a0)), (2, .long (lN b0))]) hx hb dX5_divisor_4 hl (by decide) rfl (fun ls hl => ?_)
  have lp_6 : ∀ (fu_6 : Nat) (a9 : Nat) (b9 : Nat) (i : Nat) (x4_6 : Int64) (x6_6 : Int64) , (x4_6 = lN a9) → (x6_6 = lN b9) → (eu_ i a9 b9) → (gc_ (128 - i) (lN a9) (lN b9) = gc_ 128 (lN a0) (lN b0)) → b9 < fu_6 → ∀ ls : Array Slot, lv_has ls 10 [(6, .long x6_6), (4, .long x4_6), (0, .long (lN a0)), (2, .long (lN b0))] → W p l e (jR 0) s m ([.long (lN a0), .long (lN b0)] : List Value).toArray below meth c s.heap [] 0 0 (MQ below (vp_Sl (fun r => r = gc_ 128 (lN a0) (lN b0))) ([.long (lN a0), .long (lN b0)] : List Value).toArray s 0 0 (fun _ => False)) (F0 m 6 ls []) := by
    intro fu_6
    induction fu_6 with
    | zero => intro a9 b9 i x4_6 x6_6 hx4_6 hx6_6 heu hre hfu; exact absurd hfu (Nat.not_lt_zero _)
    | succ fu_6 ih_6 =>
      intro a9 b9 i x4_6 x6_6 hx4_6 hx6_6 heu hre hfu_6 ls hl
      subst x4_6
      subst x6_6
      replace hl : lv_has ls 10 [(6, .long (lN b9)), (4, .long (lN a9)), (0, .long (lN a0)), (2, .long (lN b0))] := hl
      have hbd := eu_b heu
      refine lv_lload hx hb dX5_divisor_6 (lv_at hl 0 rfl) ?_
      refine lv_lconst (v := 0) hx hb dX5_divisor_8 rfl ?_
      refine W.lcmp hx hb dX5_divisor_9 ?_
      refine lv_if_eq (tgt := 31) hx hb dX5_divisor_10 (by decide) (fun c_10 => ?_) (fun c_10 => ?_)
      · rw [lg_cmp_eq] at c_10
        refine lv_lload hx hb dX5_divisor_31 (lv_at hl 1 rfl) ?_
        refine rSl hx hb hr hlk ?_ dX5_divisor_33
        show (lN a9) = _
        rw [show (lN b9) = 0 from c_10, gc_z0] at hre
        exact hre
      · rw [lg_cmp_eq] at c_10
        have hb1 : 0 < b9 := Nat.pos_of_ne_zero fun q => c_10 (by rw [q]; rfl)
        refine lv_lload hx hb dX5_divisor_13 (lv_at hl 1 rfl) ?_
        refine lv_lload hx hb dX5_divisor_15 (lv_at hl 0 rfl) ?_
        refine lv_lrem hx hb dX5_divisor_17 (c_10) ?_
        refine lv_lstore (lv' := [(8, .long ((lN a9) - (lN a9) / (lN b9) * (lN b9))), (6, .long (lN b9)), (4, .long (lN a9)), (0, .long (lN a0)), (2, .long (lN b0))]) hx hb dX5_divisor_18 hl (by decide) rfl (fun ls hl => ?_)
        refine lv_lload hx hb dX5_divisor_20 (lv_at hl 1 rfl) ?_
        refine lv_lstore (lv' := [(4, .long (lN b9)), (8, .long ((lN a9) - (lN a9) / (lN b9) * (lN b9))), (6, .long (lN b9)), (0, .long (lN a0)), (2, .long (lN b0))]) hx hb dX5_divisor_22 hl (by decide) rfl (fun ls hl => ?_)
        refine lv_lload hx hb dX5_divisor_24 (lv_at hl 1 rfl) ?_
        refine lv_lstore (lv' := [(6, .long ((lN a9) - (lN a9) / (lN b9) * (lN b9))), (4, .long (lN b9)), (8, .long ((lN a9) - (lN a9) / (lN b9) * (lN b9))), (0, .long (lN a0)), (2, .long (lN b0))]) hx hb dX5_divisor_26 hl (by decide) rfl (fun ls hl => ?_)
        refine lv_goto (tgt := 6) hx hb dX5_divisor_28 (by decide) ?_
        exact ih_6 b9 (a9 % b9) (i + 1) (lN b9) ((lN a9) - (lN a9) / (lN b9) * (lN b9))  (rfl) (pk_lRem (by omega) hb1 (by omega)) (eu_s heu hb1) (by rw [eu_gc heu hb1, pk_lRem (by omega) hb1 (by omega)] at hre; exact hre) (by have := Nat.mod_lt a9 hb1; omega) ls (lv_sub hl [0, 1, 3, 4] rfl)
  exact lp_6 (b0 + 1) a0 b0 0 (lN a0) (lN b0)  (rfl) (rfl) (Or.inl ⟨rfl, ha0, hb0⟩) (rfl) (by omega) ls (lv_sub hl [0, 1, 2, 3] rfl)

theorem okX5_partOf : jok yX5_partOf wsX5_partOf cX5_partOf 5 (some .long) 3 := ⟨⟨_, rfl⟩, by decide +kernel, by decide +kernel⟩
set_option maxHeartbeats 2000000 in
set_option maxRecDepth 100000 in
theorem qX5_partOf (l : Launch) (D : va_G) (cI cB : ClassId) (a : Int64) (b : Int64) (p_9 : Int32) (ha : ∃ x, x < 2 ^ 62 ∧ a = lN x) (hb_9 : ∃ y, 0 < y ∧ y < 2 ^ 31 ∧ b = lN y) : jSl D cI cB l yX5_partOf wsX5_partOf 1 [.long a, .long b, .int p_9] ([] : va_W) (fun r => r = it_ a b p_9) := by
  refine jSl.of (cc := cX5_partOf) (maxL := 5) (ret := (some .long)) okX5_partOf (Nat.le_of_ble_eq_true rfl) ?_
  intro p e s m below meth c ls hx hb hr hts hown hlk hml hP hK hl
  replace hown : s.vm.findClass RX5 = some m.cls := hown
  replace hl : lv_has ls 5 [(0, .long a), (2, .long b), (4, .int p_9)] := hl
  obtain ⟨a0, ha0, rfl⟩ := ha
  obtain ⟨b0, hb1, hb0, rfl⟩ := hb_9
  replace hl : lv_has ls 5 [(0, .long (lN a0)), (2, .long (lN b0)), (4, .int p_9)] := hl
  refine lv_iload hx hb dX5_partOf_0 (lv_at hl 2 rfl) ?_
  refine lv_if_ne (tgt := 9) hx hb dX5_partOf_2 (by decide) (fun c_2 => ?_) (fun c_2 => ?_)
  · skip
    refine lv_lload_n hx hb dX5_partOf_9 rfl (lv_at hl 1 rfl) ?_
    refine lv_lload_n hx hb dX5_partOf_10 rfl (lv_at hl 0 rfl) ?_
    refine lv_lload_n hx hb dX5_partOf_11 rfl (lv_at hl 1 rfl) ?_
    refine kSlS hx hb hml hown hts hK hP gX5_partOf_X5_divisor okX5_divisor (qX5_divisor l D cI cB (lN a0) (lN b0) ⟨a0, ha0, rfl⟩ ⟨b0, hb0, rfl⟩) [] rfl (by decide) hl.1 rfl rfl (Nat.le_of_ble_eq_true rfl) dX5_partOf_12 (by decide) (fun r_1 hr_2 => ?_)
    replace hr_2 : r_1 = gc_ 128 (lN a0) (lN b0) := hr_2
    subst r_1
    refine lv_ldiv hx hb dX5_partOf_15 (gc_nz (by omega) (by omega) hb1) ?_
    refine rSl hx hb hr hlk ?_ dX5_partOf_16
    show ((lN b0) / (gc_ 128 (lN a0) (lN b0))) = _
    rw [it_eq (by omega) (by omega) hb1]; first | rw [if_pos c_2] | rw [if_neg c_2]
  · skip
    refine lv_lload_n hx hb dX5_partOf_5 rfl (lv_at hl 0 rfl) ?_
    refine lv_goto (tgt := 10) hx hb dX5_partOf_6 (by decide) ?_
    refine lv_lload_n hx hb dX5_partOf_10 rfl (lv_at hl 0 rfl) ?_
    refine lv_lload_n hx hb dX5_partOf_11 rfl (lv_at hl 1 rfl) ?_
    refine kSlS hx hb hml hown hts hK hP gX5_partOf_X5_divisor okX5_divisor (qX5_divisor l D cI cB (lN a0) (lN b0) ⟨a0, ha0, rfl⟩ ⟨b0, hb0, rfl⟩) [] rfl (by decide) hl.1 rfl rfl (Nat.le_of_ble_eq_true rfl) dX5_partOf_12 (by decide) (fun r_3 hr_4 => ?_)
    replace hr_4 : r_3 = gc_ 128 (lN a0) (lN b0) := hr_4
    subst r_3
    refine lv_ldiv hx hb dX5_partOf_15 (gc_nz (by omega) (by omega) hb1) ?_
    refine rSl hx hb hr hlk ?_ dX5_partOf_16
    show ((lN a0) / (gc_ 128 (lN a0) (lN b0))) = _
    rw [it_eq (by omega) (by omega) hb1]; first | rw [if_pos c_2] | rw [if_neg c_2]

theorem okX5_draw : jok yX5_draw wsX5_draw cX5_draw 2 (some .int) 1 := ⟨⟨_, rfl⟩, by decide +kernel, by decide +kernel⟩
set_option maxHeartbeats 2000000 in
set_option maxRecDepth 100000 in
theorem qX5_draw (l : Launch) (D : va_G) (cI cB : ClassId) (r : Nat → Nat) (B : BayT) (M : MT) (n : Int32) (hn : ¬ n = 0) : jMi D cI cB l yX5_draw wsX5_draw 0 [.ref (r 0), .int n] (mW cI r B M) (S := Unit) (fun r u => r = dz_ (nz_ (mlo_ M)) n) (fun u => mW cI r B (ulo_ M (nz_ (mlo_ M)))) := by
  refine jMi.of (cc := cX5_draw) (maxL := 2) (ret := (some .int)) okX5_draw (Nat.le_of_ble_eq_true rfl) ?_
  intro p e s m below meth c ls A hx hb hr hts hown hlk hml hP hK hD hA hS hl
  replace hown : s.vm.findClass RX5 = some m.cls := hown
  replace hl : lv_has ls 2 [(0, .ref (r 0)), (1, .int n)] := hl
  have hinX5 : ∀ w ∈ wsX50, w ∈ wsX5_draw := by decide +kernel
  refine lv_aload_n hx hb dX5_draw_0 rfl (lv_at hl 0 rfl) ?_
  refine lv_aload_n hx hb dX5_draw_1 rfl (lv_at hl 0 rfl) ?_
  refine va_get (ci := 5) (C := RX5) (T := TX5) (N := 33) hx hb hts hinX5 hown hK.1 hP 0 rfl rfl 32 (by decide) (hts _ (List.mem_of_getElem? (i := 1) rfl)) (fun _ h9 => h9) rfl dX5_draw_2 ?_
  refine lv_ldcw hx hb hown (hts _ (List.mem_of_getElem? (i := 2) rfl)) dX5_draw_5 ?_
  refine lv_imul hx hb dX5_draw_8 ?_
  refine lv_sipush (v := 12345) hx hb dX5_draw_9 (by decide) ?_
  refine lv_iadd hx hb dX5_draw_12 ?_
  refine sti (x := ((mlo_ M) * 1103515245) + 12345) (y := nz_ (mlo_ M)) ((nz_eq _).symm) ?_
  refine lv_topi (fun y_1 ey_1 => ?_)
  replace ey_1 : y_1 = nz_ (mlo_ M) := ey_1
  refine va_put (ci := 5) (ty := .int) (C := RX5) (T := TX5) (N := 33) hx hb hts hinX5 tyX5 tyX5_ok nmX5 hown hK.1 hP hD hS 0 rfl rfl 32 (by decide) (hts _ (List.mem_of_getElem? (i := 1) rfl)) (fun _ h9 => h9) rfl (by decide +kernel) (rfl) (rfl) (Nat.le_of_ble_eq_true rfl) dX5_draw_13 (fun H locs hP hD hS => ?_)
  replace hP : va_P D vwCl ([(r 0, .inr (5, [.ref (r 1), .ref (r 2), .ref (r 3), .ref (r 4), .ref (r 5), .ref (r 6), .int (nI (sn_ B)), .int (qt_ B), .int (il_ B), .int (pa_ B), .int (ho_ B), .int (dy_ B), .ref (r 13), .ref (r 14), .ref (r 15), .ref (r 16), .int (nI (mtn_ M)), .int (nI (mrd_ M)), .int (nI (msm_ M)), .ref (r 20), .int (mhi_ M), .int (mik_ M), .int (nI (mcu_ M)), .int (nI (mbk_ M)), .ref (r 25), .ref (r 26), .int (mlw_ M), .int (mhg_ M), .int (msl_ M), .ref (r 30), .int (nI (mrm_ M)), .ref (r 32), .int (y_1)])), (r 1, .inl (cI, 7, .inl (mrf_ M))), (r 2, .inl (cI, 7, .inl (kd_ B))), (r 3, .inl (cI, 7, .inl (fg_ B))), (r 4, .inl (cI, 7, .inl (pl_ B))), (r 5, .inl (cI, 7, .inl (pw_ B))), (r 6, .inl (cI, 7, .inl (jy_ B))), (r 13, .inl (cI, 96, .inl (mtp_ M))), (r 14, .inl (cI, 48, .inl (mlt_ M))), (r 15, .inl (cI, 48, .inl (mla_ M))), (r 16, .inl (cI, 144, .inl (mtd_ M))), (r 20, .inl (cI, 451, .inl (flatK (mkp_ M)))), (r 25, .inl (cI, 7, .inl (mof_ M))), (r 26, .inl (cI, 7, .inl (mfa_ M))), (r 30, .inl (cI, 12, .inl (mrw_ M))), (r 32, .inl (cI, 8, .inl (mhb_ M)))]) H := hP
  replace hD : va_D A ([(r 0, .inr (5, [.ref (r 1), .ref (r 2), .ref (r 3), .ref (r 4), .ref (r 5), .ref (r 6), .int (nI (sn_ B)), .int (qt_ B), .int (il_ B), .int (pa_ B), .int (ho_ B), .int (dy_ B), .ref (r 13), .ref (r 14), .ref (r 15), .ref (r 16), .int (nI (mtn_ M)), .int (nI (mrd_ M)), .int (nI (msm_ M)), .ref (r 20), .int (mhi_ M), .int (mik_ M), .int (nI (mcu_ M)), .int (nI (mbk_ M)), .ref (r 25), .ref (r 26), .int (mlw_ M), .int (mhg_ M), .int (msl_ M), .ref (r 30), .int (nI (mrm_ M)), .ref (r 32), .int (y_1)])), (r 1, .inl (cI, 7, .inl (mrf_ M))), (r 2, .inl (cI, 7, .inl (kd_ B))), (r 3, .inl (cI, 7, .inl (fg_ B))), (r 4, .inl (cI, 7, .inl (pl_ B))), (r 5, .inl (cI, 7, .inl (pw_ B))), (r 6, .inl (cI, 7, .inl (jy_ B))), (r 13, .inl (cI, 96, .inl (mtp_ M))), (r 14, .inl (cI, 48, .inl (mlt_ M))), (r 15, .inl (cI, 48, .inl (mla_ M))), (r 16, .inl (cI, 144, .inl (mtd_ M))), (r 20, .inl (cI, 451, .inl (flatK (mkp_ M)))), (r 25, .inl (cI, 7, .inl (mof_ M))), (r 26, .inl (cI, 7, .inl (mfa_ M))), (r 30, .inl (cI, 12, .inl (mrw_ M))), (r 32, .inl (cI, 8, .inl (mhb_ M)))]) := hD
  refine lv_aload_n hx hb dX5_draw_16 rfl (lv_at hl 0 rfl) ?_
  refine va_get (ci := 5) (C := RX5) (T := TX5) (N := 33) hx hb hts hinX5 hown hK.1 hP 0 rfl rfl 32 (by decide) (hts _ (List.mem_of_getElem? (i := 1) rfl)) (fun _ h9 => h9) rfl dX5_draw_17 ?_
  refine lv_ldcw hx hb hown (hts _ (List.mem_of_getElem? (i := 3) rfl)) dX5_draw_20 ?_
  refine lv_iand hx hb dX5_draw_23 ?_
  refine lv_ldcw hx hb hown (hts _ (List.mem_of_getElem? (i := 4) rfl)) dX5_draw_24 ?_
  refine lv_idiv hx hb dX5_draw_27 (by decide) ?_
  refine lv_iload_n hx hb dX5_draw_28 rfl (lv_at hl 1 rfl) ?_
  refine lv_irem hx hb dX5_draw_29 (hn) ?_
  (try rw [ey_1] at hP); (try rw [ey_1] at hD); (try rw [ey_1] at hl); (try rw [ey_1])
  refine rMi hx hb hr hlk hS () hP ?_ dX5_draw_30
  rw [dz_eq]; exact dn_d _ _
