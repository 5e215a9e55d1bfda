theorem okX2_goesAsTold : jok yX2_goesAsTold wsX2_goesAsTold cX2_goesAsTold 5 (some .boolean) 2 := ⟨⟨_, rfl⟩, by decide +kernel, by decide +kernel⟩
set_option maxHeartbeats 1000000 in
set_option maxRecDepth 100000 in
theorem qX2_goesAsTold (l : Launch) (D : va_G) (cI cB : ClassId) (g : Nat → Nat) (B : BayT) (T : BayT) (f : Nat → Int32) (n : Nat) (hn7 : sn_ B ≤ 7) (hT7 : sn_ T ≤ 7) (hn : n ≤ 12) : jMi D cI cB l yX2_goesAsTold wsX2_goesAsTold 4 [.ref (g 1), .ref (g 16), .int (nI n)] (miO g ++ bW cI g 4 B ++ bW cI g 10 T ++ [(g 16, .inl (cI, 12, .inl f))]) (S := BayT) (fun r u => r = b1 (ro_ f T n 0 = true)) (fun u => miO g ++ bW cI g 4 B ++ bW cI g 10 u ++ [(g 16, .inl (cI, 12, .inl f))]) := by
  refine jMi.of (cc := cX2_goesAsTold) (maxL := 5) (ret := (some .boolean)) okX2_goesAsTold (Nat.le_of_ble_eq_true rfl) ?_
  intro p e s m below meth c ls A hx hb hr hts hown hlk hml hP hK hD hA hS hl
  replace hown : s.vm.findClass RX2 = some m.cls := hown
  replace hl : lv_has ls 5 [(0, .ref (g 1)), (1, .ref (g 16)), (2, .int (nI n))] := hl
  have hinX0 : ∀ w ∈ wsX00, w ∈ wsX2_goesAsTold := by decide +kernel
  have hinX2 : ∀ w ∈ wsX20, w ∈ wsX2_goesAsTold := by decide +kernel
  refine lv_aload_n hx hb dX2_goesAsTold_0 rfl (lv_at hl 0 rfl) ?_
  refine va_get (ci := 2) (C := RX2) (T := TX2) (N := 4) hx hb hts hinX2 hown hK.1 hP 0 rfl rfl 1 (by decide) (hts _ (List.mem_of_getElem? (i := 1) rfl)) (fun _ h9 => h9) rfl dX2_goesAsTold_1 ?_
  refine lv_astore_n (lv' := [(3, .ref (g 10)), (0, .ref (g 1)), (1, .ref (g 16)), (2, .int (nI n))]) hx hb dX2_goesAsTold_4 rfl hl (by decide) rfl (fun ls hl => ?_)
  refine lv_iconst (v := 0) hx hb dX2_goesAsTold_5 (by decide) ?_
  refine lv_istore (lv' := [(4, .int 0), (3, .ref (g 10)), (0, .ref (g 1)), (1, .ref (g 16)), (2, .int (nI n))]) hx hb dX2_goesAsTold_6 hl (by decide) rfl (fun ls hl => ?_)
  have lp_8 : ∀ (fu_8 : Nat) (i : Nat) (x4_8 : Int32) (T2 : BayT), (x4_8 = nI i) → (T2 = hs_ i T) → (i ≤ n) → (ro_ f T (n - i) i = ro_ f T n 0) → n - i < fu_8 → ∀ (H : Heap) (locs : List Loc), va_P D vwCl (miO g ++ bW cI g 4 B ++ bW cI g 10 T2 ++ [(g 16, .inl (cI, 12, .inl f))]) H → va_D A (miO g ++ bW cI g 4 B ++ bW cI g 10 T2 ++ [(g 16, .inl (cI, 12, .inl f))]) → va_S A s.heap H locs → ∀ ls : Array Slot, lv_has ls 5 [(4, .int x4_8), (3, .ref (g 10)), (0, .ref (g 1)), (1, .ref (g 16)), (2, .int (nI n))] → W p l e (jR 4) s m ([.ref (g 1), .ref (g 16), .int (nI n)] : List Value).toArray below meth c H locs 0 0 (MQ below (va_Qi (S := BayT) (fun r u => r = b1 (ro_ f T n 0 = true)) (fun u t => va_P D vwCl ((fun u => miO g ++ bW cI g 4 B ++ bW cI g 10 u ++ [(g 16, .inl (cI, 12, .inl f))]) u) t.heap) A) ([.ref (g 1), .ref (g 16), .int (nI n)] : List Value).toArray s 0 0 A) (F0 m 8 ls []) := by
    intro fu_8
    induction fu_8 with
    | zero => intro i x4_8 T2 hx4_8 hT2 hi hre hfu; exact absurd hfu (Nat.not_lt_zero _)
    | succ fu_8 ih_8 =>
      intro i x4_8 T2 hx4_8 hT2 hi hre hfu_8 H locs hP hD hS ls hl
      subst x4_8
      subst T2
      replace hl : lv_has ls 5 [(4, .int (nI i)), (3, .ref (g 10)), (0, .ref (g 1)), (1, .ref (g 16)), (2, .int (nI n))] := hl
      replace hP : va_P D vwCl (miO g ++ bW cI g 4 B ++ bW cI g 10 (hs_ i T) ++ [(g 16, .inl (cI, 12, .inl f))]) H := hP
      replace hD : va_D A (miO g ++ bW cI g 4 B ++ bW cI g 10 (hs_ i T) ++ [(g 16, .inl (cI, 12, .inl f))]) := hD
      refine lv_iload hx hb dX2_goesAsTold_8 (lv_at hl 0 rfl) ?_
      refine lv_iload_n hx hb dX2_goesAsTold_10 rfl (lv_at hl 4 rfl) ?_
      refine lv_icmp_ge (tgt := 38) hx hb dX2_goesAsTold_11 (by decide) (fun c_11 => ?_) (fun c_11 => ?_)
      · replace c_11 : nI n ≤ nI i := c_11
        rw [jle (by omega) (by omega)] at c_11
        refine lv_iconst (v := 1) hx hb dX2_goesAsTold_38 (by decide) ?_
        refine rMz hx hb hr hlk hS (hs_ i T) hP (Or.inr rfl) ?_ dX2_goesAsTold_39
        rw [ro_0 (by omega)] at hre; exact (b1_t hre.symm).symm
      · replace c_11 : ¬ nI n ≤ nI i := c_11
        rw [jle (by omega) (by omega)] at c_11
        refine lv_aload_n hx hb dX2_goesAsTold_14 rfl (lv_at hl 3 rfl) ?_
        refine lv_iload hx hb dX2_goesAsTold_15 (lv_at hl 0 rfl) ?_
        refine jald hx hb hK.1 hP 13 0 i rfl rfl rfl (by omega) (Nat.le_of_ble_eq_true rfl) dX2_goesAsTold_17 ?_
        refine lv_aload_n hx hb dX2_goesAsTold_18 rfl (lv_at hl 1 rfl) ?_
        refine va_getN (ci := 0) (C := RX0) (T := TX0) (N := 11) hx hb hts hinX0 hown hK.1 hP 7 rfl rfl 7 (by decide) (va_Nw.use rfl (hK.2 _ (List.mem_of_getElem? (i := 15) rfl))) (fun _ h9 => h9) rfl dX2_goesAsTold_19 ?_
        refine lv_icmp_eq (tgt := 27) hx hb dX2_goesAsTold_22 (by decide) (fun c_22 => ?_) (fun c_22 => ?_)
        · skip
          refine lv_aload_n hx hb dX2_goesAsTold_27 rfl (lv_at hl 1 rfl) ?_
          refine lv_iconst (v := 0) hx hb dX2_goesAsTold_28 (by decide) ?_
          refine kMvN hx hb hml hown hts hK hP hD hA hS gX2_goesAsTold_X0_passHour_n40 (hK.2 _ (List.mem_of_getElem? (i := 85) rfl)) (hts _ (List.mem_of_getElem? (i := 3) rfl)) (hts _ (List.mem_of_getElem? (i := 2) rfl)) (hts _ (List.mem_of_getElem? (i := 4) rfl)) okX0_passHour (qX0_passHour l D cI cB g 10 (hs_ i T) False inferInstance (by show sn_ (hs_ _ _) ≤ 7; rw [sn_hs]; omega)) [7, 8, 9, 10, 11, 12] rfl (by decide) (fun _ => rfl) rfl rfl rfl (by decide) hl.1 rfl rfl (Nat.le_of_ble_eq_true rfl) dX2_goesAsTold_29 (by decide) (fun u_2 H locs hw_3 hP hD hS => ?_)
          replace hw_3 : u_2 = hb_ False (hs_ i T) := hw_3
          subst u_2
          replace hP : va_P D vwCl (miO g ++ bW cI g 4 B ++ bW cI g 10 (hb_ False (hs_ i T)) ++ [(g 16, .inl (cI, 12, .inl f))]) H := hP
          replace hD : va_D A (miO g ++ bW cI g 4 B ++ bW cI g 10 (hb_ False (hs_ i T)) ++ [(g 16, .inl (cI, 12, .inl f))]) := hD
          refine lv_iinc (v := (nI i) + 1) (lv' := [(4, .int ((nI i) + 1)), (3, .ref (g 10)), (0, .ref (g 1)), (1, .ref (g 16)), (2, .int (nI n))]) hx hb dX2_goesAsTold_32 hl (k := 0) rfl (by first | rfl | decide) (by decide) rfl (fun ls hl => ?_)
          refine lv_goto (tgt := 8) hx hb dX2_goesAsTold_35 (by decide) ?_
          exact ih_8 (i + 1) ((nI i) + 1) (hb_ False (hs_ i T)) (by first | rfl | exact nI_1 _) (rfl) (by omega) (by rw [ro_s (by omega), if_pos c_22] at hre; exact hre) (by omega) _ _ hP hD hS ls (lv_sub hl [0, 1, 2, 3, 4] rfl)
        · skip
          refine lv_iconst (v := 0) hx hb dX2_goesAsTold_25 (by decide) ?_
          refine rMz hx hb hr hlk hS (hs_ i T) hP (Or.inl rfl) ?_ dX2_goesAsTold_26
          rw [ro_s (by omega), if_neg c_22] at hre; exact (b1_f (by rw [← hre]; exact Bool.false_ne_true)).symm
  exact lp_8 (n + 1) 0 0 T (by first | rfl | exact nI_0.symm) (rfl) (by omega) (rfl) (by omega) _ _ hP hD hS ls (lv_sub hl [0, 1, 2, 3, 4] rfl)

theorem okX2_firstWrong : jok yX2_firstWrong wsX2_firstWrong cX2_firstWrong 6 (some .int) 2 := ⟨⟨_, rfl⟩, by decide +kernel, by decide +kernel⟩
set_option maxHeartbeats 1000000 in
set_option maxRecDepth 100000 in
theorem qX2_firstWrong (l : Launch) (D : va_G) (cI cB : ClassId) (g : Nat → Nat) (B : BayT) (T : BayT) (f : Nat → Int32) (n : Nat) (hn7 : sn_ B ≤ 7) (hn : n ≤ 12) : jMi D cI cB l yX2_firstWrong wsX2_firstWrong 4 [.ref (g 1), .ref (g 16), .int (nI n)] (miO g ++ bW cI g 4 B ++ bW cI g 10 T ++ [(g 16, .inl (cI, 12, .inl f))]) (S := BayT) (fun r u => r = oI_ (fx_ f B n 0)) (fun u => miO g ++ bW cI g 4 B ++ bW cI g 10 u ++ [(g 16, .inl (cI, 12, .inl f))]) := by
  refine jMi.of (cc := cX2_firstWrong) (maxL := 6) (ret := (some .int)) okX2_firstWrong (Nat.le_of_ble_eq_true rfl) ?_
  intro p e s m below meth c ls A hx hb hr hts hown hlk hml hP hK hD hA hS hl
  replace hown : s.vm.findClass RX2 = some m.cls := hown
  replace hl : lv_has ls 6 [(0, .ref (g 1)), (1, .ref (g 16)), (2, .int (nI n))] := hl
  have hinX0 : ∀ w ∈ wsX00, w ∈ wsX2_firstWrong := by decide +kernel
  refine lv_aload_n hx hb dX2_firstWrong_0 rfl (lv_at hl 0 rfl) ?_
  refine kMrV hx hb hml hown hts hK hP hD hA hS gX2_firstWrong_X2_asNow okX2_asNow (qX2_asNow l D cI cB g B T ) [0, 1, 2, 3, 4, 5, 6, 7, 8, 9, 10, 11, 12] rfl (by decide) (fun _ => rfl) rfl rfl rfl (by decide) hl.1 rfl rfl (Nat.le_of_ble_eq_true rfl) dX2_firstWrong_1 (by decide) (fun u_2 H locs hw_3 hP hD hS => ?_)
  replace hw_3 : u_2 = B := hw_3
  subst u_2
  replace hP : va_P D vwCl (miO g ++ bW cI g 4 B ++ bW cI g 10 (B) ++ [(g 16, .inl (cI, 12, .inl f))]) H := hP
  replace hD : va_D A (miO g ++ bW cI g 4 B ++ bW cI g 10 (B) ++ [(g 16, .inl (cI, 12, .inl f))]) := hD
  refine lv_astore_n (lv' := [(3, .ref (g 10)), (0, .ref (g 1)), (1, .ref (g 16)), (2, .int (nI n))]) hx hb dX2_firstWrong_4 rfl hl (by decide) rfl (fun ls hl => ?_)
  refine lv_iconst (v := 0) hx hb dX2_firstWrong_5 (by decide) ?_
  refine lv_istore (lv' := [(4, .int 0), (3, .ref (g 10)), (0, .ref (g 1)), (1, .ref (g 16)), (2, .int (nI n))]) hx hb dX2_firstWrong_6 hl (by decide) rfl (fun ls hl => ?_)
  have lp_8 : ∀ (fu_8 : Nat) (i : Nat) (x4_8 : Int32) (T2 : BayT), (x4_8 = nI i) → (T2 = hs_ i B) → (i ≤ n) → (fx_ f B (n - i) i = fx_ f B n 0) → n - i < fu_8 → ∀ (H : Heap) (locs : List Loc), va_P D vwCl (miO g ++ bW cI g 4 B ++ bW cI g 10 T2 ++ [(g 16, .inl (cI, 12, .inl f))]) H → va_D A (miO g ++ bW cI g 4 B ++ bW cI g 10 T2 ++ [(g 16, .inl (cI, 12, .inl f))]) → va_S A s.heap H locs → ∀ ls : Array Slot, lv_has ls 6 [(4, .int x4_8), (3, .ref (g 10)), (0, .ref (g 1)), (1, .ref (g 16)), (2, .int (nI n))] → W p l e (jR 4) s m ([.ref (g 1), .ref (g 16), .int (nI n)] : List Value).toArray below meth c H locs 0 0 (MQ below (va_Qi (S := BayT) (fun r u => r = oI_ (fx_ f B n 0)) (fun u t => va_P D vwCl ((fun u => miO g ++ bW cI g 4 B ++ bW cI g 10 u ++ [(g 16, .inl (cI, 12, .inl f))]) u) t.heap) A) ([.ref (g 1), .ref (g 16), .int (nI n)] : List Value).toArray s 0 0 A) (F0 m 8 ls []) := by
    intro fu_8
    induction fu_8 with
    | zero => intro i x4_8 T2 hx4_8 hT2 hi hre hfu; exact absurd hfu (Nat.not_lt_zero _)
    | succ fu_8 ih_8 =>
      intro i x4_8 T2 hx4_8 hT2 hi hre hfu_8 H locs hP hD hS ls hl
      subst x4_8
      subst T2
      replace hl : lv_has ls 6 [(4, .int (nI i)), (3, .ref (g 10)), (0, .ref (g 1)), (1, .ref (g 16)), (2, .int (nI n))] := hl
      replace hP : va_P D vwCl (miO g ++ bW cI g 4 B ++ bW cI g 10 (hs_ i B) ++ [(g 16, .inl (cI, 12, .inl f))]) H := hP
      replace hD : va_D A (miO g ++ bW cI g 4 B ++ bW cI g 10 (hs_ i B) ++ [(g 16, .inl (cI, 12, .inl f))]) := hD
      refine lv_iload hx hb dX2_firstWrong_8 (lv_at hl 0 rfl) ?_
      refine lv_iload_n hx hb dX2_firstWrong_10 rfl (lv_at hl 4 rfl) ?_
      refine lv_icmp_ge (tgt := 59) hx hb dX2_firstWrong_11 (by decide) (fun c_11 => ?_) (fun c_11 => ?_)
      · replace c_11 : nI n ≤ nI i := c_11
        rw [jle (by omega) (by omega)] at c_11
        refine lv_bipush (v := (-9)) hx hb dX2_firstWrong_59 (by decide) ?_
        refine rMi hx hb hr hlk hS (hs_ i B) hP ?_ dX2_firstWrong_61
        rw [fx_0 (by omega)] at hre; rw [← hre]; rfl
      · replace c_11 : ¬ nI n ≤ nI i := c_11
        rw [jle (by omega) (by omega)] at c_11
        refine lv_aload_n hx hb dX2_firstWrong_14 rfl (lv_at hl 1 rfl) ?_
        refine lv_aload_n hx hb dX2_firstWrong_15 rfl (lv_at hl 1 rfl) ?_
        refine va_getN (ci := 0) (C := RX0) (T := TX0) (N := 11) hx hb hts hinX0 hown hK.1 hP 7 rfl rfl 9 (by decide) (va_Nw.use rfl (hK.2 _ (List.mem_of_getElem? (i := 19) rfl))) (fun _ h9 => h9) rfl dX2_firstWrong_16 ?_
        refine kSiN hx hb hml hown hts hK hP gX2_firstWrong_X0_loudestAt_n137 (hK.2 _ (List.mem_of_getElem? (i := 116) rfl)) (hts _ (List.mem_of_getElem? (i := 9) rfl)) (hts _ (List.mem_of_getElem? (i := 27) rfl)) (hts _ (List.mem_of_getElem? (i := 28) rfl)) okX0_loudestAt (qX0_loudestAt l D cI cB g 10 (hs_ i B) (ho_ (hs_ i B)) (by show sn_ (hs_ _ _) ≤ 7; rw [sn_hs]; omega)) [7, 8, 9, 10, 11, 12] rfl rfl rfl rfl (by decide) hl.1 rfl rfl (Nat.le_of_ble_eq_true rfl) dX2_firstWrong_19 (by decide) (fun r_4 hr_5 => ?_)
        replace hr_5 : r_4 = oI_ (lt_ (hs_ i B) (ho_ (hs_ i B))) := hr_5
        subst r_4
        refine lv_istore (lv' := [(5, .int (oI_ (lt_ (hs_ i B) (ho_ (hs_ i B))))), (4, .int (nI i)), (3, .ref (g 10)), (0, .ref (g 1)), (1, .ref (g 16)), (2, .int (nI n))]) hx hb dX2_firstWrong_22 hl (by decide) rfl (fun ls hl => ?_)
        rcases hL : lt_ (hs_ i B) (ho_ (hs_ i B)) with _ | t
        · rw [hL] at hl
          replace hl : lv_has ls 6 [(5, .int (-9)), (4, .int (nI i)), (3, .ref (g 10)), (0, .ref (g 1)), (1, .ref (g 16)), (2, .int (nI n))] := hl
          refine lv_aload_n hx hb dX2_firstWrong_24 rfl (lv_at hl 4 rfl) ?_
          refine lv_iload hx hb dX2_firstWrong_25 (lv_at hl 1 rfl) ?_
          refine jald hx hb hK.1 hP 13 0 i rfl rfl rfl (by omega) (Nat.le_of_ble_eq_true rfl) dX2_firstWrong_27 ?_
          refine lv_iload hx hb dX2_firstWrong_28 (lv_at hl 0 rfl) ?_
          refine lv_bipush (v := (-9)) hx hb dX2_firstWrong_30 (by decide) ?_
          refine lv_icmp_ne (tgt := 40) hx hb dX2_firstWrong_32 (by decide) (fun q => absurd q (by decide)) (fun _ => ?_)
          refine lv_bipush (v := 9) hx hb dX2_firstWrong_35 (by decide) ?_
          refine lv_goto (tgt := 42) hx hb dX2_firstWrong_37 (by decide) ?_
          refine lv_icmp_eq (tgt := 48) hx hb dX2_firstWrong_42 (by decide) (fun c_42 => ?_) (fun c_42 => ?_)
          · skip
            refine lv_aload_n hx hb dX2_firstWrong_48 rfl (lv_at hl 2 rfl) ?_
            refine lv_iconst (v := 0) hx hb dX2_firstWrong_49 (by decide) ?_
            refine kMvN hx hb hml hown hts hK hP hD hA hS gX2_firstWrong_X0_passHour_n40 (hK.2 _ (List.mem_of_getElem? (i := 85) rfl)) (hts _ (List.mem_of_getElem? (i := 9) rfl)) (hts _ (List.mem_of_getElem? (i := 58) rfl)) (hts _ (List.mem_of_getElem? (i := 59) rfl)) okX0_passHour (qX0_passHour l D cI cB g 10 (hs_ i B) False inferInstance (by show sn_ (hs_ _ _) ≤ 7; rw [sn_hs]; omega)) [7, 8, 9, 10, 11, 12] rfl (by decide) (fun _ => rfl) rfl rfl rfl (by decide) hl.1 rfl rfl (Nat.le_of_ble_eq_true rfl) dX2_firstWrong_50 (by decide) (fun u_7 H locs hw_8 hP hD hS => ?_)
            replace hw_8 : u_7 = hb_ False (hs_ i B) := hw_8
            subst u_7
            replace hP : va_P D vwCl (miO g ++ bW cI g 4 B ++ bW cI g 10 (hb_ False (hs_ i B)) ++ [(g 16, .inl (cI, 12, .inl f))]) H := hP
            replace hD : va_D A (miO g ++ bW cI g 4 B ++ bW cI g 10 (hb_ False (hs_ i B)) ++ [(g 16, .inl (cI, 12, .inl f))]) := hD
            refine lv_iinc (v := (nI i) + 1) (lv' := [(4, .int ((nI i) + 1)), (5, .int (-9)), (3, .ref (g 10)), (0, .ref (g 1)), (1, .ref (g 16)), (2, .int (nI n))]) hx hb dX2_firstWrong_53 hl (k := 1) rfl (by first | rfl | decide) (by decide) rfl (fun ls hl => ?_)
            refine lv_goto (tgt := 8) hx hb dX2_firstWrong_56 (by decide) ?_
            exact ih_8 (i + 1) ((nI i) + 1) (hb_ False (hs_ i B)) (by first | rfl | exact nI_1 _) (rfl) (by omega) (by rw [fx_s (by omega), if_pos (by rw [hL]; exact c_42)] at hre; exact hre) (by omega) _ _ hP hD hS ls (lv_sub hl [0, 2, 3, 4, 5] rfl)
          · skip
            refine lv_iload hx hb dX2_firstWrong_45 (lv_at hl 1 rfl) ?_
            refine rMi hx hb hr hlk hS (hs_ i B) hP ?_ dX2_firstWrong_47
            rw [fx_s (by omega), if_neg (by rw [hL]; exact c_42)] at hre; rw [← hre]; rfl
        · rw [hL] at hl
          replace hl : lv_has ls 6 [(5, .int (nI t)), (4, .int (nI i)), (3, .ref (g 10)), (0, .ref (g 1)), (1, .ref (g 16)), (2, .int (nI n))] := hl
          have ht : t < sn_ B := by have := (lo_lt _ _ hL).1; rw [sn_hs] at this; exact this
          refine lv_aload_n hx hb dX2_firstWrong_24 rfl (lv_at hl 4 rfl) ?_
          refine lv_iload hx hb dX2_firstWrong_25 (lv_at hl 1 rfl) ?_
          refine jald hx hb hK.1 hP 13 0 i rfl rfl rfl (by omega) (Nat.le_of_ble_eq_true rfl) dX2_firstWrong_27 ?_
          refine lv_iload hx hb dX2_firstWrong_28 (lv_at hl 0 rfl) ?_
          refine lv_bipush (v := (-9)) hx hb dX2_firstWrong_30 (by decide) ?_
          refine lv_icmp_ne (tgt := 40) hx hb dX2_firstWrong_32 (by decide) (fun _ => ?_) (fun q => absurd q (nI_m9 (by omega)))
          refine lv_iload hx hb dX2_firstWrong_40 (lv_at hl 0 rfl) ?_
          refine lv_icmp_eq (tgt := 48) hx hb dX2_firstWrong_42 (by decide) (fun c_42 => ?_) (fun c_42 => ?_)
          · skip
            refine lv_aload_n hx hb dX2_firstWrong_48 rfl (lv_at hl 2 rfl) ?_
            refine lv_iconst (v := 0) hx hb dX2_firstWrong_49 (by decide) ?_
            refine kMvN hx hb hml hown hts hK hP hD hA hS gX2_firstWrong_X0_passHour_n40 (hK.2 _ (List.mem_of_getElem? (i := 85) rfl)) (hts _ (List.mem_of_getElem? (i := 9) rfl)) (hts _ (List.mem_of_getElem? (i := 58) rfl)) (hts _ (List.mem_of_getElem? (i := 59) rfl)) okX0_passHour (qX0_passHour l D cI cB g 10 (hs_ i B) False inferInstance (by show sn_ (hs_ _ _) ≤ 7; rw [sn_hs]; omega)) [7, 8, 9, 10, 11, 12] rfl (by decide) (fun _ => rfl) rfl rfl rfl (by decide) hl.1 rfl rfl (Nat.le_of_ble_eq_true rfl) dX2_firstWrong_50 (by decide) (fun u_10 H locs hw_11 hP hD hS => ?_)
            replace hw_11 : u_10 = hb_ False (hs_ i B) := hw_11
            subst u_10
            replace hP : va_P D vwCl (miO g ++ bW cI g 4 B ++ bW cI g 10 (hb_ False (hs_ i B)) ++ [(g 16, .inl (cI, 12, .inl f))]) H := hP
            replace hD : va_D A (miO g ++ bW cI g 4 B ++ bW cI g 10 (hb_ False (hs_ i B)) ++ [(g 16, .inl (cI, 12, .inl f))]) := hD
            refine lv_iinc (v := (nI i) + 1) (lv' := [(4, .int ((nI i) + 1)), (5, .int (nI t)), (3, .ref (g 10)), (0, .ref (g 1)), (1, .ref (g 16)), (2, .int (nI n))]) hx hb dX2_firstWrong_53 hl (k := 1) rfl (by first | rfl | decide) (by decide) rfl (fun ls hl => ?_)
            refine lv_goto (tgt := 8) hx hb dX2_firstWrong_56 (by decide) ?_
            exact ih_8 (i + 1) ((nI i) + 1) (hb_ False (hs_ i B)) (by first | rfl | exact nI_1 _) (rfl) (by omega) (by rw [fx_s (by omega), if_pos (by rw [hL]; exact c_42)] at hre; exact hre) (by omega) _ _ hP hD hS ls (lv_sub hl [0, 2, 3, 4, 5] rfl)
          · skip
            refine lv_iload hx hb dX2_firstWrong_45 (lv_at hl 1 rfl) ?_
            refine rMi hx hb hr hlk hS (hs_ i B) hP ?_ dX2_firstWrong_47
            rw [fx_s (by omega), if_neg (by rw [hL]; exact c_42)] at hre; rw [← hre]; rfl
  exact lp_8 (n + 1) 0 0 (B) (by first | rfl | exact nI_0.symm) (rfl) (by omega) (rfl) (by omega) _ _ hP hD hS ls (lv_sub hl [0, 1, 2, 3, 4] rfl)

theorem okX2_isSettled : jok yX2_isSettled wsX2_isSettled cX2_isSettled 2 (some .boolean) 1 := ⟨⟨_, rfl⟩, by decide +kernel, by decide +kernel⟩
set_option maxHeartbeats 1000000 in
set_option maxRecDepth 100000 in
theorem qX2_isSettled (l : Launch) (D : va_G) (cI cB : ClassId) (g : Nat → Nat) (f1 : Nat → Int32) (f2 : Nat → Int32) (j : Nat) (hj : j < 4) : jSi D cI cB l yX2_isSettled wsX2_isSettled 0 [.ref (g 1), .int (nI j)] (miO g ++ [(g 2, .inl (cI, 4, .inl f1))] ++ [(g 3, .inl (cI, 4, .inl f2))]) (fun r => r = b1 (tp_ f1 f2 j)) := by
  refine jSi.of (cc := cX2_isSettled) (maxL := 2) (ret := (some .boolean)) okX2_isSettled (Nat.le_of_ble_eq_true rfl) ?_
  intro p e s m below meth c ls hx hb hr hts hown hlk hml hP hK hl
  replace hown : s.vm.findClass RX2 = some m.cls := hown
  replace hl : lv_has ls 2 [(0, .ref (g 1)), (1, .int (nI j))] := hl
  have hinX2 : ∀ w ∈ wsX20, w ∈ wsX2_isSettled := by decide +kernel
  refine lv_aload_n hx hb dX2_isSettled_0 rfl (lv_at hl 0 rfl) ?_
  refine va_get (ci := 2) (C := RX2) (T := TX2) (N := 4) hx hb hts hinX2 hown hK.1 hP 0 rfl rfl 2 (by decide) (hts _ (List.mem_of_getElem? (i := 1) rfl)) (fun _ h9 => h9) rfl dX2_isSettled_1 ?_
  refine lv_iload_n hx hb dX2_isSettled_4 rfl (lv_at hl 1 rfl) ?_
  refine jald hx hb hK.1 hP 1 0 j rfl rfl rfl (by omega) (Nat.le_of_ble_eq_true rfl) dX2_isSettled_5 ?_
  refine lv_aload_n hx hb dX2_isSettled_6 rfl (lv_at hl 0 rfl) ?_
  refine va_get (ci := 2) (C := RX2) (T := TX2) (N := 4) hx hb hts hinX2 hown hK.1 hP 0 rfl rfl 2 (by decide) (hts _ (List.mem_of_getElem? (i := 1) rfl)) (fun _ h9 => h9) rfl dX2_isSettled_7 ?_
  refine lv_iload_n hx hb dX2_isSettled_10 rfl (lv_at hl 1 rfl) ?_
  refine lv_iconst (v := 2) hx hb dX2_isSettled_11 (by decide) ?_
  refine lv_ixor hx hb dX2_isSettled_12 ?_
  refine jald hx hb hK.1 hP 1 0 (j ^^^ 2) rfl rfl (jx_ hj).1.1 (jx_ hj).1.2 (Nat.le_of_ble_eq_true rfl) dX2_isSettled_13 ?_
  refine lv_icmp_lt (tgt := 38) hx hb dX2_isSettled_14 (by decide) (fun c_14 => ?_) (fun c_14 => ?_)
  · have d_14 := Int32.not_le.mpr c_14
    refine lv_iconst (v := 0) hx hb dX2_isSettled_38 (by decide) ?_
    refine rSz hx hb hr hlk (Or.inl rfl) ?_ dX2_isSettled_39
    show 0 = _
    first | exact (b1_t ⟨Int32.not_lt.mp (by assumption), Int32.not_lt.mp (by assumption)⟩).symm | exact (b1_f (fun q => absurd c_14 (Int32.not_lt.mpr q.1))).symm | exact (b1_f (fun q => absurd c_31 (Int32.not_lt.mpr q.2))).symm
  · have d_14 := Int32.not_lt.mp c_14
    refine lv_aload_n hx hb dX2_isSettled_17 rfl (lv_at hl 0 rfl) ?_
    refine va_get (ci := 2) (C := RX2) (T := TX2) (N := 4) hx hb hts hinX2 hown hK.1 hP 0 rfl rfl 3 (by decide) (hts _ (List.mem_of_getElem? (i := 2) rfl)) (fun _ h9 => h9) rfl dX2_isSettled_18 ?_
    refine lv_iload_n hx hb dX2_isSettled_21 rfl (lv_at hl 1 rfl) ?_
    refine jald hx hb hK.1 hP 2 0 j rfl rfl rfl (by omega) (Nat.le_of_ble_eq_true rfl) dX2_isSettled_22 ?_
    refine lv_aload_n hx hb dX2_isSettled_23 rfl (lv_at hl 0 rfl) ?_
    refine va_get (ci := 2) (C := RX2) (T := TX2) (N := 4) hx hb hts hinX2 hown hK.1 hP 0 rfl rfl 3 (by decide) (hts _ (List.mem_of_getElem? (i := 2) rfl)) (fun _ h9 => h9) rfl dX2_isSettled_24 ?_
    refine lv_iload_n hx hb dX2_isSettled_27 rfl (lv_at hl 1 rfl) ?_
    refine lv_iconst (v := 1) hx hb dX2_isSettled_28 (by decide) ?_
    refine lv_ixor hx hb dX2_isSettled_29 ?_
    refine jald hx hb hK.1 hP 2 0 (j ^^^ 1) rfl rfl (jx_ hj).2.1 (jx_ hj).2.2 (Nat.le_of_ble_eq_true rfl) dX2_isSettled_30 ?_
    refine lv_icmp_lt (tgt := 38) hx hb dX2_isSettled_31 (by decide) (fun c_31 => ?_) (fun c_31 => ?_)
    · have d_31 := Int32.not_le.mpr c_31
      refine lv_iconst (v := 0) hx hb dX2_isSettled_38 (by decide) ?_
      refine rSz hx hb hr hlk (Or.inl rfl) ?_ dX2_isSettled_39
      show 0 = _
      first | exact (b1_t ⟨Int32.not_lt.mp (by assumption), Int32.not_lt.mp (by assumption)⟩).symm | exact (b1_f (fun q => absurd c_14 (Int32.not_lt.mpr q.1))).symm | exact (b1_f (fun q => absurd c_31 (Int32.not_lt.mpr q.2))).symm
    · have d_31 := Int32.not_lt.mp c_31
      refine lv_iconst (v := 1) hx hb dX2_isSettled_34 (by decide) ?_
      refine lv_goto (tgt := 39) hx hb dX2_isSettled_35 (by decide) ?_
      refine rSz hx hb hr hlk (Or.inr rfl) ?_ dX2_isSettled_39
      show 1 = _
      first | exact (b1_t ⟨Int32.not_lt.mp (by assumption), Int32.not_lt.mp (by assumption)⟩).symm | exact (b1_f (fun q => absurd c_14 (Int32.not_lt.mpr q.1))).symm | exact (b1_f (fun q => absurd c_31 (Int32.not_lt.mpr q.2))).symm

theorem okX2_firstSettled : jok yX2_firstSettled wsX2_firstSettled cX2_firstSettled 2 (some .int) 0 := ⟨⟨_, rfl⟩, by decide +kernel, by decide +kernel⟩
set_option maxHeartbeats 1000000 in
set_option maxRecDepth 100000 in
theorem qX2_firstSettled (l : Launch) (D : va_G) (cI cB : ClassId) (g : Nat → Nat) (f1 : Nat → Int32) (f2 : Nat → Int32)  : jSi D cI cB l yX2_firstSettled wsX2_firstSettled 1 [.ref (g 1)] (miO g ++ [(g 2, .inl (cI, 4, .inl f1))] ++ [(g 3, .inl (cI, 4, .inl f2))]) (fun r => r = vs_ (fz_ f1 f2 4 0)) := by
  refine jSi.of (cc := cX2_firstSettled) (maxL := 2) (ret := (some .int)) okX2_firstSettled (Nat.le_of_ble_eq_true rfl) ?_
  intro p e s m below meth c ls hx hb hr hts hown hlk hml hP hK hl
  replace hown : s.vm.findClass RX2 = some m.cls := hown
  replace hl : lv_has ls 2 [(0, .ref (g 1))] := hl
  refine lv_iconst (v := 0) hx hb dX2_firstSettled_0 (by decide) ?_
  refine lv_istore_n (lv' := [(1, .int 0), (0, .ref (g 1))]) hx hb dX2_firstSettled_1 rfl hl (by decide) rfl (fun ls hl => ?_)
  have lp_2 : ∀ (fu_2 : Nat) (i : Nat) (x1_2 : Int32) , (x1_2 = nI i) → (i ≤ 4) → (fz_ f1 f2 (4 - i) i = fz_ f1 f2 4 0) → 4 - i < fu_2 → ∀ ls : Array Slot, lv_has ls 2 [(1, .int x1_2), (0, .ref (g 1))] → W p l e (jR 1) s m ([.ref (g 1)] : List Value).toArray below meth c s.heap [] 0 0 (MQ below (vp_Si (fun r => r = vs_ (fz_ f1 f2 4 0))) ([.ref (g 1)] : List Value).toArray s 0 0 (fun _ => False)) (F0 m 2 ls []) := by
    intro fu_2
    induction fu_2 with
    | zero => intro i x1_2 hx1_2 hi hre hfu; exact absurd hfu (Nat.not_lt_zero _)
    | succ fu_2 ih_2 =>
      intro i x1_2 hx1_2 hi hre hfu_2 ls hl
      subst x1_2
      replace hl : lv_has ls 2 [(1, .int (nI i)), (0, .ref (g 1))] := hl
      refine lv_iload_n hx hb dX2_firstSettled_2 rfl (lv_at hl 0 rfl) ?_
      refine lv_iconst (v := 4) hx hb dX2_firstSettled_3 (by decide) ?_
      refine lv_icmp_ge (tgt := 32) hx hb dX2_firstSettled_4 (by decide) (fun c_4 => ?_) (fun c_4 => ?_)
      · replace c_4 : nI 4 ≤ nI i := c_4
        rw [jle (by omega) (by omega)] at c_4
        refine lv_bipush (v := (-9)) hx hb dX2_firstSettled_32 (by decide) ?_
        refine rSi hx hb hr hlk ?_ dX2_firstSettled_34
        show (-9) = _
        rw [fz_0 (by omega)] at hre; rw [← hre]; rfl
      · replace c_4 : ¬ nI 4 ≤ nI i := c_4
        rw [jle (by omega) (by omega)] at c_4
        refine lv_aload_n hx hb dX2_firstSettled_7 rfl (lv_at hl 1 rfl) ?_
        refine lv_iload_n hx hb dX2_firstSettled_8 rfl (lv_at hl 0 rfl) ?_
        refine kSiV hx hb hml hown hts hK hP gX2_firstSettled_X2_isSettled okX2_isSettled (qX2_isSettled l D cI cB g f1 f2 i (by omega)) [0, 1, 2] rfl rfl rfl rfl (by decide) hl.1 rfl rfl (Nat.le_of_ble_eq_true rfl) dX2_firstSettled_9 (by decide) (fun r_1 hr_2 => ?_)
        replace hr_2 : r_1 = b1 (tp_ f1 f2 i) := hr_2
        subst r_1
        refine lv_if_eq (tgt := 26) hx hb dX2_firstSettled_12 (by decide) (fun c_12 => ?_) (fun c_12 => ?_)
        · replace c_12 := b1_z c_12
          refine lv_iinc (v := (nI i) + 1) (lv' := [(1, .int ((nI i) + 1)), (0, .ref (g 1))]) hx hb dX2_firstSettled_26 hl (k := 0) rfl (by first | rfl | decide) (by decide) rfl (fun ls hl => ?_)
          refine lv_goto (tgt := 2) hx hb dX2_firstSettled_29 (by decide) ?_
          exact ih_2 (i + 1) ((nI i) + 1)  (by first | rfl | exact nI_1 _) (by omega) (by rw [fz_s (by omega), if_neg c_12] at hre; exact hre) (by omega) ls (lv_sub hl [0, 1] rfl)
        · replace c_12 := b1_n c_12
          refine lv_bipush (v := 10) hx hb dX2_firstSettled_15 (by decide) ?_
          refine lv_iload_n hx hb dX2_firstSettled_17 rfl (lv_at hl 0 rfl) ?_
          refine lv_iconst (v := 2) hx hb dX2_firstSettled_18 (by decide) ?_
          refine lv_idiv hx hb dX2_firstSettled_19 (by decide) ?_
          refine lv_imul hx hb dX2_firstSettled_20 ?_
          refine lv_iload_n hx hb dX2_firstSettled_21 rfl (lv_at hl 0 rfl) ?_
          refine lv_iconst (v := 2) hx hb dX2_firstSettled_22 (by decide) ?_
          refine lv_irem hx hb dX2_firstSettled_23 (by decide) ?_
          refine lv_iadd hx hb dX2_firstSettled_24 ?_
          refine rSi hx hb hr hlk ?_ dX2_firstSettled_25
          show ((10 * ((nI i) / 2)) + ((nI i) - (nI i) / 2 * 2)) = _
          rw [fz_s (by omega), if_pos c_12] at hre; rw [← hre]; rfl
  exact lp_2 (4 + 1) 0 0  (by first | rfl | exact nI_0.symm) (by omega) (rfl) (by omega) ls (lv_sub hl [0, 1] rfl)

theorem okX2_nextSeed : jok yX2_nextSeed wsX2_nextSeed cX2_nextSeed 1 (some .int) 1 := ⟨⟨_, rfl⟩, by decide +kernel, by decide +kernel⟩
set_option maxHeartbeats 1000000 in
set_option maxRecDepth 100000 in
theorem qX2_nextSeed (l : Launch) (D : va_G) (cI cB : ClassId) (z : Int32)  : jSi D cI cB l yX2_nextSeed wsX2_nextSeed 0 [.int z] ([] : va_W) (fun r => r = ns_ z) := by
  refine jSi.of (cc := cX2_nextSeed) (maxL := 1) (ret := (some .int)) okX2_nextSeed (Nat.le_of_ble_eq_true rfl) ?_
  intro p e s m below meth c ls hx hb hr hts hown hlk hml hP hK hl
  replace hown : s.vm.findClass RX2 = some m.cls := hown
  replace hl : lv_has ls 1 [(0, .int z)] := hl
  refine lv_iload_n hx hb dX2_nextSeed_0 rfl (lv_at hl 0 rfl) ?_
  refine lv_ldc hx hb hown (hts _ (List.mem_of_getElem? (i := 1) rfl)) dX2_nextSeed_1 ?_
  refine lv_imul hx hb dX2_nextSeed_3 ?_
  refine lv_sipush (v := 12345) hx hb dX2_nextSeed_4 (by decide) ?_
  refine lv_iadd hx hb dX2_nextSeed_7 ?_
  refine rSi hx hb hr hlk ?_ dX2_nextSeed_8
  show ((z * 1103515245) + 12345) = _
  rfl

theorem okX2_drawn : jok yX2_drawn wsX2_drawn cX2_drawn 2 (some .int) 2 := ⟨⟨_, rfl⟩, by decide +kernel, by decide +kernel⟩
set_option maxHeartbeats 1000000 in
set_option maxRecDepth 100000 in
theorem qX2_drawn (l : Launch) (D : va_G) (cI cB : ClassId) (z : Int32) (n : Int32) (hn : ¬ n < 1) : jSi D cI cB l yX2_drawn wsX2_drawn 0 [.int z, .int n] ([] : va_W) (fun r => r = dn_ z n) := by
  refine jSi.of (cc := cX2_drawn) (maxL := 2) (ret := (some .int)) okX2_drawn (Nat.le_of_ble_eq_true rfl) ?_
  intro p e s m below meth c ls hx hb hr hts hown hlk hml hP hK hl
  replace hown : s.vm.findClass RX2 = some m.cls := hown
  replace hl : lv_has ls 2 [(0, .int z), (1, .int n)] := hl
  refine lv_iload_n hx hb dX2_drawn_0 rfl (lv_at hl 1 rfl) ?_
  refine lv_iconst (v := 1) hx hb dX2_drawn_1 (by decide) ?_
  refine lv_icmp_ge (tgt := 9) hx hb dX2_drawn_2 (by decide) (fun c_2 => ?_) (fun c_2 => absurd (Int32.not_le.mp c_2) hn)
  have hn0 : ¬ n = 0 := fun q => absurd (q ▸ c_2 : (1 : Int32) ≤ 0) (by decide)
  refine lv_iload_n hx hb dX2_drawn_9 rfl (lv_at hl 0 rfl) ?_
  refine lv_ldc hx hb hown (hts _ (List.mem_of_getElem? (i := 1) rfl)) dX2_drawn_10 ?_
  refine lv_iand hx hb dX2_drawn_12 ?_
  refine lv_bipush (v := 16) hx hb dX2_drawn_13 (by decide) ?_
  refine lv_ishr hx hb dX2_drawn_15 ?_
  refine lv_iload_n hx hb dX2_drawn_16 rfl (lv_at hl 1 rfl) ?_
  refine lv_irem hx hb dX2_drawn_17 (hn0) ?_
  refine rSi hx hb hr hlk ?_ dX2_drawn_18
  show (((z &&& 2147483647) >>> (16 &&& 31)) - ((z &&& 2147483647) >>> (16 &&& 31)) / n * n) = _
  rfl

