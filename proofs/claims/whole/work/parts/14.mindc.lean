theorem okX2_goesAsTold : jok yX2_goesAsTold wsX2_goesAsTold cX2_goesAsTold 5 (some .boolean) 2 := ⟨⟨_, rfl⟩, by decide +kernel, by decide +kernel⟩
set_option maxHeartbeats 1000000 in
set_option maxRecDepth 100000 in
theorem qX2_goesAsTold (l : Launch) (D : va_G) (cI cB : ClassId) (g : Nat → Nat) (B : BayT) (T : BayT) (f : Nat → Int32) (n : Nat) (hn7 : sn_ B ≤ 7) (hT7 : sn_ T ≤ 7) (hn : n ≤ 12) : jMi D cI cB l yX2_goesAsTold wsX2_goesAsTold 4 [.ref (g 1), .ref (g 16), .int (nI n)] (miO g ++ bW cI g 4 B ++ bW cI g 10 T ++ [(g 16, .inl (cI, 12, .inl f))]) (S := BayT) (fun r u => r = b1 (ro_ f T n 0 = true)) (fun u => miO g ++ bW cI g 4 B ++ bW cI g 10 u ++ [(g 16, .inl (cI, 12, .inl f))]) := by
  refine jMi.of (cc := cX2_goesAsTold) (maxL := 5) (ret := (some .boolean)) okX2_goesAsTold (Nat.le_of_ble_eq_true rfl) ?_
  intro p e s m below meth c ls A hx hb hr hts hown hlk hml hP hK hD hA hS hl
  replace hown : s.vm.findClass RX2 = some m.cls := hown
  replace hl : lv_has ls 5 [(0, .ref (g 1)), (1, .ref (g 16)), (2, .int (nI n))] := hl
  have hinX0 : ∀ w ∈ wsX00, w ∈ wsX2_goesAsTold := by decide +kernel
  have hinX2 : ∀ w ∈ wsX20, w ∈ wsX2_goesAsTold := by decide +kernel
  refine lv_aload_n hx hb dX2_goesAsTold_0 rfl (lv_at hl 0 rfl) ?_
  refine va_get (ci := 2) (C := RX2) (T := TX2) (N := 4) hx hb hts hinX2 hown hK.1 hP 0 rfl rfl 1 (by decide) (hts _ (List.mem_of_getElem? (i := 1) rfl)) (fun _ h9 => h9) rfl dX2_goesAsTold_1 ?_
  refine lv_astore_n (lv' := [(3, .ref (g 10)), (0, .ref (g 1)), (1, .ref (g 16)), (2, .int (nI n))]) hx hb dX2_goesAsTold_4 rfl hl (by decide) rfl (fun ls hl => ?_)
  refine lv_iconst (v := 0) hx hb dX2_goesAsTold_5 (by decide) ?_
  refine lv_istore (lv' := [(4, .int 0), (3, .ref (g 10)), (0, .ref (g 1)), (1, .ref (g 16)), (2, .int (nI n))]) hx hb dX2_goesAsTold_6 hl (by decide) rfl (fun ls hl => ?_)
  have lp_8 : ∀ (fu_8 : Nat) (i : Nat) (x4_8 : Int32) (T2 : BayT), (x4_8 = nI i) → (T2 = hs_ i T) → (i ≤ n) → (ro_ f T (n - i) i = ro_ f T n 0) → n - i < fu_8 → ∀ (H : Heap) (locs : List Loc), va_P D vwCl (miO g ++ bW cI g 4 B ++ bW cI g 10 T2 ++ [(g 16, .inl (cI, 12, .inl f))]) H → va_D A (miO g ++ bW cI g 4 B ++ bW cI g 10 T2 ++ [(g 16, .inl (cI, 12, .inl f))]) → va_S A s.heap H locs → ∀ ls : Array Slot, lv_has ls 5 [(4, .int x4_8), (3, .ref (g 10)), (0, .ref (g 1)), (1, .ref (g 16)), (2, .int (nI n))] → W p l e (jR 4) s m ([.ref (g 1), .ref (g 16), .int (nI n)] : List Value).toArray below meth c H locs 0 0 (MQ below (va_Qi (S := BayT) (fun r u => r = b1 (ro_ f T n 0 = true)) (fun u t => va_P D vwCl ((fun u => miO g ++ bW cI g 4 B ++ bW cI g 10 u ++ [(g 16, .inl (cI, 12, .inl f))]) u) t.heap) A) ([.ref (g 1), .ref (g 16), .int (nI n)] : List Value).toArray s 0 0 A) (F0 m 8 ls []) := by
    intro fu_8
    induction fu_8 with
    | zero => intro i x4_8 T2 hx4_8 hT2 hi hre hfu; exact absurd hfu (Nat.not_lt_zero _)
    | succ fu_8 ih_8 =>
      intro i x4_8 T2 hx4_8 hT2 hi hre hfu_8 H locs hP hD hS ls hl
      subst x4_8
      subst T2
      replace hl : lv_has ls 5 [(4, .int (nI i)), (3, .ref (g 10)), (0, .ref (g 1)), (1, .ref (g 16)), (2, .int (nI n))] := hl
      replace hP : va_P D vwCl (miO g ++ bW cI g 4 B ++ bW cI g 10 (hs_ i T) ++ [(g 16, .inl (cI, 12, .inl f))]) H := hP
      replace hD : va_D A (miO g ++ bW cI g 4 B ++ bW cI g 10 (hs_ i T) ++ [(g 16, .inl (cI, 12, .inl f))]) := hD
      refine lv_iload hx hb dX2_goesAsTold_8 (lv_at hl 0 rfl) ?_
      refine lv_iload_n hx hb dX2_goesAsTold_10 rfl (lv_at hl 4 rfl) ?_
      refine lv_icmp_ge (tgt := 38) hx hb dX2_goesAsTold_11 (by decide) (fun c_11 => ?_) (fun c_11 => ?_)
      · replace c_11 : nI n ≤ nI i := c_11
        rw [jle (by omega) (by omega)] at c_11
        refine lv_iconst (v := 1) hx hb dX2_goesAsTold_38 (by decide) ?_
        refine rMz hx hb hr hlk hS (hs_ i T) hP (Or.inr rfl) ?_ dX2_goesAsTold_39
        rw [ro_0 (by omega)] at hre; exact (b1_t hre.symm).symm
      · replace c_11 : ¬ nI n ≤ nI i := c_11
        rw [jle (by omega) (by omega)] at c_11
        refine lv_aload_n hx hb dX2_goesAsTold_14 rfl (lv_at hl 3 rfl) ?_
        refine lv_iload hx hb dX2_goesAsTold_15 (lv_at hl 0 rfl) ?_
        refine jald hx hb hK.1 hP 13 0 i rfl rfl rfl (by omega) (Nat.le_of_ble_eq_true rfl) dX2_goesAsTold_17 ?_
        refine lv_aload_n hx hb dX2_goesAsTold_18 rfl (lv_at hl 1 rfl) ?_
        refine va_getN (ci := 0) (C := RX0) (T := TX0) (N := 11) hx hb hts hinX0 hown hK.1 hP 7 rfl rfl 7 (by decide) (va_Nw.use rfl (hK.2 _ (List.mem_of_getElem? (i := 15) rfl))) (fun _ h9 => h9) rfl dX2_goesAsTold_19 ?_
        refine lv_icmp_eq (tgt := 27) hx hb dX2_goesAsTold_22 (by decide) (fun c_22 => ?_) (fun c_22 => ?_)
        · skip
          refine lv_aload_n hx hb dX2_goesAsTold_27 rfl (lv_at hl 1 rfl) ?_
          refine lv_iconst (v := 0) hx hb dX2_goesAsTold_28 (by decide) ?_
          refine kMvN hx hb hml hown hts hK hP hD hA hS gX2_goesAsTold_X0_passHour_n40 (hK.2 _ (List.mem_of_getElem? (i := 85) rfl)) (hts _ (List.mem_of_getElem? (i := 3) rfl)) (hts _ (List.mem_of_getElem? (i := 2) rfl)) (hts _ (List.mem_of_getElem? (i := 4) rfl)) okX0_passHour (qX0_passHour l D cI cB g 10 (hs_ i T) False inferInstance (by show sn_ (hs_ _ _) ≤ 7; rw [sn_hs]; omega)) [7, 8, 9, 10, 11, 12] rfl (by decide) (fun _ => rfl) rfl rfl rfl (by decide) hl.1 rfl rfl (Nat.le_of_ble_eq_true rfl) dX2_goesAsTold_29 (by decide) (fun u_2 H locs hw_3 hP hD hS => ?_)
          replace hw_3 : u_2 = hb_ False (hs_ i T) := hw_3
          subst u_2
          replace hP : va_P D vwCl (miO g ++ bW cI g 4 B ++ bW cI g 10 (hb_ False (hs_ i T)) ++ [(g 16, .inl (cI, 12, .inl f))]) H := hP
          replace hD : va_D A (miO g ++ bW cI g 4 B ++ bW cI g 10 (hb_ False (hs_ i T)) ++ [(g 16, .inl (cI, 12, .inl f))]) := hD
          refine lv_iinc (v := (nI i) + 1) (lv' := [(4, .int ((nI i) + 1)), (3, .ref (g 10)), (0, .ref (g 1)), (1, .ref (g 16)), (2, .int (nI n))]) hx hb dX2_goesAsTold_32 hl (k := 0) rfl (by first | rfl | decide) (by decide) rfl (fun ls hl => ?_)
          refine lv_goto (tgt := 8) hx hb dX2_goesAsTold_35 (by decide) ?_
          exact ih_8 (i + 1) ((nI i) + 1) (hb_ False (hs_ i T)) (by first | rfl | exact nI_1 _) (rfl) (by omega) (by rw [ro_s (by omega), if_pos c_22] at hre; exact hre) (by omega) _ _ hP hD hS ls (lv_sub hl [0, 1, 2, 3, 4] rfl)
        · skip
          refine lv_iconst (v := 0) hx hb dX2_goesAsTold_25 (by decide) ?_
          refine rMz hx hb hr hlk hS (hs_ i T) hP (Or.inl rfl) ?_ dX2_goesAsTold_26
          rw [ro_s (by omega), if_neg c_22] at hre; exact (b1_f (by rw [← hre]; exact Bool.false_ne_true)).symm
  exact lp_8 (n + 1) 0 0 T (by first | rfl | exact nI_0.symm) (rfl) (by omega) (rfl) (by omega) _ _ hP hD hS ls (lv_sub hl [0, 1, 2, 3, 4] rfl)

theorem okX2_guessBits : jok yX2_guessBits wsX2_guessBits cX2_guessBits 9 (some .int) 5 := ⟨⟨_, rfl⟩, by decide +kernel, by decide +kernel⟩
set_option maxHeartbeats 1000000 in
set_option maxRecDepth 100000 in
theorem qX2_guessBits (l : Launch) (D : va_G) (cI cB : ClassId) (g : Nat → Nat) (B : BayT) (T : BayT) (f : Nat → Int32) (k : Nat) (w : Int32) (la : Nat) (n : Nat) (hn7 : sn_ B ≤ 7) (hk : k < 7) (hla : la ≤ 10) (hn : n ≤ 12) : jMi D cI cB l yX2_guessBits wsX2_guessBits 5 [.ref (g 1), .int (nI k), .int w, .int (nI la), .ref (g 16), .int (nI n)] (miO g ++ bW cI g 4 B ++ bW cI g 10 T ++ [(g 16, .inl (cI, 12, .inl f))]) (S := BayT) (fun r u => r = gb_ B k w f n (g0_ w) (la + 1 - g0_ w)) (fun u => miO g ++ bW cI g 4 B ++ bW cI g 10 u ++ [(g 16, .inl (cI, 12, .inl f))]) := by
  refine jMi.of (cc := cX2_guessBits) (maxL := 9) (ret := (some .int)) okX2_guessBits (Nat.le_of_ble_eq_true rfl) ?_
  intro p e s m below meth c ls A hx hb hr hts hown hlk hml hP hK hD hA hS hl
  replace hown : s.vm.findClass RX2 = some m.cls := hown
  replace hl : lv_has ls 9 [(0, .ref (g 1)), (1, .int (nI k)), (2, .int w), (3, .int (nI la)), (4, .ref (g 16)), (5, .int (nI n))] := hl
  have hinX0 : ∀ w ∈ wsX00, w ∈ wsX2_guessBits := by decide +kernel
  refine lv_iconst (v := 0) hx hb dX2_guessBits_0 (by decide) ?_
  refine lv_istore (lv' := [(6, .int 0), (0, .ref (g 1)), (1, .int (nI k)), (2, .int w), (3, .int (nI la)), (4, .ref (g 16)), (5, .int (nI n))]) hx hb dX2_guessBits_1 hl (by decide) rfl (fun ls hl => ?_)
  refine lv_iload_n hx hb dX2_guessBits_3 rfl (lv_at hl 3 rfl) ?_
  refine lv_iconst (v := 2) hx hb dX2_guessBits_4 (by decide) ?_
  refine lv_icmp_ne (tgt := 12) hx hb dX2_guessBits_5 (by decide) (fun c_5 => ?_) (fun c_5 => ?_)
  · skip
    refine lv_iconst (v := 0) hx hb dX2_guessBits_12 (by decide) ?_
    refine lv_istore (lv' := [(7, .int 0), (6, .int 0), (0, .ref (g 1)), (1, .int (nI k)), (2, .int w), (3, .int (nI la)), (4, .ref (g 16)), (5, .int (nI n))]) hx hb dX2_guessBits_13 hl (by decide) rfl (fun ls hl => ?_)
    have lp_15 : ∀ (fu_15 : Nat) (i : Nat) (x6_15 : Int32) (x7_15 : Int32) (T2 : BayT), (x6_15 = gb_ B k w f n 0 i) → (x7_15 = nI (0 + i)) → (i ≤ la + 1 - 0) → la + 1 - 0 - i < fu_15 → ∀ (H : Heap) (locs : List Loc), va_P D vwCl (miO g ++ bW cI g 4 B ++ bW cI g 10 T2 ++ [(g 16, .inl (cI, 12, .inl f))]) H → va_D A (miO g ++ bW cI g 4 B ++ bW cI g 10 T2 ++ [(g 16, .inl (cI, 12, .inl f))]) → va_S A s.heap H locs → ∀ ls : Array Slot, lv_has ls 9 [(7, .int x7_15), (6, .int x6_15), (0, .ref (g 1)), (1, .int (nI k)), (2, .int w), (3, .int (nI la)), (4, .ref (g 16)), (5, .int (nI n))] → W p l e (jR 5) s m ([.ref (g 1), .int (nI k), .int w, .int (nI la), .ref (g 16), .int (nI n)] : List Value).toArray below meth c H locs 0 0 (MQ below (va_Qi (S := BayT) (fun r u => r = gb_ B k w f n (g0_ w) (la + 1 - g0_ w)) (fun u t => va_P D vwCl ((fun u => miO g ++ bW cI g 4 B ++ bW cI g 10 u ++ [(g 16, .inl (cI, 12, .inl f))]) u) t.heap) A) ([.ref (g 1), .int (nI k), .int w, .int (nI la), .ref (g 16), .int (nI n)] : List Value).toArray s 0 0 A) (F0 m 15 ls []) := by
      intro fu_15
      induction fu_15 with
      | zero => intro i x6_15 x7_15 T2 hx6_15 hx7_15 hi hfu; exact absurd hfu (Nat.not_lt_zero _)
      | succ fu_15 ih_15 =>
        intro i x6_15 x7_15 T2 hx6_15 hx7_15 hi hfu_15 H locs hP hD hS ls hl
        subst x6_15
        subst x7_15
        replace hl : lv_has ls 9 [(7, .int (nI (0 + i))), (6, .int (gb_ B k w f n 0 i)), (0, .ref (g 1)), (1, .int (nI k)), (2, .int w), (3, .int (nI la)), (4, .ref (g 16)), (5, .int (nI n))] := hl
        replace hP : va_P D vwCl (miO g ++ bW cI g 4 B ++ bW cI g 10 T2 ++ [(g 16, .inl (cI, 12, .inl f))]) H := hP
        replace hD : va_D A (miO g ++ bW cI g 4 B ++ bW cI g 10 T2 ++ [(g 16, .inl (cI, 12, .inl f))]) := hD
        refine lv_iload hx hb dX2_guessBits_15 (lv_at hl 0 rfl) ?_
        refine lv_iload_n hx hb dX2_guessBits_17 rfl (lv_at hl 5 rfl) ?_
        refine lv_icmp_gt (tgt := 113) hx hb dX2_guessBits_18 (by decide) (fun c_18 => ?_) (fun c_18 => ?_)
        · replace c_18 : nI la < nI (0 + i) := c_18
          rw [jlt (by omega) (by omega)] at c_18
          refine lv_iload hx hb dX2_guessBits_113 (lv_at hl 1 rfl) ?_
          refine rMi hx hb hr hlk hS T2 hP ?_ dX2_guessBits_115
          have e9 : i = la + 1 - 0 := by omega
          rw [e9]
          show _ = gb_ B k w f n (g0_ w) (la + 1 - g0_ w)
          unfold g0_
          first | rw [if_pos c_5] | rw [if_neg c_5]
        · replace c_18 : ¬ nI la < nI (0 + i) := c_18
          rw [jlt (by omega) (by omega)] at c_18
          refine lv_aload_n hx hb dX2_guessBits_21 rfl (lv_at hl 2 rfl) ?_
          refine kMrV hx hb hml hown hts hK hP hD hA hS gX2_guessBits_X2_asNow okX2_asNow (qX2_asNow l D cI cB g B T2 ) [0, 1, 2, 3, 4, 5, 6, 7, 8, 9, 10, 11, 12] rfl (by decide) (fun _ => rfl) rfl rfl rfl (by decide) hl.1 rfl rfl (Nat.le_of_ble_eq_true rfl) dX2_guessBits_22 (by decide) (fun u_2 H locs hw_3 hP hD hS => ?_)
          replace hw_3 : u_2 = B := hw_3
          subst u_2
          replace hP : va_P D vwCl (miO g ++ bW cI g 4 B ++ bW cI g 10 (B) ++ [(g 16, .inl (cI, 12, .inl f))]) H := hP
          replace hD : va_D A (miO g ++ bW cI g 4 B ++ bW cI g 10 (B) ++ [(g 16, .inl (cI, 12, .inl f))]) := hD
          refine lv_astore (lv' := [(8, .ref (g 10)), (7, .int (nI (0 + i))), (6, .int (gb_ B k w f n 0 i)), (0, .ref (g 1)), (1, .int (nI k)), (2, .int w), (3, .int (nI la)), (4, .ref (g 16)), (5, .int (nI n))]) hx hb dX2_guessBits_25 hl (by decide) rfl (fun ls hl => ?_)
          refine lv_iload_n hx hb dX2_guessBits_27 rfl (lv_at hl 5 rfl) ?_
          by_cases c_28_0 : w = 0
          · refine lv_lookup (off := 28) (tgt := 56) hx hb dX2_guessBits_28 (by decide) (by rw [c_28_0]; rfl) (by decide) ?_
            refine lv_aload hx hb dX2_guessBits_56 (lv_at hl 0 rfl) ?_
            refine va_getN (ci := 0) (C := RX0) (T := TX0) (N := 11) hx hb hts hinX0 hown hK.1 hP 7 rfl rfl 0 (by decide) (va_Nw.use rfl (hK.2 _ (List.mem_of_getElem? (i := 3) rfl))) (fun _ h9 => h9) rfl dX2_guessBits_58 ?_
            refine lv_iload_n hx hb dX2_guessBits_61 rfl (lv_at hl 4 rfl) ?_
            refine lv_iload hx hb dX2_guessBits_62 (lv_at hl 1 rfl) ?_
            refine jast hx hb hK.1 hP hD hS 8 0 k rfl rfl rfl (by omega) (Nat.le_of_ble_eq_true rfl) dX2_guessBits_64 (fun f_4 ef_4 H locs hP hD hS => ?_)
            replace ef_4 : f_4 = upd (kd_ (B)) k (nI (0 + i)) := ef_4
            replace hP : va_P D vwCl (miO g ++ bW cI g 4 B ++ bW cI g 10 (mkB f_4 (fg_ (B)) (pl_ (B)) (pw_ (B)) (jy_ (B)) (qt_ (B)) (sn_ (B)) (il_ (B)) (pa_ (B)) (ho_ (B)) (dy_ (B))) ++ [(g 16, .inl (cI, 12, .inl f))]) H := hP
            replace hD : va_D A (miO g ++ bW cI g 4 B ++ bW cI g 10 (mkB f_4 (fg_ (B)) (pl_ (B)) (pw_ (B)) (jy_ (B)) (qt_ (B)) (sn_ (B)) (il_ (B)) (pa_ (B)) (ho_ (B)) (dy_ (B))) ++ [(g 16, .inl (cI, 12, .inl f))]) := hD
            refine lv_goto (tgt := 87) hx hb dX2_guessBits_65 (by decide) ?_
            refine lv_aload_n hx hb dX2_guessBits_87 rfl (lv_at hl 3 rfl) ?_
            refine lv_aload hx hb dX2_guessBits_88 (lv_at hl 7 rfl) ?_
            refine lv_iload hx hb dX2_guessBits_90 (lv_at hl 8 rfl) ?_
            refine kMiV hx hb hml hown hts hK hP hD hA hS gX2_guessBits_X2_goesAsTold okX2_goesAsTold (qX2_goesAsTold l D cI cB g B (mkB f_4 (fg_ (B)) (pl_ (B)) (pw_ (B)) (jy_ (B)) (qt_ (B)) (sn_ (B)) (il_ (B)) (pa_ (B)) (ho_ (B)) (dy_ (B))) f n (by show sn_ B ≤ 7; omega) (by show sn_ B ≤ 7; omega) (by omega)) [0, 1, 2, 3, 4, 5, 6, 7, 8, 9, 10, 11, 12, 13] rfl (by decide) (fun _ => rfl) rfl rfl rfl (by decide) hl.1 rfl rfl (Nat.le_of_ble_eq_true rfl) dX2_guessBits_92 (by decide) (fun r_5 u_6 H locs hw_7 hP hD hS => ?_)
            replace hw_7 : r_5 = b1 (ro_ f (mkB f_4 (fg_ (B)) (pl_ (B)) (pw_ (B)) (jy_ (B)) (qt_ (B)) (sn_ (B)) (il_ (B)) (pa_ (B)) (ho_ (B)) (dy_ (B))) n 0 = true) := hw_7
            subst r_5
            replace hP : va_P D vwCl (miO g ++ bW cI g 4 B ++ bW cI g 10 u_6 ++ [(g 16, .inl (cI, 12, .inl f))]) H := hP
            replace hD : va_D A (miO g ++ bW cI g 4 B ++ bW cI g 10 u_6 ++ [(g 16, .inl (cI, 12, .inl f))]) := hD
            refine lv_if_eq (tgt := 107) hx hb dX2_guessBits_95 (by decide) (fun c_95 => ?_) (fun c_95 => ?_)
            · replace c_95 := b1_z c_95
              refine lv_iinc (v := (nI (0 + i)) + 1) (lv' := [(7, .int ((nI (0 + i)) + 1)), (8, .ref (g 10)), (6, .int (gb_ B k w f n 0 i)), (0, .ref (g 1)), (1, .int (nI k)), (2, .int w), (3, .int (nI la)), (4, .ref (g 16)), (5, .int (nI n))]) hx hb dX2_guessBits_107 hl (k := 1) rfl (by first | rfl | decide) (by decide) rfl (fun ls hl => ?_)
              refine lv_goto (tgt := 15) hx hb dX2_guessBits_110 (by decide) ?_
              (try rw [ef_4] at hP); (try rw [ef_4] at hD); (try rw [ef_4] at hl); (try rw [ef_4] at c_18); (try rw [ef_4] at c_95); (try rw [ef_4])
              exact ih_15 (i + 1) (gb_ B k w f n 0 i) ((nI (0 + i)) + 1) u_6 (by first | exact gb_y (by unfold ug_; first | rw [if_pos (by assumption)] | rw [if_neg (by assumption), if_pos (by assumption)] | rw [if_neg (by assumption), if_neg (by assumption)]) c_95 | exact gb_n (by unfold ug_; first | rw [if_pos (by assumption)] | rw [if_neg (by assumption), if_pos (by assumption)] | rw [if_neg (by assumption), if_neg (by assumption)]) c_95) (nI_1 _) (by omega) (by omega) _ _ hP hD hS ls (lv_sub hl [0, 2, 3, 4, 5, 6, 7, 8] rfl)
            · replace c_95 := b1_n c_95
              refine lv_iload hx hb dX2_guessBits_98 (lv_at hl 2 rfl) ?_
              refine lv_iconst (v := 1) hx hb dX2_guessBits_100 (by decide) ?_
              refine lv_iload hx hb dX2_guessBits_101 (lv_at hl 1 rfl) ?_
              refine lv_ishl hx hb dX2_guessBits_103 ?_
              refine lv_ior hx hb dX2_guessBits_104 ?_
              refine lv_istore (lv' := [(6, .int ((gb_ B k w f n 0 i) ||| (1 <<< ((nI (0 + i)) &&& 31)))), (8, .ref (g 10)), (7, .int (nI (0 + i))), (0, .ref (g 1)), (1, .int (nI k)), (2, .int w), (3, .int (nI la)), (4, .ref (g 16)), (5, .int (nI n))]) hx hb dX2_guessBits_105 hl (by decide) rfl (fun ls hl => ?_)
              refine lv_iinc (v := (nI (0 + i)) + 1) (lv' := [(7, .int ((nI (0 + i)) + 1)), (6, .int ((gb_ B k w f n 0 i) ||| (1 <<< ((nI (0 + i)) &&& 31)))), (8, .ref (g 10)), (0, .ref (g 1)), (1, .int (nI k)), (2, .int w), (3, .int (nI la)), (4, .ref (g 16)), (5, .int (nI n))]) hx hb dX2_guessBits_107 hl (k := 2) rfl (by first | rfl | decide) (by decide) rfl (fun ls hl => ?_)
              refine lv_goto (tgt := 15) hx hb dX2_guessBits_110 (by decide) ?_
              (try rw [ef_4] at hP); (try rw [ef_4] at hD); (try rw [ef_4] at hl); (try rw [ef_4] at c_18); (try rw [ef_4] at c_95); (try rw [ef_4])
              exact ih_15 (i + 1) ((gb_ B k w f n 0 i) ||| (1 <<< ((nI (0 + i)) &&& 31))) ((nI (0 + i)) + 1) u_6 (by first | exact gb_y (by unfold ug_; first | rw [if_pos (by assumption)] | rw [if_neg (by assumption), if_pos (by assumption)] | rw [if_neg (by assumption), if_neg (by assumption)]) c_95 | exact gb_n (by unfold ug_; first | rw [if_pos (by assumption)] | rw [if_neg (by assumption), if_pos (by assumption)] | rw [if_neg (by assumption), if_neg (by assumption)]) c_95) (nI_1 _) (by omega) (by omega) _ _ hP hD hS ls (lv_sub hl [0, 1, 3, 4, 5, 6, 7, 8] rfl)
          by_cases c_28_1 : w = 1
          · refine lv_lookup (off := 40) (tgt := 68) hx hb dX2_guessBits_28 (by decide) (by rw [c_28_1]; rfl) (by decide) ?_
            refine lv_aload hx hb dX2_guessBits_68 (lv_at hl 0 rfl) ?_
            refine va_getN (ci := 0) (C := RX0) (T := TX0) (N := 11) hx hb hts hinX0 hown hK.1 hP 7 rfl rfl 1 (by decide) (va_Nw.use rfl (hK.2 _ (List.mem_of_getElem? (i := 5) rfl))) (fun _ h9 => h9) rfl dX2_guessBits_70 ?_
            refine lv_iload_n hx hb dX2_guessBits_73 rfl (lv_at hl 4 rfl) ?_
            refine lv_iload hx hb dX2_guessBits_74 (lv_at hl 1 rfl) ?_
            refine jast hx hb hK.1 hP hD hS 9 0 k rfl rfl rfl (by omega) (Nat.le_of_ble_eq_true rfl) dX2_guessBits_76 (fun f_8 ef_8 H locs hP hD hS => ?_)
            replace ef_8 : f_8 = upd (fg_ (B)) k (nI (0 + i)) := ef_8
            replace hP : va_P D vwCl (miO g ++ bW cI g 4 B ++ bW cI g 10 (mkB (kd_ (B)) f_8 (pl_ (B)) (pw_ (B)) (jy_ (B)) (qt_ (B)) (sn_ (B)) (il_ (B)) (pa_ (B)) (ho_ (B)) (dy_ (B))) ++ [(g 16, .inl (cI, 12, .inl f))]) H := hP
            replace hD : va_D A (miO g ++ bW cI g 4 B ++ bW cI g 10 (mkB (kd_ (B)) f_8 (pl_ (B)) (pw_ (B)) (jy_ (B)) (qt_ (B)) (sn_ (B)) (il_ (B)) (pa_ (B)) (ho_ (B)) (dy_ (B))) ++ [(g 16, .inl (cI, 12, .inl f))]) := hD
            refine lv_goto (tgt := 87) hx hb dX2_guessBits_77 (by decide) ?_
            refine lv_aload_n hx hb dX2_guessBits_87 rfl (lv_at hl 3 rfl) ?_
            refine lv_aload hx hb dX2_guessBits_88 (lv_at hl 7 rfl) ?_
            refine lv_iload hx hb dX2_guessBits_90 (lv_at hl 8 rfl) ?_
            refine kMiV hx hb hml hown hts hK hP hD hA hS gX2_guessBits_X2_goesAsTold okX2_goesAsTold (qX2_goesAsTold l D cI cB g B (mkB (kd_ (B)) f_8 (pl_ (B)) (pw_ (B)) (jy_ (B)) (qt_ (B)) (sn_ (B)) (il_ (B)) (pa_ (B)) (ho_ (B)) (dy_ (B))) f n (by show sn_ B ≤ 7; omega) (by show sn_ B ≤ 7; omega) (by omega)) [0, 1, 2, 3, 4, 5, 6, 7, 8, 9, 10, 11, 12, 13] rfl (by decide) (fun _ => rfl) rfl rfl rfl (by decide) hl.1 rfl rfl (Nat.le_of_ble_eq_true rfl) dX2_guessBits_92 (by decide) (fun r_9 u_10 H locs hw_11 hP hD hS => ?_)
            replace hw_11 : r_9 = b1 (ro_ f (mkB (kd_ (B)) f_8 (pl_ (B)) (pw_ (B)) (jy_ (B)) (qt_ (B)) (sn_ (B)) (il_ (B)) (pa_ (B)) (ho_ (B)) (dy_ (B))) n 0 = true) := hw_11
            subst r_9
            replace hP : va_P D vwCl (miO g ++ bW cI g 4 B ++ bW cI g 10 u_10 ++ [(g 16, .inl (cI, 12, .inl f))]) H := hP
            replace hD : va_D A (miO g ++ bW cI g 4 B ++ bW cI g 10 u_10 ++ [(g 16, .inl (cI, 12, .inl f))]) := hD
            refine lv_if_eq (tgt := 107) hx hb dX2_guessBits_95 (by decide) (fun c_95 => ?_) (fun c_95 => ?_)
            · replace c_95 := b1_z c_95
              refine lv_iinc (v := (nI (0 + i)) + 1) (lv' := [(7, .int ((nI (0 + i)) + 1)), (8, .ref (g 10)), (6, .int (gb_ B k w f n 0 i)), (0, .ref (g 1)), (1, .int (nI k)), (2, .int w), (3, .int (nI la)), (4, .ref (g 16)), (5, .int (nI n))]) hx hb dX2_guessBits_107 hl (k := 1) rfl (by first | rfl | decide) (by decide) rfl (fun ls hl => ?_)
              refine lv_goto (tgt := 15) hx hb dX2_guessBits_110 (by decide) ?_
              (try rw [ef_8] at hP); (try rw [ef_8] at hD); (try rw [ef_8] at hl); (try rw [ef_8] at c_18); (try rw [ef_8] at c_95); (try rw [ef_8])
              exact ih_15 (i + 1) (gb_ B k w f n 0 i) ((nI (0 + i)) + 1) u_10 (by first | exact gb_y (by unfold ug_; first | rw [if_pos (by assumption)] | rw [if_neg (by assumption), if_pos (by assumption)] | rw [if_neg (by assumption), if_neg (by assumption)]) c_95 | exact gb_n (by unfold ug_; first | rw [if_pos (by assumption)] | rw [if_neg (by assumption), if_pos (by assumption)] | rw [if_neg (by assumption), if_neg (by assumption)]) c_95) (nI_1 _) (by omega) (by omega) _ _ hP hD hS ls (lv_sub hl [0, 2, 3, 4, 5, 6, 7, 8] rfl)
            · replace c_95 := b1_n c_95
              refine lv_iload hx hb dX2_guessBits_98 (lv_at hl 2 rfl) ?_
              refine lv_iconst (v := 1) hx hb dX2_guessBits_100 (by decide) ?_
              refine lv_iload hx hb dX2_guessBits_101 (lv_at hl 1 rfl) ?_
              refine lv_ishl hx hb dX2_guessBits_103 ?_
              refine lv_ior hx hb dX2_guessBits_104 ?_
              refine lv_istore (lv' := [(6, .int ((gb_ B k w f n 0 i) ||| (1 <<< ((nI (0 + i)) &&& 31)))), (8, .ref (g 10)), (7, .int (nI (0 + i))), (0, .ref (g 1)), (1, .int (nI k)), (2, .int w), (3, .int (nI la)), (4, .ref (g 16)), (5, .int (nI n))]) hx hb dX2_guessBits_105 hl (by decide) rfl (fun ls hl => ?_)
              refine lv_iinc (v := (nI (0 + i)) + 1) (lv' := [(7, .int ((nI (0 + i)) + 1)), (6, .int ((gb_ B k w f n 0 i) ||| (1 <<< ((nI (0 + i)) &&& 31)))), (8, .ref (g 10)), (0, .ref (g 1)), (1, .int (nI k)), (2, .int w), (3, .int (nI la)), (4, .ref (g 16)), (5, .int (nI n))]) hx hb dX2_guessBits_107 hl (k := 2) rfl (by first | rfl | decide) (by decide) rfl (fun ls hl => ?_)
              refine lv_goto (tgt := 15) hx hb dX2_guessBits_110 (by decide) ?_
              (try rw [ef_8] at hP); (try rw [ef_8] at hD); (try rw [ef_8] at hl); (try rw [ef_8] at c_18); (try rw [ef_8] at c_95); (try rw [ef_8])
              exact ih_15 (i + 1) ((gb_ B k w f n 0 i) ||| (1 <<< ((nI (0 + i)) &&& 31))) ((nI (0 + i)) + 1) u_10 (by first | exact gb_y (by unfold ug_; first | rw [if_pos (by assumption)] | rw [if_neg (by assumption), if_pos (by assumption)] | rw [if_neg (by assumption), if_neg (by assumption)]) c_95 | exact gb_n (by unfold ug_; first | rw [if_pos (by assumption)] | rw [if_neg (by assumption), if_pos (by assumption)] | rw [if_neg (by assumption), if_neg (by assumption)]) c_95) (nI_1 _) (by omega) (by omega) _ _ hP hD hS ls (lv_sub hl [0, 1, 3, 4, 5, 6, 7, 8] rfl)
          refine lv_lookup (off := 52) (tgt := 80) hx hb dX2_guessBits_28 (by decide) (by rw [lv_osw c_28_0 (by decide)]; rw [lv_osw c_28_1 (by decide)]; rfl) (by decide) ?_
          refine lv_aload hx hb dX2_guessBits_80 (lv_at hl 0 rfl) ?_
          refine lv_iload hx hb dX2_guessBits_82 (lv_at hl 1 rfl) ?_
          refine va_putN (ci := 0) (ty := .int) (C := RX0) (T := TX0) (N := 11) hx hb hts hinX0 tyX0 tyX0_ok nmX0 hown hK.1 hP hD hS 7 rfl rfl 8 (by decide) (va_Nw.use rfl (hK.2 _ (List.mem_of_getElem? (i := 18) rfl))) (fun _ h9 => h9) rfl (by decide +kernel) (rfl) (rfl) (Nat.le_of_ble_eq_true rfl) dX2_guessBits_84 (fun H locs hP hD hS => ?_)
          replace hP : va_P D vwCl (miO g ++ bW cI g 4 B ++ bW cI g 10 (mkB (kd_ (B)) (fg_ (B)) (pl_ (B)) (pw_ (B)) (jy_ (B)) (qt_ (B)) (sn_ (B)) (il_ (B)) (nI (0 + i)) (ho_ (B)) (dy_ (B))) ++ [(g 16, .inl (cI, 12, .inl f))]) H := hP
          replace hD : va_D A (miO g ++ bW cI g 4 B ++ bW cI g 10 (mkB (kd_ (B)) (fg_ (B)) (pl_ (B)) (pw_ (B)) (jy_ (B)) (qt_ (B)) (sn_ (B)) (il_ (B)) (nI (0 + i)) (ho_ (B)) (dy_ (B))) ++ [(g 16, .inl (cI, 12, .inl f))]) := hD
          refine lv_aload_n hx hb dX2_guessBits_87 rfl (lv_at hl 3 rfl) ?_
          refine lv_aload hx hb dX2_guessBits_88 (lv_at hl 7 rfl) ?_
          refine lv_iload hx hb dX2_guessBits_90 (lv_at hl 8 rfl) ?_
          refine kMiV hx hb hml hown hts hK hP hD hA hS gX2_guessBits_X2_goesAsTold okX2_goesAsTold (qX2_goesAsTold l D cI cB g B (mkB (kd_ (B)) (fg_ (B)) (pl_ (B)) (pw_ (B)) (jy_ (B)) (qt_ (B)) (sn_ (B)) (il_ (B)) (nI (0 + i)) (ho_ (B)) (dy_ (B))) f n (by show sn_ B ≤ 7; omega) (by show sn_ B ≤ 7; omega) (by omega)) [0, 1, 2, 3, 4, 5, 6, 7, 8, 9, 10, 11, 12, 13] rfl (by decide) (fun _ => rfl) rfl rfl rfl (by decide) hl.1 rfl rfl (Nat.le_of_ble_eq_true rfl) dX2_guessBits_92 (by decide) (fun r_12 u_13 H locs hw_14 hP hD hS => ?_)
          replace hw_14 : r_12 = b1 (ro_ f (mkB (kd_ (B)) (fg_ (B)) (pl_ (B)) (pw_ (B)) (jy_ (B)) (qt_ (B)) (sn_ (B)) (il_ (B)) (nI (0 + i)) (ho_ (B)) (dy_ (B))) n 0 = true) := hw_14
          subst r_12
          replace hP : va_P D vwCl (miO g ++ bW cI g 4 B ++ bW cI g 10 u_13 ++ [(g 16, .inl (cI, 12, .inl f))]) H := hP
          replace hD : va_D A (miO g ++ bW cI g 4 B ++ bW cI g 10 u_13 ++ [(g 16, .inl (cI, 12, .inl f))]) := hD
          refine lv_if_eq (tgt := 107) hx hb dX2_guessBits_95 (by decide) (fun c_95 => ?_) (fun c_95 => ?_)
          · replace c_95 := b1_z c_95
            refine lv_iinc (v := (nI (0 + i)) + 1) (lv' := [(7, .int ((nI (0 + i)) + 1)), (8, .ref (g 10)), (6, .int (gb_ B k w f n 0 i)), (0, .ref (g 1)), (1, .int (nI k)), (2, .int w), (3, .int (nI la)), (4, .ref (g 16)), (5, .int (nI n))]) hx hb dX2_guessBits_107 hl (k := 1) rfl (by first | rfl | decide) (by decide) rfl (fun ls hl => ?_)
            refine lv_goto (tgt := 15) hx hb dX2_guessBits_110 (by decide) ?_
            exact ih_15 (i + 1) (gb_ B k w f n 0 i) ((nI (0 + i)) + 1) u_13 (by first | exact gb_y (by unfold ug_; first | rw [if_pos (by assumption)] | rw [if_neg (by assumption), if_pos (by assumption)] | rw [if_neg (by assumption), if_neg (by assumption)]) c_95 | exact gb_n (by unfold ug_; first | rw [if_pos (by assumption)] | rw [if_neg (by assumption), if_pos (by assumption)] | rw [if_neg (by assumption), if_neg (by assumption)]) c_95) (nI_1 _) (by omega) (by omega) _ _ hP hD hS ls (lv_sub hl [0, 2, 3, 4, 5, 6, 7, 8] rfl)
          · replace c_95 := b1_n c_95
            refine lv_iload hx hb dX2_guessBits_98 (lv_at hl 2 rfl) ?_
            refine lv_iconst (v := 1) hx hb dX2_guessBits_100 (by decide) ?_
            refine lv_iload hx hb dX2_guessBits_101 (lv_at hl 1 rfl) ?_
            refine lv_ishl hx hb dX2_guessBits_103 ?_
            refine lv_ior hx hb dX2_guessBits_104 ?_
            refine lv_istore (lv' := [(6, .int ((gb_ B k w f n 0 i) ||| (1 <<< ((nI (0 + i)) &&& 31)))), (8, .ref (g 10)), (7, .int (nI (0 + i))), (0, .ref (g 1)), (1, .int (nI k)), (2, .int w), (3, .int (nI la)), (4, .ref (g 16)), (5, .int (nI n))]) hx hb dX2_guessBits_105 hl (by decide) rfl (fun ls hl => ?_)
            refine lv_iinc (v := (nI (0 + i)) + 1) (lv' := [(7, .int ((nI (0 + i)) + 1)), (6, .int ((gb_ B k w f n 0 i) ||| (1 <<< ((nI (0 + i)) &&& 31)))), (8, .ref (g 10)), (0, .ref (g 1)), (1, .int (nI k)), (2, .int w), (3, .int (nI la)), (4, .ref (g 16)), (5, .int (nI n))]) hx hb dX2_guessBits_107 hl (k := 2) rfl (by first | rfl | decide) (by decide) rfl (fun ls hl => ?_)
            refine lv_goto (tgt := 15) hx hb dX2_guessBits_110 (by decide) ?_
            exact ih_15 (i + 1) ((gb_ B k w f n 0 i) ||| (1 <<< ((nI (0 + i)) &&& 31))) ((nI (0 + i)) + 1) u_13 (by first | exact gb_y (by unfold ug_; first | rw [if_pos (by assumption)] | rw [if_neg (by assumption), if_pos (by assumption)] | rw [if_neg (by assumption), if_neg (by assumption)]) c_95 | exact gb_n (by unfold ug_; first | rw [if_pos (by assumption)] | rw [if_neg (by assumption), if_pos (by assumption)] | rw [if_neg (by assumption), if_neg (by assumption)]) c_95) (nI_1 _) (by omega) (by omega) _ _ hP hD hS ls (lv_sub hl [0, 1, 3, 4, 5, 6, 7, 8] rfl)
    exact lp_15 ((la + 1 - 0) + 1) 0 0 0 T (rfl) (rfl) (by omega) (by omega) _ _ hP hD hS ls (lv_sub hl [0, 1, 2, 3, 4, 5, 6, 7] rfl)
  · skip
    refine lv_iconst (v := 1) hx hb dX2_guessBits_8 (by decide) ?_
    refine lv_goto (tgt := 13) hx hb dX2_guessBits_9 (by decide) ?_
    refine lv_istore (lv' := [(7, .int 1), (6, .int 0), (0, .ref (g 1)), (1, .int (nI k)), (2, .int w), (3, .int (nI la)), (4, .ref (g 16)), (5, .int (nI n))]) hx hb dX2_guessBits_13 hl (by decide) rfl (fun ls hl => ?_)
    have lp_15 : ∀ (fu_15 : Nat) (i : Nat) (x6_15 : Int32) (x7_15 : Int32) (T2 : BayT), (x6_15 = gb_ B k w f n 1 i) → (x7_15 = nI (1 + i)) → (i ≤ la + 1 - 1) → la + 1 - 1 - i < fu_15 → ∀ (H : Heap) (locs : List Loc), va_P D vwCl (miO g ++ bW cI g 4 B ++ bW cI g 10 T2 ++ [(g 16, .inl (cI, 12, .inl f))]) H → va_D A (miO g ++ bW cI g 4 B ++ bW cI g 10 T2 ++ [(g 16, .inl (cI, 12, .inl f))]) → va_S A s.heap H locs → ∀ ls : Array Slot, lv_has ls 9 [(7, .int x7_15), (6, .int x6_15), (0, .ref (g 1)), (1, .int (nI k)), (2, .int w), (3, .int (nI la)), (4, .ref (g 16)), (5, .int (nI n))] → W p l e (jR 5) s m ([.ref (g 1), .int (nI k), .int w, .int (nI la), .ref (g 16), .int (nI n)] : List Value).toArray below meth c H locs 0 0 (MQ below (va_Qi (S := BayT) (fun r u => r = gb_ B k w f n (g0_ w) (la + 1 - g0_ w)) (fun u t => va_P D vwCl ((fun u => miO g ++ bW cI g 4 B ++ bW cI g 10 u ++ [(g 16, .inl (cI, 12, .inl f))]) u) t.heap) A) ([.ref (g 1), .int (nI k), .int w, .int (nI la), .ref (g 16), .int (nI n)] : List Value).toArray s 0 0 A) (F0 m 15 ls []) := by
      intro fu_15
      induction fu_15 with
      | zero => intro i x6_15 x7_15 T2 hx6_15 hx7_15 hi hfu; exact absurd hfu (Nat.not_lt_zero _)
      | succ fu_15 ih_15 =>
        intro i x6_15 x7_15 T2 hx6_15 hx7_15 hi hfu_15 H locs hP hD hS ls hl
        subst x6_15
        subst x7_15
        replace hl : lv_has ls 9 [(7, .int (nI (1 + i))), (6, .int (gb_ B k w f n 1 i)), (0, .ref (g 1)), (1, .int (nI k)), (2, .int w), (3, .int (nI la)), (4, .ref (g 16)), (5, .int (nI n))] := hl
        replace hP : va_P D vwCl (miO g ++ bW cI g 4 B ++ bW cI g 10 T2 ++ [(g 16, .inl (cI, 12, .inl f))]) H := hP
        replace hD : va_D A (miO g ++ bW cI g 4 B ++ bW cI g 10 T2 ++ [(g 16, .inl (cI, 12, .inl f))]) := hD
        refine lv_iload hx hb dX2_guessBits_15 (lv_at hl 0 rfl) ?_
        refine lv_iload_n hx hb dX2_guessBits_17 rfl (lv_at hl 5 rfl) ?_
        refine lv_icmp_gt (tgt := 113) hx hb dX2_guessBits_18 (by decide) (fun c_18 => ?_) (fun c_18 => ?_)
        · replace c_18 : nI la < nI (1 + i) := c_18
          rw [jlt (by omega) (by omega)] at c_18
          refine lv_iload hx hb dX2_guessBits_113 (lv_at hl 1 rfl) ?_
          refine rMi hx hb hr hlk hS T2 hP ?_ dX2_guessBits_115
          have e9 : i = la + 1 - 1 := by omega
          rw [e9]
          show _ = gb_ B k w f n (g0_ w) (la + 1 - g0_ w)
          unfold g0_
          first | rw [if_pos c_5] | rw [if_neg c_5]
        · replace c_18 : ¬ nI la < nI (1 + i) := c_18
          rw [jlt (by omega) (by omega)] at c_18
          refine lv_aload_n hx hb dX2_guessBits_21 rfl (lv_at hl 2 rfl) ?_
          refine kMrV hx hb hml hown hts hK hP hD hA hS gX2_guessBits_X2_asNow okX2_asNow (qX2_asNow l D cI cB g B T2 ) [0, 1, 2, 3, 4, 5, 6, 7, 8, 9, 10, 11, 12] rfl (by decide) (fun _ => rfl) rfl rfl rfl (by decide) hl.1 rfl rfl (Nat.le_of_ble_eq_true rfl) dX2_guessBits_22 (by decide) (fun u_16 H locs hw_17 hP hD hS => ?_)
          replace hw_17 : u_16 = B := hw_17
          subst u_16
          replace hP : va_P D vwCl (miO g ++ bW cI g 4 B ++ bW cI g 10 (B) ++ [(g 16, .inl (cI, 12, .inl f))]) H := hP
          replace hD : va_D A (miO g ++ bW cI g 4 B ++ bW cI g 10 (B) ++ [(g 16, .inl (cI, 12, .inl f))]) := hD
          refine lv_astore (lv' := [(8, .ref (g 10)), (7, .int (nI (1 + i))), (6, .int (gb_ B k w f n 1 i)), (0, .ref (g 1)), (1, .int (nI k)), (2, .int w), (3, .int (nI la)), (4, .ref (g 16)), (5, .int (nI n))]) hx hb dX2_guessBits_25 hl (by decide) rfl (fun ls hl => ?_)
          refine lv_iload_n hx hb dX2_guessBits_27 rfl (lv_at hl 5 rfl) ?_
          by_cases c_28_0 : w = 0
          · refine lv_lookup (off := 28) (tgt := 56) hx hb dX2_guessBits_28 (by decide) (by rw [c_28_0]; rfl) (by decide) ?_
            refine lv_aload hx hb dX2_guessBits_56 (lv_at hl 0 rfl) ?_
            refine va_getN (ci := 0) (C := RX0) (T := TX0) (N := 11) hx hb hts hinX0 hown hK.1 hP 7 rfl rfl 0 (by decide) (va_Nw.use rfl (hK.2 _ (List.mem_of_getElem? (i := 3) rfl))) (fun _ h9 => h9) rfl dX2_guessBits_58 ?_
            refine lv_iload_n hx hb dX2_guessBits_61 rfl (lv_at hl 4 rfl) ?_
            refine lv_iload hx hb dX2_guessBits_62 (lv_at hl 1 rfl) ?_
            refine jast hx hb hK.1 hP hD hS 8 0 k rfl rfl rfl (by omega) (Nat.le_of_ble_eq_true rfl) dX2_guessBits_64 (fun f_18 ef_18 H locs hP hD hS => ?_)
            replace ef_18 : f_18 = upd (kd_ (B)) k (nI (1 + i)) := ef_18
            replace hP : va_P D vwCl (miO g ++ bW cI g 4 B ++ bW cI g 10 (mkB f_18 (fg_ (B)) (pl_ (B)) (pw_ (B)) (jy_ (B)) (qt_ (B)) (sn_ (B)) (il_ (B)) (pa_ (B)) (ho_ (B)) (dy_ (B))) ++ [(g 16, .inl (cI, 12, .inl f))]) H := hP
            replace hD : va_D A (miO g ++ bW cI g 4 B ++ bW cI g 10 (mkB f_18 (fg_ (B)) (pl_ (B)) (pw_ (B)) (jy_ (B)) (qt_ (B)) (sn_ (B)) (il_ (B)) (pa_ (B)) (ho_ (B)) (dy_ (B))) ++ [(g 16, .inl (cI, 12, .inl f))]) := hD
            refine lv_goto (tgt := 87) hx hb dX2_guessBits_65 (by decide) ?_
            refine lv_aload_n hx hb dX2_guessBits_87 rfl (lv_at hl 3 rfl) ?_
            refine lv_aload hx hb dX2_guessBits_88 (lv_at hl 7 rfl) ?_
            refine lv_iload hx hb dX2_guessBits_90 (lv_at hl 8 rfl) ?_
            refine kMiV hx hb hml hown hts hK hP hD hA hS gX2_guessBits_X2_goesAsTold okX2_goesAsTold (qX2_goesAsTold l D cI cB g B (mkB f_18 (fg_ (B)) (pl_ (B)) (pw_ (B)) (jy_ (B)) (qt_ (B)) (sn_ (B)) (il_ (B)) (pa_ (B)) (ho_ (B)) (dy_ (B))) f n (by show sn_ B ≤ 7; omega) (by show sn_ B ≤ 7; omega) (by omega)) [0, 1, 2, 3, 4, 5, 6, 7, 8, 9, 10, 11, 12, 13] rfl (by decide) (fun _ => rfl) rfl rfl rfl (by decide) hl.1 rfl rfl (Nat.le_of_ble_eq_true rfl) dX2_guessBits_92 (by decide) (fun r_19 u_20 H locs hw_21 hP hD hS => ?_)
            replace hw_21 : r_19 = b1 (ro_ f (mkB f_18 (fg_ (B)) (pl_ (B)) (pw_ (B)) (jy_ (B)) (qt_ (B)) (sn_ (B)) (il_ (B)) (pa_ (B)) (ho_ (B)) (dy_ (B))) n 0 = true) := hw_21
            subst r_19
            replace hP : va_P D vwCl (miO g ++ bW cI g 4 B ++ bW cI g 10 u_20 ++ [(g 16, .inl (cI, 12, .inl f))]) H := hP
            replace hD : va_D A (miO g ++ bW cI g 4 B ++ bW cI g 10 u_20 ++ [(g 16, .inl (cI, 12, .inl f))]) := hD
            refine lv_if_eq (tgt := 107) hx hb dX2_guessBits_95 (by decide) (fun c_95 => ?_) (fun c_95 => ?_)
            · replace c_95 := b1_z c_95
              refine lv_iinc (v := (nI (1 + i)) + 1) (lv' := [(7, .int ((nI (1 + i)) + 1)), (8, .ref (g 10)), (6, .int (gb_ B k w f n 1 i)), (0, .ref (g 1)), (1, .int (nI k)), (2, .int w), (3, .int (nI la)), (4, .ref (g 16)), (5, .int (nI n))]) hx hb dX2_guessBits_107 hl (k := 1) rfl (by first | rfl | decide) (by decide) rfl (fun ls hl => ?_)
              refine lv_goto (tgt := 15) hx hb dX2_guessBits_110 (by decide) ?_
              (try rw [ef_18] at hP); (try rw [ef_18] at hD); (try rw [ef_18] at hl); (try rw [ef_18] at c_18); (try rw [ef_18] at c_95); (try rw [ef_18])
              exact ih_15 (i + 1) (gb_ B k w f n 1 i) ((nI (1 + i)) + 1) u_20 (by first | exact gb_y (by unfold ug_; first | rw [if_pos (by assumption)] | rw [if_neg (by assumption), if_pos (by assumption)] | rw [if_neg (by assumption), if_neg (by assumption)]) c_95 | exact gb_n (by unfold ug_; first | rw [if_pos (by assumption)] | rw [if_neg (by assumption), if_pos (by assumption)] | rw [if_neg (by assumption), if_neg (by assumption)]) c_95) (nI_1 _) (by omega) (by omega) _ _ hP hD hS ls (lv_sub hl [0, 2, 3, 4, 5, 6, 7, 8] rfl)
            · replace c_95 := b1_n c_95
              refine lv_iload hx hb dX2_guessBits_98 (lv_at hl 2 rfl) ?_
              refine lv_iconst (v := 1) hx hb dX2_guessBits_100 (by decide) ?_
              refine lv_iload hx hb dX2_guessBits_101 (lv_at hl 1 rfl) ?_
              refine lv_ishl hx hb dX2_guessBits_103 ?_
              refine lv_ior hx hb dX2_guessBits_104 ?_
              refine lv_istore (lv' := [(6, .int ((gb_ B k w f n 1 i) ||| (1 <<< ((nI (1 + i)) &&& 31)))), (8, .ref (g 10)), (7, .int (nI (1 + i))), (0, .ref (g 1)), (1, .int (nI k)), (2, .int w), (3, .int (nI la)), (4, .ref (g 16)), (5, .int (nI n))]) hx hb dX2_guessBits_105 hl (by decide) rfl (fun ls hl => ?_)
              refine lv_iinc (v := (nI (1 + i)) + 1) (lv' := [(7, .int ((nI (1 + i)) + 1)), (6, .int ((gb_ B k w f n 1 i) ||| (1 <<< ((nI (1 + i)) &&& 31)))), (8, .ref (g 10)), (0, .ref (g 1)), (1, .int (nI k)), (2, .int w), (3, .int (nI la)), (4, .ref (g 16)), (5, .int (nI n))]) hx hb dX2_guessBits_107 hl (k := 2) rfl (by first | rfl | decide) (by decide) rfl (fun ls hl => ?_)
              refine lv_goto (tgt := 15) hx hb dX2_guessBits_110 (by decide) ?_
              (try rw [ef_18] at hP); (try rw [ef_18] at hD); (try rw [ef_18] at hl); (try rw [ef_18] at c_18); (try rw [ef_18] at c_95); (try rw [ef_18])
              exact ih_15 (i + 1) ((gb_ B k w f n 1 i) ||| (1 <<< ((nI (1 + i)) &&& 31))) ((nI (1 + i)) + 1) u_20 (by first | exact gb_y (by unfold ug_; first | rw [if_pos (by assumption)] | rw [if_neg (by assumption), if_pos (by assumption)] | rw [if_neg (by assumption), if_neg (by assumption)]) c_95 | exact gb_n (by unfold ug_; first | rw [if_pos (by assumption)] | rw [if_neg (by assumption), if_pos (by assumption)] | rw [if_neg (by assumption), if_neg (by assumption)]) c_95) (nI_1 _) (by omega) (by omega) _ _ hP hD hS ls (lv_sub hl [0, 1, 3, 4, 5, 6, 7, 8] rfl)
          by_cases c_28_1 : w = 1
          · refine lv_lookup (off := 40) (tgt := 68) hx hb dX2_guessBits_28 (by decide) (by rw [c_28_1]; rfl) (by decide) ?_
            refine lv_aload hx hb dX2_guessBits_68 (lv_at hl 0 rfl) ?_
            refine va_getN (ci := 0) (C := RX0) (T := TX0) (N := 11) hx hb hts hinX0 hown hK.1 hP 7 rfl rfl 1 (by decide) (va_Nw.use rfl (hK.2 _ (List.mem_of_getElem? (i := 5) rfl))) (fun _ h9 => h9) rfl dX2_guessBits_70 ?_
            refine lv_iload_n hx hb dX2_guessBits_73 rfl (lv_at hl 4 rfl) ?_
            refine lv_iload hx hb dX2_guessBits_74 (lv_at hl 1 rfl) ?_
            refine jast hx hb hK.1 hP hD hS 9 0 k rfl rfl rfl (by omega) (Nat.le_of_ble_eq_true rfl) dX2_guessBits_76 (fun f_22 ef_22 H locs hP hD hS => ?_)
            replace ef_22 : f_22 = upd (fg_ (B)) k (nI (1 + i)) := ef_22
            replace hP : va_P D vwCl (miO g ++ bW cI g 4 B ++ bW cI g 10 (mkB (kd_ (B)) f_22 (pl_ (B)) (pw_ (B)) (jy_ (B)) (qt_ (B)) (sn_ (B)) (il_ (B)) (pa_ (B)) (ho_ (B)) (dy_ (B))) ++ [(g 16, .inl (cI, 12, .inl f))]) H := hP
            replace hD : va_D A (miO g ++ bW cI g 4 B ++ bW cI g 10 (mkB (kd_ (B)) f_22 (pl_ (B)) (pw_ (B)) (jy_ (B)) (qt_ (B)) (sn_ (B)) (il_ (B)) (pa_ (B)) (ho_ (B)) (dy_ (B))) ++ [(g 16, .inl (cI, 12, .inl f))]) := hD
            refine lv_goto (tgt := 87) hx hb dX2_guessBits_77 (by decide) ?_
            refine lv_aload_n hx hb dX2_guessBits_87 rfl (lv_at hl 3 rfl) ?_
            refine lv_aload hx hb dX2_guessBits_88 (lv_at hl 7 rfl) ?_
            refine lv_iload hx hb dX2_guessBits_90 (lv_at hl 8 rfl) ?_
            refine kMiV hx hb hml hown hts hK hP hD hA hS gX2_guessBits_X2_goesAsTold okX2_goesAsTold (qX2_goesAsTold l D cI cB g B (mkB (kd_ (B)) f_22 (pl_ (B)) (pw_ (B)) (jy_ (B)) (qt_ (B)) (sn_ (B)) (il_ (B)) (pa_ (B)) (ho_ (B)) (dy_ (B))) f n (by show sn_ B ≤ 7; omega) (by show sn_ B ≤ 7; omega) (by omega)) [0, 1, 2, 3, 4, 5, 6, 7, 8, 9, 10, 11, 12, 13] rfl (by decide) (fun _ => rfl) rfl rfl rfl (by decide) hl.1 rfl rfl (Nat.le_of_ble_eq_true rfl) dX2_guessBits_92 (by decide) (fun r_23 u_24 H locs hw_25 hP hD hS => ?_)
            replace hw_25 : r_23 = b1 (ro_ f (mkB (kd_ (B)) f_22 (pl_ (B)) (pw_ (B)) (jy_ (B)) (qt_ (B)) (sn_ (B)) (il_ (B)) (pa_ (B)) (ho_ (B)) (dy_ (B))) n 0 = true) := hw_25
            subst r_23
            replace hP : va_P D vwCl (miO g ++ bW cI g 4 B ++ bW cI g 10 u_24 ++ [(g 16, .inl (cI, 12, .inl f))]) H := hP
            replace hD : va_D A (miO g ++ bW cI g 4 B ++ bW cI g 10 u_24 ++ [(g 16, .inl (cI, 12, .inl f))]) := hD
            refine lv_if_eq (tgt := 107) hx hb dX2_guessBits_95 (by decide) (fun c_95 => ?_) (fun c_95 => ?_)
            · replace c_95 := b1_z c_95
              refine lv_iinc (v := (nI (1 + i)) + 1) (lv' := [(7, .int ((nI (1 + i)) + 1)), (8, .ref (g 10)), (6, .int (gb_ B k w f n 1 i)), (0, .ref (g 1)), (1, .int (nI k)), (2, .int w), (3, .int (nI la)), (4, .ref (g 16)), (5, .int (nI n))]) hx hb dX2_guessBits_107 hl (k := 1) rfl (by first | rfl | decide) (by decide) rfl (fun ls hl => ?_)
              refine lv_goto (tgt := 15) hx hb dX2_guessBits_110 (by decide) ?_
              (try rw [ef_22] at hP); (try rw [ef_22] at hD); (try rw [ef_22] at hl); (try rw [ef_22] at c_18); (try rw [ef_22] at c_95); (try rw [ef_22])
              exact ih_15 (i + 1) (gb_ B k w f n 1 i) ((nI (1 + i)) + 1) u_24 (by first | exact gb_y (by unfold ug_; first | rw [if_pos (by assumption)] | rw [if_neg (by assumption), if_pos (by assumption)] | rw [if_neg (by assumption), if_neg (by assumption)]) c_95 | exact gb_n (by unfold ug_; first | rw [if_pos (by assumption)] | rw [if_neg (by assumption), if_pos (by assumption)] | rw [if_neg (by assumption), if_neg (by assumption)]) c_95) (nI_1 _) (by omega) (by omega) _ _ hP hD hS ls (lv_sub hl [0, 2, 3, 4, 5, 6, 7, 8] rfl)
            · replace c_95 := b1_n c_95
              refine lv_iload hx hb dX2_guessBits_98 (lv_at hl 2 rfl) ?_
              refine lv_iconst (v := 1) hx hb dX2_guessBits_100 (by decide) ?_
              refine lv_iload hx hb dX2_guessBits_101 (lv_at hl 1 rfl) ?_
              refine lv_ishl hx hb dX2_guessBits_103 ?_
              refine lv_ior hx hb dX2_guessBits_104 ?_
              refine lv_istore (lv' := [(6, .int ((gb_ B k w f n 1 i) ||| (1 <<< ((nI (1 + i)) &&& 31)))), (8, .ref (g 10)), (7, .int (nI (1 + i))), (0, .ref (g 1)), (1, .int (nI k)), (2, .int w), (3, .int (nI la)), (4, .ref (g 16)), (5, .int (nI n))]) hx hb dX2_guessBits_105 hl (by decide) rfl (fun ls hl => ?_)
              refine lv_iinc (v := (nI (1 + i)) + 1) (lv' := [(7, .int ((nI (1 + i)) + 1)), (6, .int ((gb_ B k w f n 1 i) ||| (1 <<< ((nI (1 + i)) &&& 31)))), (8, .ref (g 10)), (0, .ref (g 1)), (1, .int (nI k)), (2, .int w), (3, .int (nI la)), (4, .ref (g 16)), (5, .int (nI n))]) hx hb dX2_guessBits_107 hl (k := 2) rfl (by first | rfl | decide) (by decide) rfl (fun ls hl => ?_)
              refine lv_goto (tgt := 15) hx hb dX2_guessBits_110 (by decide) ?_
              (try rw [ef_22] at hP); (try rw [ef_22] at hD); (try rw [ef_22] at hl); (try rw [ef_22] at c_18); (try rw [ef_22] at c_95); (try rw [ef_22])
              exact ih_15 (i + 1) ((gb_ B k w f n 1 i) ||| (1 <<< ((nI (1 + i)) &&& 31))) ((nI (1 + i)) + 1) u_24 (by first | exact gb_y (by unfold ug_; first | rw [if_pos (by assumption)] | rw [if_neg (by assumption), if_pos (by assumption)] | rw [if_neg (by assumption), if_neg (by assumption)]) c_95 | exact gb_n (by unfold ug_; first | rw [if_pos (by assumption)] | rw [if_neg (by assumption), if_pos (by assumption)] | rw [if_neg (by assumption), if_neg (by assumption)]) c_95) (nI_1 _) (by omega) (by omega) _ _ hP hD hS ls (lv_sub hl [0, 1, 3, 4, 5, 6, 7, 8] rfl)
          refine lv_lookup (off := 52) (tgt := 80) hx hb dX2_guessBits_28 (by decide) (by rw [lv_osw c_28_0 (by decide)]; rw [lv_osw c_28_1 (by decide)]; rfl) (by decide) ?_
          refine lv_aload hx hb dX2_guessBits_80 (lv_at hl 0 rfl) ?_
          refine lv_iload hx hb dX2_guessBits_82 (lv_at hl 1 rfl) ?_
          refine va_putN (ci := 0) (ty := .int) (C := RX0) (T := TX0) (N := 11) hx hb hts hinX0 tyX0 tyX0_ok nmX0 hown hK.1 hP hD hS 7 rfl rfl 8 (by decide) (va_Nw.use rfl (hK.2 _ (List.mem_of_getElem? (i := 18) rfl))) (fun _ h9 => h9) rfl (by decide +kernel) (rfl) (rfl) (Nat.le_of_ble_eq_true rfl) dX2_guessBits_84 (fun H locs hP hD hS => ?_)
          replace hP : va_P D vwCl (miO g ++ bW cI g 4 B ++ bW cI g 10 (mkB (kd_ (B)) (fg_ (B)) (pl_ (B)) (pw_ (B)) (jy_ (B)) (qt_ (B)) (sn_ (B)) (il_ (B)) (nI (1 + i)) (ho_ (B)) (dy_ (B))) ++ [(g 16, .inl (cI, 12, .inl f))]) H := hP
          replace hD : va_D A (miO g ++ bW cI g 4 B ++ bW cI g 10 (mkB (kd_ (B)) (fg_ (B)) (pl_ (B)) (pw_ (B)) (jy_ (B)) (qt_ (B)) (sn_ (B)) (il_ (B)) (nI (1 + i)) (ho_ (B)) (dy_ (B))) ++ [(g 16, .inl (cI, 12, .inl f))]) := hD
          refine lv_aload_n hx hb dX2_guessBits_87 rfl (lv_at hl 3 rfl) ?_
          refine lv_aload hx hb dX2_guessBits_88 (lv_at hl 7 rfl) ?_
          refine lv_iload hx hb dX2_guessBits_90 (lv_at hl 8 rfl) ?_
          refine kMiV hx hb hml hown hts hK hP hD hA hS gX2_guessBits_X2_goesAsTold okX2_goesAsTold (qX2_goesAsTold l D cI cB g B (mkB (kd_ (B)) (fg_ (B)) (pl_ (B)) (pw_ (B)) (jy_ (B)) (qt_ (B)) (sn_ (B)) (il_ (B)) (nI (1 + i)) (ho_ (B)) (dy_ (B))) f n (by show sn_ B ≤ 7; omega) (by show sn_ B ≤ 7; omega) (by omega)) [0, 1, 2, 3, 4, 5, 6, 7, 8, 9, 10, 11, 12, 13] rfl (by decide) (fun _ => rfl) rfl rfl rfl (by decide) hl.1 rfl rfl (Nat.le_of_ble_eq_true rfl) dX2_guessBits_92 (by decide) (fun r_26 u_27 H locs hw_28 hP hD hS => ?_)
          replace hw_28 : r_26 = b1 (ro_ f (mkB (kd_ (B)) (fg_ (B)) (pl_ (B)) (pw_ (B)) (jy_ (B)) (qt_ (B)) (sn_ (B)) (il_ (B)) (nI (1 + i)) (ho_ (B)) (dy_ (B))) n 0 = true) := hw_28
          subst r_26
          replace hP : va_P D vwCl (miO g ++ bW cI g 4 B ++ bW cI g 10 u_27 ++ [(g 16, .inl (cI, 12, .inl f))]) H := hP
          replace hD : va_D A (miO g ++ bW cI g 4 B ++ bW cI g 10 u_27 ++ [(g 16, .inl (cI, 12, .inl f))]) := hD
          refine lv_if_eq (tgt := 107) hx hb dX2_guessBits_95 (by decide) (fun c_95 => ?_) (fun c_95 => ?_)
          · replace c_95 := b1_z c_95
            refine lv_iinc (v := (nI (1 + i)) + 1) (lv' := [(7, .int ((nI (1 + i)) + 1)), (8, .ref (g 10)), (6, .int (gb_ B k w f n 1 i)), (0, .ref (g 1)), (1, .int (nI k)), (2, .int w), (3, .int (nI la)), (4, .ref (g 16)), (5, .int (nI n))]) hx hb dX2_guessBits_107 hl (k := 1) rfl (by first | rfl | decide) (by decide) rfl (fun ls hl => ?_)
            refine lv_goto (tgt := 15) hx hb dX2_guessBits_110 (by decide) ?_
            exact ih_15 (i + 1) (gb_ B k w f n 1 i) ((nI (1 + i)) + 1) u_27 (by first | exact gb_y (by unfold ug_; first | rw [if_pos (by assumption)] | rw [if_neg (by assumption), if_pos (by assumption)] | rw [if_neg (by assumption), if_neg (by assumption)]) c_95 | exact gb_n (by unfold ug_; first | rw [if_pos (by assumption)] | rw [if_neg (by assumption), if_pos (by assumption)] | rw [if_neg (by assumption), if_neg (by assumption)]) c_95) (nI_1 _) (by omega) (by omega) _ _ hP hD hS ls (lv_sub hl [0, 2, 3, 4, 5, 6, 7, 8] rfl)
          · replace c_95 := b1_n c_95
            refine lv_iload hx hb dX2_guessBits_98 (lv_at hl 2 rfl) ?_
            refine lv_iconst (v := 1) hx hb dX2_guessBits_100 (by decide) ?_
            refine lv_iload hx hb dX2_guessBits_101 (lv_at hl 1 rfl) ?_
            refine lv_ishl hx hb dX2_guessBits_103 ?_
            refine lv_ior hx hb dX2_guessBits_104 ?_
            refine lv_istore (lv' := [(6, .int ((gb_ B k w f n 1 i) ||| (1 <<< ((nI (1 + i)) &&& 31)))), (8, .ref (g 10)), (7, .int (nI (1 + i))), (0, .ref (g 1)), (1, .int (nI k)), (2, .int w), (3, .int (nI la)), (4, .ref (g 16)), (5, .int (nI n))]) hx hb dX2_guessBits_105 hl (by decide) rfl (fun ls hl => ?_)
            refine lv_iinc (v := (nI (1 + i)) + 1) (lv' := [(7, .int ((nI (1 + i)) + 1)), (6, .int ((gb_ B k w f n 1 i) ||| (1 <<< ((nI (1 + i)) &&& 31)))), (8, .ref (g 10)), (0, .ref (g 1)), (1, .int (nI k)), (2, .int w), (3, .int (nI la)), (4, .ref (g 16)), (5, .int (nI n))]) hx hb dX2_guessBits_107 hl (k := 2) rfl (by first | rfl | decide) (by decide) rfl (fun ls hl => ?_)
            refine lv_goto (tgt := 15) hx hb dX2_guessBits_110 (by decide) ?_
            exact ih_15 (i + 1) ((gb_ B k w f n 1 i) ||| (1 <<< ((nI (1 + i)) &&& 31))) ((nI (1 + i)) + 1) u_27 (by first | exact gb_y (by unfold ug_; first | rw [if_pos (by assumption)] | rw [if_neg (by assumption), if_pos (by assumption)] | rw [if_neg (by assumption), if_neg (by assumption)]) c_95 | exact gb_n (by unfold ug_; first | rw [if_pos (by assumption)] | rw [if_neg (by assumption), if_pos (by assumption)] | rw [if_neg (by assumption), if_neg (by assumption)]) c_95) (nI_1 _) (by omega) (by omega) _ _ hP hD hS ls (lv_sub hl [0, 1, 3, 4, 5, 6, 7, 8] rfl)
    exact lp_15 ((la + 1 - 1) + 1) 0 0 1 T (rfl) (rfl) (by omega) (by omega) _ _ hP hD hS ls (lv_sub hl [0, 1, 2, 3, 4, 5, 6, 7] rfl)

theorem okX2_firstWrong : jok yX2_firstWrong wsX2_firstWrong cX2_firstWrong 6 (some .int) 2 := ⟨⟨_, rfl⟩, by decide +kernel, by decide +kernel⟩
set_option maxHeartbeats 1000000 in
set_option maxRecDepth 100000 in
theorem qX2_firstWrong (l : Launch) (D : va_G) (cI cB : ClassId) (g : Nat → Nat) (B : BayT) (T : BayT) (f : Nat → Int32) (n : Nat) (hn7 : sn_ B ≤ 7) (hn : n ≤ 12) : jMi D cI cB l yX2_firstWrong wsX2_firstWrong 4 [.ref (g 1), .ref (g 16), .int (nI n)] (miO g ++ bW cI g 4 B ++ bW cI g 10 T ++ [(g 16, .inl (cI, 12, .inl f))]) (S := BayT) (fun r u => r = oI_ (fx_ f B n 0)) (fun u => miO g ++ bW cI g 4 B ++ bW cI g 10 u ++ [(g 16, .inl (cI, 12, .inl f))]) := by
  refine jMi.of (cc := cX2_firstWrong) (maxL := 6) (ret := (some .int)) okX2_firstWrong (Nat.le_of_ble_eq_true rfl) ?_
  intro p e s m below meth c ls A hx hb hr hts hown hlk hml hP hK hD hA hS hl
  replace hown : s.vm.findClass RX2 = some m.cls := hown
  replace hl : lv_has ls 6 [(0, .ref (g 1)), (1, .ref (g 16)), (2, .int (nI n))] := hl
  have hinX0 : ∀ w ∈ wsX00, w ∈ wsX2_firstWrong := by decide +kernel
  refine lv_aload_n hx hb dX2_firstWrong_0 rfl (lv_at hl 0 rfl) ?_
  refine kMrV hx hb hml hown hts hK hP hD hA hS gX2_firstWrong_X2_asNow okX2_asNow (qX2_asNow l D cI cB g B T ) [0, 1, 2, 3, 4, 5, 6, 7, 8, 9, 10, 11, 12] rfl (by decide) (fun _ => rfl) rfl rfl rfl (by decide) hl.1 rfl rfl (Nat.le_of_ble_eq_true rfl) dX2_firstWrong_1 (by decide) (fun u_2 H locs hw_3 hP hD hS => ?_)
  replace hw_3 : u_2 = B := hw_3
  subst u_2
  replace hP : va_P D vwCl (miO g ++ bW cI g 4 B ++ bW cI g 10 (B) ++ [(g 16, .inl (cI, 12, .inl f))]) H := hP
  replace hD : va_D A (miO g ++ bW cI g 4 B ++ bW cI g 10 (B) ++ [(g 16, .inl (cI, 12, .inl f))]) := hD
  refine lv_astore_n (lv' := [(3, .ref (g 10)), (0, .ref (g 1)), (1, .ref (g 16)), (2, .int (nI n))]) hx hb dX2_firstWrong_4 rfl hl (by decide) rfl (fun ls hl => ?_)
  refine lv_iconst (v := 0) hx hb dX2_firstWrong_5 (by decide) ?_
  refine lv_istore (lv' := [(4, .int 0), (3, .ref (g 10)), (0, .ref (g 1)), (1, .ref (g 16)), (2, .int (nI n))]) hx hb dX2_firstWrong_6 hl (by decide) rfl (fun ls hl => ?_)
  have lp_8 : ∀ (fu_8 : Nat) (i : Nat) (x4_8 : Int32) (T2 : BayT), (x4_8 = nI i) → (T2 = hs_ i B) → (i ≤ n) → (fx_ f B (n - i) i = fx_ f B n 0) → n - i < fu_8 → ∀ (H : Heap) (locs : List Loc), va_P D vwCl (miO g ++ bW cI g 4 B ++ bW cI g 10 T2 ++ [(g 16, .inl (cI, 12, .inl f))]) H → va_D A (miO g ++ bW cI g 4 B ++ bW cI g 10 T2 ++ [(g 16, .inl (cI, 12, .inl f))]) → va_S A s.heap H locs → ∀ ls : Array Slot, lv_has ls 6 [(4, .int x4_8), (3, .ref (g 10)), (0, .ref (g 1)), (1, .ref (g 16)), (2, .int (nI n))] → W p l e (jR 4) s m ([.ref (g 1), .ref (g 16), .int (nI n)] : List Value).toArray below meth c H locs 0 0 (MQ below (va_Qi (S := BayT) (fun r u => r = oI_ (fx_ f B n 0)) (fun u t => va_P D vwCl ((fun u => miO g ++ bW cI g 4 B ++ bW cI g 10 u ++ [(g 16, .inl (cI, 12, .inl f))]) u) t.heap) A) ([.ref (g 1), .ref (g 16), .int (nI n)] : List Value).toArray s 0 0 A) (F0 m 8 ls []) := by
    intro fu_8
    induction fu_8 with
    | zero => intro i x4_8 T2 hx4_8 hT2 hi hre hfu; exact absurd hfu (Nat.not_lt_zero _)
    | succ fu_8 ih_8 =>
      intro i x4_8 T2 hx4_8 hT2 hi hre hfu_8 H locs hP hD hS ls hl
      subst x4_8
      subst T2
      replace hl : lv_has ls 6 [(4, .int (nI i)), (3, .ref (g 10)), (0, .ref (g 1)), (1, .ref (g 16)), (2, .int (nI n))] := hl
      replace hP : va_P D vwCl (miO g ++ bW cI g 4 B ++ bW cI g 10 (hs_ i B) ++ [(g 16, .inl (cI, 12, .inl f))]) H := hP
      replace hD : va_D A (miO g ++ bW cI g 4 B ++ bW cI g 10 (hs_ i B) ++ [(g 16, .inl (cI, 12, .inl f))]) := hD
      refine lv_iload hx hb dX2_firstWrong_8 (lv_at hl 0 rfl) ?_
      refine lv_iload_n hx hb dX2_firstWrong_10 rfl (lv_at hl 4 rfl) ?_
      refine lv_icmp_ge (tgt := 59) hx hb dX2_firstWrong_11 (by decide) (fun c_11 => ?_) (fun c_11 => ?_)
      · replace c_11 : nI n ≤ nI i := c_11
        rw [jle (by omega) (by omega)] at c_11
        refine lv_bipush (v := (-9)) hx hb dX2_firstWrong_59 (by decide) ?_
        refine rMi hx hb hr hlk hS (hs_ i B) hP ?_ dX2_firstWrong_61
        rw [fx_0 (by omega)] at hre; rw [← hre]; rfl
      · replace c_11 : ¬ nI n ≤ nI i := c_11
        rw [jle (by omega) (by omega)] at c_11
        refine lv_aload_n hx hb dX2_firstWrong_14 rfl (lv_at hl 1 rfl) ?_
        refine lv_aload_n hx hb dX2_firstWrong_15 rfl (lv_at hl 1 rfl) ?_
        refine va_getN (ci := 0) (C := RX0) (T := TX0) (N := 11) hx hb hts hinX0 hown hK.1 hP 7 rfl rfl 9 (by decide) (va_Nw.use rfl (hK.2 _ (List.mem_of_getElem? (i := 19) rfl))) (fun _ h9 => h9) rfl dX2_firstWrong_16 ?_
        refine kSiN hx hb hml hown hts hK hP gX2_firstWrong_X0_loudestAt_n137 (hK.2 _ (List.mem_of_getElem? (i := 116) rfl)) (hts _ (List.mem_of_getElem? (i := 9) rfl)) (hts _ (List.mem_of_getElem? (i := 27) rfl)) (hts _ (List.mem_of_getElem? (i := 28) rfl)) okX0_loudestAt (qX0_loudestAt l D cI cB g 10 (hs_ i B) (ho_ (hs_ i B)) (by show sn_ (hs_ _ _) ≤ 7; rw [sn_hs]; omega)) [7, 8, 9, 10, 11, 12] rfl rfl rfl rfl (by decide) hl.1 rfl rfl (Nat.le_of_ble_eq_true rfl) dX2_firstWrong_19 (by decide) (fun r_4 hr_5 => ?_)
        replace hr_5 : r_4 = oI_ (lt_ (hs_ i B) (ho_ (hs_ i B))) := hr_5
        subst r_4
        refine lv_istore (lv' := [(5, .int (oI_ (lt_ (hs_ i B) (ho_ (hs_ i B))))), (4, .int (nI i)), (3, .ref (g 10)), (0, .ref (g 1)), (1, .ref (g 16)), (2, .int (nI n))]) hx hb dX2_firstWrong_22 hl (by decide) rfl (fun ls hl => ?_)
        rcases hL : lt_ (hs_ i B) (ho_ (hs_ i B)) with _ | t
        · rw [hL] at hl
          replace hl : lv_has ls 6 [(5, .int (-9)), (4, .int (nI i)), (3, .ref (g 10)), (0, .ref (g 1)), (1, .ref (g 16)), (2, .int (nI n))] := hl
          refine lv_aload_n hx hb dX2_firstWrong_24 rfl (lv_at hl 4 rfl) ?_
          refine lv_iload hx hb dX2_firstWrong_25 (lv_at hl 1 rfl) ?_
          refine jald hx hb hK.1 hP 13 0 i rfl rfl rfl (by omega) (Nat.le_of_ble_eq_true rfl) dX2_firstWrong_27 ?_
          refine lv_iload hx hb dX2_firstWrong_28 (lv_at hl 0 rfl) ?_
          refine lv_bipush (v := (-9)) hx hb dX2_firstWrong_30 (by decide) ?_
          refine lv_icmp_ne (tgt := 40) hx hb dX2_firstWrong_32 (by decide) (fun q => absurd q (by decide)) (fun _ => ?_)
          refine lv_bipush (v := 9) hx hb dX2_firstWrong_35 (by decide) ?_
          refine lv_goto (tgt := 42) hx hb dX2_firstWrong_37 (by decide) ?_
          refine lv_icmp_eq (tgt := 48) hx hb dX2_firstWrong_42 (by decide) (fun c_42 => ?_) (fun c_42 => ?_)
          · skip
            refine lv_aload_n hx hb dX2_firstWrong_48 rfl (lv_at hl 2 rfl) ?_
            refine lv_iconst (v := 0) hx hb dX2_firstWrong_49 (by decide) ?_
            refine kMvN hx hb hml hown hts hK hP hD hA hS gX2_firstWrong_X0_passHour_n40 (hK.2 _ (List.mem_of_getElem? (i := 85) rfl)) (hts _ (List.mem_of_getElem? (i := 9) rfl)) (hts _ (List.mem_of_getElem? (i := 58) rfl)) (hts _ (List.mem_of_getElem? (i := 59) rfl)) okX0_passHour (qX0_passHour l D cI cB g 10 (hs_ i B) False inferInstance (by show sn_ (hs_ _ _) ≤ 7; rw [sn_hs]; omega)) [7, 8, 9, 10, 11, 12] rfl (by decide) (fun _ => rfl) rfl rfl rfl (by decide) hl.1 rfl rfl (Nat.le_of_ble_eq_true rfl) dX2_firstWrong_50 (by decide) (fun u_7 H locs hw_8 hP hD hS => ?_)
            replace hw_8 : u_7 = hb_ False (hs_ i B) := hw_8
            subst u_7
            replace hP : va_P D vwCl (miO g ++ bW cI g 4 B ++ bW cI g 10 (hb_ False (hs_ i B)) ++ [(g 16, .inl (cI, 12, .inl f))]) H := hP
            replace hD : va_D A (miO g ++ bW cI g 4 B ++ bW cI g 10 (hb_ False (hs_ i B)) ++ [(g 16, .inl (cI, 12, .inl f))]) := hD
            refine lv_iinc (v := (nI i) + 1) (lv' := [(4, .int ((nI i) + 1)), (5, .int (-9)), (3, .ref (g 10)), (0, .ref (g 1)), (1, .ref (g 16)), (2, .int (nI n))]) hx hb dX2_firstWrong_53 hl (k := 1) rfl (by first | rfl | decide) (by decide) rfl (fun ls hl => ?_)
            refine lv_goto (tgt := 8) hx hb dX2_firstWrong_56 (by decide) ?_
            exact ih_8 (i + 1) ((nI i) + 1) (hb_ False (hs_ i B)) (by first | rfl | exact nI_1 _) (rfl) (by omega) (by rw [fx_s (by omega), if_pos (by rw [hL]; exact c_42)] at hre; exact hre) (by omega) _ _ hP hD hS ls (lv_sub hl [0, 2, 3, 4, 5] rfl)
          · skip
            refine lv_iload hx hb dX2_firstWrong_45 (lv_at hl 1 rfl) ?_
            refine rMi hx hb hr hlk hS (hs_ i B) hP ?_ dX2_firstWrong_47
            rw [fx_s (by omega), if_neg (by rw [hL]; exact c_42)] at hre; rw [← hre]; rfl
        · rw [hL] at hl
          replace hl : lv_has ls 6 [(5, .int (nI t)), (4, .int (nI i)), (3, .ref (g 10)), (0, .ref (g 1)), (1, .ref (g 16)), (2, .int (nI n))] := hl
          have ht : t < sn_ B := by have := (lo_lt _ _ hL).1; rw [sn_hs] at this; exact this
          refine lv_aload_n hx hb dX2_firstWrong_24 rfl (lv_at hl 4 rfl) ?_
          refine lv_iload hx hb dX2_firstWrong_25 (lv_at hl 1 rfl) ?_
          refine jald hx hb hK.1 hP 13 0 i rfl rfl rfl (by omega) (Nat.le_of_ble_eq_true rfl) dX2_firstWrong_27 ?_
          refine lv_iload hx hb dX2_firstWrong_28 (lv_at hl 0 rfl) ?_
          refine lv_bipush (v := (-9)) hx hb dX2_firstWrong_30 (by decide) ?_
          refine lv_icmp_ne (tgt := 40) hx hb dX2_firstWrong_32 (by decide) (fun _ => ?_) (fun q => absurd q (nI_m9 (by omega)))
          refine lv_iload hx hb dX2_firstWrong_40 (lv_at hl 0 rfl) ?_
          refine lv_icmp_eq (tgt := 48) hx hb dX2_firstWrong_42 (by decide) (fun c_42 => ?_) (fun c_42 => ?_)
          · skip
            refine lv_aload_n hx hb dX2_firstWrong_48 rfl (lv_at hl 2 rfl) ?_
            refine lv_iconst (v := 0) hx hb dX2_firstWrong_49 (by decide) ?_
            refine kMvN hx hb hml hown hts hK hP hD hA hS gX2_firstWrong_X0_passHour_n40 (hK.2 _ (List.mem_of_getElem? (i := 85) rfl)) (hts _ (List.mem_of_getElem? (i := 9) rfl)) (hts _ (List.mem_of_getElem? (i := 58) rfl)) (hts _ (List.mem_of_getElem? (i := 59) rfl)) okX0_passHour (qX0_passHour l D cI cB g 10 (hs_ i B) False inferInstance (by show sn_ (hs_ _ _) ≤ 7; rw [sn_hs]; omega)) [7, 8, 9, 10, 11, 12] rfl (by decide) (fun _ => rfl) rfl rfl rfl (by decide) hl.1 rfl rfl (Nat.le_of_ble_eq_true rfl) dX2_firstWrong_50 (by decide) (fun u_10 H locs hw_11 hP hD hS => ?_)
            replace hw_11 : u_10 = hb_ False (hs_ i B) := hw_11
            subst u_10
            replace hP : va_P D vwCl (miO g ++ bW cI g 4 B ++ bW cI g 10 (hb_ False (hs_ i B)) ++ [(g 16, .inl (cI, 12, .inl f))]) H := hP
            replace hD : va_D A (miO g ++ bW cI g 4 B ++ bW cI g 10 (hb_ False (hs_ i B)) ++ [(g 16, .inl (cI, 12, .inl f))]) := hD
            refine lv_iinc (v := (nI i) + 1) (lv' := [(4, .int ((nI i) + 1)), (5, .int (nI t)), (3, .ref (g 10)), (0, .ref (g 1)), (1, .ref (g 16)), (2, .int (nI n))]) hx hb dX2_firstWrong_53 hl (k := 1) rfl (by first | rfl | decide) (by decide) rfl (fun ls hl => ?_)
            refine lv_goto (tgt := 8) hx hb dX2_firstWrong_56 (by decide) ?_
            exact ih_8 (i + 1) ((nI i) + 1) (hb_ False (hs_ i B)) (by first | rfl | exact nI_1 _) (rfl) (by omega) (by rw [fx_s (by omega), if_pos (by rw [hL]; exact c_42)] at hre; exact hre) (by omega) _ _ hP hD hS ls (lv_sub hl [0, 2, 3, 4, 5] rfl)
          · skip
            refine lv_iload hx hb dX2_firstWrong_45 (lv_at hl 1 rfl) ?_
            refine rMi hx hb hr hlk hS (hs_ i B) hP ?_ dX2_firstWrong_47
            rw [fx_s (by omega), if_neg (by rw [hL]; exact c_42)] at hre; rw [← hre]; rfl
  exact lp_8 (n + 1) 0 0 (B) (by first | rfl | exact nI_0.symm) (rfl) (by omega) (rfl) (by omega) _ _ hP hD hS ls (lv_sub hl [0, 1, 2, 3, 4] rfl)

theorem okX2_timesByTreaty : jok yX2_timesByTreaty wsX2_timesByTreaty cX2_timesByTreaty 6 (some .int) 4 := ⟨⟨_, rfl⟩, by decide +kernel, by decide +kernel⟩
set_option maxHeartbeats 1000000 in
set_option maxRecDepth 100000 in
theorem qX2_timesByTreaty (l : Launch) (D : va_G) (cI cB : ClassId) (g : Nat → Nat) (B : BayT) (T : BayT) (a : Nat) (b : Nat) (j : Nat) (k : Nat) (hn7 : sn_ B ≤ 7) (ha : a < 7) (hb7 : b < 7) (hj : j < 4) (hk : k < 7) : jMi D cI cB l yX2_timesByTreaty wsX2_timesByTreaty 5 [.ref (g 1), .int (nI a), .int (nI b), .int (nI j), .int (nI k)] (miO g ++ bW cI g 4 B ++ bW cI g 10 T) (S := BayT) (fun r u => r = tc_ (tt_ B a b j) k 12) (fun u => miO g ++ bW cI g 4 B ++ bW cI g 10 u) := by
  refine jMi.of (cc := cX2_timesByTreaty) (maxL := 6) (ret := (some .int)) okX2_timesByTreaty (Nat.le_of_ble_eq_true rfl) ?_
  intro p e s m below meth c ls A hx hb hr hts hown hlk hml hP hK hD hA hS hl
  replace hown : s.vm.findClass RX2 = some m.cls := hown
  replace hl : lv_has ls 6 [(0, .ref (g 1)), (1, .int (nI a)), (2, .int (nI b)), (3, .int (nI j)), (4, .int (nI k))] := hl
  refine lv_aload_n hx hb dX2_timesByTreaty_0 rfl (lv_at hl 0 rfl) ?_
  refine kMrV hx hb hml hown hts hK hP hD hA hS gX2_timesByTreaty_X2_asNow okX2_asNow (qX2_asNow l D cI cB g B T ) [0, 1, 2, 3, 4, 5, 6, 7, 8, 9, 10, 11, 12] rfl (by decide) (fun _ => rfl) rfl rfl rfl (by decide) hl.1 rfl rfl (Nat.le_of_ble_eq_true rfl) dX2_timesByTreaty_1 (by decide) (fun u_2 H locs hw_3 hP hD hS => ?_)
  replace hw_3 : u_2 = B := hw_3
  subst u_2
  replace hP : va_P D vwCl (miO g ++ bW cI g 4 B ++ bW cI g 10 (B)) H := hP
  replace hD : va_D A (miO g ++ bW cI g 4 B ++ bW cI g 10 (B)) := hD
  refine lv_astore (lv' := [(5, .ref (g 10)), (0, .ref (g 1)), (1, .int (nI a)), (2, .int (nI b)), (3, .int (nI j)), (4, .int (nI k))]) hx hb dX2_timesByTreaty_4 hl (by decide) rfl (fun ls hl => ?_)
  refine lv_aload hx hb dX2_timesByTreaty_6 (lv_at hl 0 rfl) ?_
  refine lv_iload_n hx hb dX2_timesByTreaty_8 rfl (lv_at hl 2 rfl) ?_
  refine lv_iload_n hx hb dX2_timesByTreaty_9 rfl (lv_at hl 4 rfl) ?_
  refine lv_iconst (v := 2) hx hb dX2_timesByTreaty_10 (by decide) ?_
  refine lv_idiv hx hb dX2_timesByTreaty_11 (by decide) ?_
  refine lv_if_ne (tgt := 19) hx hb dX2_timesByTreaty_12 (by decide) (fun c_12 => ?_) (fun c_12 => ?_)
  · rw [(jd2 hj).1] at c_12
    refine lv_iconst (v := 0) hx hb dX2_timesByTreaty_19 (by decide) ?_
    refine kMvN hx hb hml hown hts hK hP hD hA hS gX2_timesByTreaty_X0_setQuiet_n144 (hK.2 _ (List.mem_of_getElem? (i := 109) rfl)) (hts _ (List.mem_of_getElem? (i := 9) rfl)) (hts _ (List.mem_of_getElem? (i := 27) rfl)) (hts _ (List.mem_of_getElem? (i := 28) rfl)) okX0_setQuiet (qX0_setQuiet l D cI cB g 10 (B) a False inferInstance (by show sn_ (B) ≤ 7; omega) (by omega)) [7, 8, 9, 10, 11, 12] rfl (by decide) (fun _ => rfl) rfl rfl rfl (by decide) hl.1 rfl rfl (Nat.le_of_ble_eq_true rfl) dX2_timesByTreaty_20 (by decide) (fun u_5 H locs hw_6 hP hD hS => ?_)
    replace hw_6 : u_5 = uq_ (B) (sq_ False (qt_ (B)) a) := hw_6
    subst u_5
    replace hP : va_P D vwCl (miO g ++ bW cI g 4 B ++ bW cI g 10 (uq_ (B) (sq_ False (qt_ (B)) a))) H := hP
    replace hD : va_D A (miO g ++ bW cI g 4 B ++ bW cI g 10 (uq_ (B) (sq_ False (qt_ (B)) a))) := hD
    refine lv_aload hx hb dX2_timesByTreaty_23 (lv_at hl 0 rfl) ?_
    refine lv_iload_n hx hb dX2_timesByTreaty_25 rfl (lv_at hl 3 rfl) ?_
    refine lv_iload_n hx hb dX2_timesByTreaty_26 rfl (lv_at hl 4 rfl) ?_
    refine lv_iconst (v := 2) hx hb dX2_timesByTreaty_27 (by decide) ?_
    refine lv_irem hx hb dX2_timesByTreaty_28 (by decide) ?_
    refine lv_if_ne (tgt := 36) hx hb dX2_timesByTreaty_29 (by decide) (fun c_29 => ?_) (fun c_29 => ?_)
    · rw [(jd2 hj).2] at c_29
      refine lv_iconst (v := 0) hx hb dX2_timesByTreaty_36 (by decide) ?_
      refine kMvN hx hb hml hown hts hK hP hD hA hS gX2_timesByTreaty_X0_setQuiet_n144 (hK.2 _ (List.mem_of_getElem? (i := 109) rfl)) (hts _ (List.mem_of_getElem? (i := 9) rfl)) (hts _ (List.mem_of_getElem? (i := 27) rfl)) (hts _ (List.mem_of_getElem? (i := 28) rfl)) okX0_setQuiet (qX0_setQuiet l D cI cB g 10 (uq_ (B) (sq_ False (qt_ (B)) a)) b False inferInstance (by show sn_ (B) ≤ 7; omega) (by omega)) [7, 8, 9, 10, 11, 12] rfl (by decide) (fun _ => rfl) rfl rfl rfl (by decide) hl.1 rfl rfl (Nat.le_of_ble_eq_true rfl) dX2_timesByTreaty_37 (by decide) (fun u_8 H locs hw_9 hP hD hS => ?_)
      replace hw_9 : u_8 = uq_ (uq_ (B) (sq_ False (qt_ (B)) a)) (sq_ False (qt_ (uq_ (B) (sq_ False (qt_ (B)) a))) b) := hw_9
      subst u_8
      replace hP : va_P D vwCl (miO g ++ bW cI g 4 B ++ bW cI g 10 (uq_ (uq_ (B) (sq_ False (qt_ (B)) a)) (sq_ False (qt_ (uq_ (B) (sq_ False (qt_ (B)) a))) b))) H := hP
      replace hD : va_D A (miO g ++ bW cI g 4 B ++ bW cI g 10 (uq_ (uq_ (B) (sq_ False (qt_ (B)) a)) (sq_ False (qt_ (uq_ (B) (sq_ False (qt_ (B)) a))) b))) := hD
      refine lv_aload_n hx hb dX2_timesByTreaty_40 rfl (lv_at hl 1 rfl) ?_
      refine lv_iload hx hb dX2_timesByTreaty_41 (lv_at hl 5 rfl) ?_
      refine lv_bipush (v := 12) hx hb dX2_timesByTreaty_43 (by decide) ?_
      refine kMiV hx hb hml hown hts hK hP hD hA hS gX2_timesByTreaty_X2_timesFromHere okX2_timesFromHere (qX2_timesFromHere l D cI cB g B (uq_ (uq_ (B) (sq_ False (qt_ (B)) a)) (sq_ False (qt_ (uq_ (B) (sq_ False (qt_ (B)) a))) b)) k 12 (by show sn_ B ≤ 7; omega) (by show sn_ B ≤ 7; omega) (by omega) (by omega)) [0, 1, 2, 3, 4, 5, 6, 7, 8, 9, 10, 11, 12] rfl (by decide) (fun _ => rfl) rfl rfl rfl (by decide) hl.1 rfl rfl (Nat.le_of_ble_eq_true rfl) dX2_timesByTreaty_45 (by decide) (fun r_10 u_11 H locs hw_12 hP hD hS => ?_)
      replace hw_12 : r_10 = tc_ (uq_ (uq_ (B) (sq_ False (qt_ (B)) a)) (sq_ False (qt_ (uq_ (B) (sq_ False (qt_ (B)) a))) b)) k 12 ∧ u_11 = hs_ 12 (uq_ (uq_ (B) (sq_ False (qt_ (B)) a)) (sq_ False (qt_ (uq_ (B) (sq_ False (qt_ (B)) a))) b)) := hw_12
      obtain ⟨hw_12a, hw_12b⟩ := hw_12
      subst r_10
      subst u_11
      replace hP : va_P D vwCl (miO g ++ bW cI g 4 B ++ bW cI g 10 (hs_ 12 (uq_ (uq_ (B) (sq_ False (qt_ (B)) a)) (sq_ False (qt_ (uq_ (B) (sq_ False (qt_ (B)) a))) b)))) H := hP
      replace hD : va_D A (miO g ++ bW cI g 4 B ++ bW cI g 10 (hs_ 12 (uq_ (uq_ (B) (sq_ False (qt_ (B)) a)) (sq_ False (qt_ (uq_ (B) (sq_ False (qt_ (B)) a))) b)))) := hD
      refine rMi hx hb hr hlk hS (hs_ 12 (uq_ (uq_ (B) (sq_ False (qt_ (B)) a)) (sq_ False (qt_ (uq_ (B) (sq_ False (qt_ (B)) a))) b))) hP ?_ dX2_timesByTreaty_48
      rw [tt_e (j := j) (by simp [c_12]) (by simp [c_29])]
    · rw [(jd2 hj).2] at c_29
      refine lv_iconst (v := 1) hx hb dX2_timesByTreaty_32 (by decide) ?_
      refine lv_goto (tgt := 37) hx hb dX2_timesByTreaty_33 (by decide) ?_
      refine kMvN hx hb hml hown hts hK hP hD hA hS gX2_timesByTreaty_X0_setQuiet_n144 (hK.2 _ (List.mem_of_getElem? (i := 109) rfl)) (hts _ (List.mem_of_getElem? (i := 9) rfl)) (hts _ (List.mem_of_getElem? (i := 27) rfl)) (hts _ (List.mem_of_getElem? (i := 28) rfl)) okX0_setQuiet (qX0_setQuiet l D cI cB g 10 (uq_ (B) (sq_ False (qt_ (B)) a)) b True inferInstance (by show sn_ (B) ≤ 7; omega) (by omega)) [7, 8, 9, 10, 11, 12] rfl (by decide) (fun _ => rfl) rfl rfl rfl (by decide) hl.1 rfl rfl (Nat.le_of_ble_eq_true rfl) dX2_timesByTreaty_37 (by decide) (fun u_14 H locs hw_15 hP hD hS => ?_)
      replace hw_15 : u_14 = uq_ (uq_ (B) (sq_ False (qt_ (B)) a)) (sq_ True (qt_ (uq_ (B) (sq_ False (qt_ (B)) a))) b) := hw_15
      subst u_14
      replace hP : va_P D vwCl (miO g ++ bW cI g 4 B ++ bW cI g 10 (uq_ (uq_ (B) (sq_ False (qt_ (B)) a)) (sq_ True (qt_ (uq_ (B) (sq_ False (qt_ (B)) a))) b))) H := hP
      replace hD : va_D A (miO g ++ bW cI g 4 B ++ bW cI g 10 (uq_ (uq_ (B) (sq_ False (qt_ (B)) a)) (sq_ True (qt_ (uq_ (B) (sq_ False (qt_ (B)) a))) b))) := hD
      refine lv_aload_n hx hb dX2_timesByTreaty_40 rfl (lv_at hl 1 rfl) ?_
      refine lv_iload hx hb dX2_timesByTreaty_41 (lv_at hl 5 rfl) ?_
      refine lv_bipush (v := 12) hx hb dX2_timesByTreaty_43 (by decide) ?_
      refine kMiV hx hb hml hown hts hK hP hD hA hS gX2_timesByTreaty_X2_timesFromHere okX2_timesFromHere (qX2_timesFromHere l D cI cB g B (uq_ (uq_ (B) (sq_ False (qt_ (B)) a)) (sq_ True (qt_ (uq_ (B) (sq_ False (qt_ (B)) a))) b)) k 12 (by show sn_ B ≤ 7; omega) (by show sn_ B ≤ 7; omega) (by omega) (by omega)) [0, 1, 2, 3, 4, 5, 6, 7, 8, 9, 10, 11, 12] rfl (by decide) (fun _ => rfl) rfl rfl rfl (by decide) hl.1 rfl rfl (Nat.le_of_ble_eq_true rfl) dX2_timesByTreaty_45 (by decide) (fun r_16 u_17 H locs hw_18 hP hD hS => ?_)
      replace hw_18 : r_16 = tc_ (uq_ (uq_ (B) (sq_ False (qt_ (B)) a)) (sq_ True (qt_ (uq_ (B) (sq_ False (qt_ (B)) a))) b)) k 12 ∧ u_17 = hs_ 12 (uq_ (uq_ (B) (sq_ False (qt_ (B)) a)) (sq_ True (qt_ (uq_ (B) (sq_ False (qt_ (B)) a))) b)) := hw_18
      obtain ⟨hw_18a, hw_18b⟩ := hw_18
      subst r_16
      subst u_17
      replace hP : va_P D vwCl (miO g ++ bW cI g 4 B ++ bW cI g 10 (hs_ 12 (uq_ (uq_ (B) (sq_ False (qt_ (B)) a)) (sq_ True (qt_ (uq_ (B) (sq_ False (qt_ (B)) a))) b)))) H := hP
      replace hD : va_D A (miO g ++ bW cI g 4 B ++ bW cI g 10 (hs_ 12 (uq_ (uq_ (B) (sq_ False (qt_ (B)) a)) (sq_ True (qt_ (uq_ (B) (sq_ False (qt_ (B)) a))) b)))) := hD
      refine rMi hx hb hr hlk hS (hs_ 12 (uq_ (uq_ (B) (sq_ False (qt_ (B)) a)) (sq_ True (qt_ (uq_ (B) (sq_ False (qt_ (B)) a))) b))) hP ?_ dX2_timesByTreaty_48
      rw [tt_e (j := j) (by simp [c_12]) (by simp [c_29])]
  · rw [(jd2 hj).1] at c_12
    refine lv_iconst (v := 1) hx hb dX2_timesByTreaty_15 (by decide) ?_
    refine lv_goto (tgt := 20) hx hb dX2_timesByTreaty_16 (by decide) ?_
    refine kMvN hx hb hml hown hts hK hP hD hA hS gX2_timesByTreaty_X0_setQuiet_n144 (hK.2 _ (List.mem_of_getElem? (i := 109) rfl)) (hts _ (List.mem_of_getElem? (i := 9) rfl)) (hts _ (List.mem_of_getElem? (i := 27) rfl)) (hts _ (List.mem_of_getElem? (i := 28) rfl)) okX0_setQuiet (qX0_setQuiet l D cI cB g 10 (B) a True inferInstance (by show sn_ (B) ≤ 7; omega) (by omega)) [7, 8, 9, 10, 11, 12] rfl (by decide) (fun _ => rfl) rfl rfl rfl (by decide) hl.1 rfl rfl (Nat.le_of_ble_eq_true rfl) dX2_timesByTreaty_20 (by decide) (fun u_20 H locs hw_21 hP hD hS => ?_)
    replace hw_21 : u_20 = uq_ (B) (sq_ True (qt_ (B)) a) := hw_21
    subst u_20
    replace hP : va_P D vwCl (miO g ++ bW cI g 4 B ++ bW cI g 10 (uq_ (B) (sq_ True (qt_ (B)) a))) H := hP
    replace hD : va_D A (miO g ++ bW cI g 4 B ++ bW cI g 10 (uq_ (B) (sq_ True (qt_ (B)) a))) := hD
    refine lv_aload hx hb dX2_timesByTreaty_23 (lv_at hl 0 rfl) ?_
    refine lv_iload_n hx hb dX2_timesByTreaty_25 rfl (lv_at hl 3 rfl) ?_
    refine lv_iload_n hx hb dX2_timesByTreaty_26 rfl (lv_at hl 4 rfl) ?_
    refine lv_iconst (v := 2) hx hb dX2_timesByTreaty_27 (by decide) ?_
    refine lv_irem hx hb dX2_timesByTreaty_28 (by decide) ?_
    refine lv_if_ne (tgt := 36) hx hb dX2_timesByTreaty_29 (by decide) (fun c_29 => ?_) (fun c_29 => ?_)
    · rw [(jd2 hj).2] at c_29
      refine lv_iconst (v := 0) hx hb dX2_timesByTreaty_36 (by decide) ?_
      refine kMvN hx hb hml hown hts hK hP hD hA hS gX2_timesByTreaty_X0_setQuiet_n144 (hK.2 _ (List.mem_of_getElem? (i := 109) rfl)) (hts _ (List.mem_of_getElem? (i := 9) rfl)) (hts _ (List.mem_of_getElem? (i := 27) rfl)) (hts _ (List.mem_of_getElem? (i := 28) rfl)) okX0_setQuiet (qX0_setQuiet l D cI cB g 10 (uq_ (B) (sq_ True (qt_ (B)) a)) b False inferInstance (by show sn_ (B) ≤ 7; omega) (by omega)) [7, 8, 9, 10, 11, 12] rfl (by decide) (fun _ => rfl) rfl rfl rfl (by decide) hl.1 rfl rfl (Nat.le_of_ble_eq_true rfl) dX2_timesByTreaty_37 (by decide) (fun u_23 H locs hw_24 hP hD hS => ?_)
      replace hw_24 : u_23 = uq_ (uq_ (B) (sq_ True (qt_ (B)) a)) (sq_ False (qt_ (uq_ (B) (sq_ True (qt_ (B)) a))) b) := hw_24
      subst u_23
      replace hP : va_P D vwCl (miO g ++ bW cI g 4 B ++ bW cI g 10 (uq_ (uq_ (B) (sq_ True (qt_ (B)) a)) (sq_ False (qt_ (uq_ (B) (sq_ True (qt_ (B)) a))) b))) H := hP
      replace hD : va_D A (miO g ++ bW cI g 4 B ++ bW cI g 10 (uq_ (uq_ (B) (sq_ True (qt_ (B)) a)) (sq_ False (qt_ (uq_ (B) (sq_ True (qt_ (B)) a))) b))) := hD
      refine lv_aload_n hx hb dX2_timesByTreaty_40 rfl (lv_at hl 1 rfl) ?_
      refine lv_iload hx hb dX2_timesByTreaty_41 (lv_at hl 5 rfl) ?_
      refine lv_bipush (v := 12) hx hb dX2_timesByTreaty_43 (by decide) ?_
      refine kMiV hx hb hml hown hts hK hP hD hA hS gX2_timesByTreaty_X2_timesFromHere okX2_timesFromHere (qX2_timesFromHere l D cI cB g B (uq_ (uq_ (B) (sq_ True (qt_ (B)) a)) (sq_ False (qt_ (uq_ (B) (sq_ True (qt_ (B)) a))) b)) k 12 (by show sn_ B ≤ 7; omega) (by show sn_ B ≤ 7; omega) (by omega) (by omega)) [0, 1, 2, 3, 4, 5, 6, 7, 8, 9, 10, 11, 12] rfl (by decide) (fun _ => rfl) rfl rfl rfl (by decide) hl.1 rfl rfl (Nat.le_of_ble_eq_true rfl) dX2_timesByTreaty_45 (by decide) (fun r_25 u_26 H locs hw_27 hP hD hS => ?_)
      replace hw_27 : r_25 = tc_ (uq_ (uq_ (B) (sq_ True (qt_ (B)) a)) (sq_ False (qt_ (uq_ (B) (sq_ True (qt_ (B)) a))) b)) k 12 ∧ u_26 = hs_ 12 (uq_ (uq_ (B) (sq_ True (qt_ (B)) a)) (sq_ False (qt_ (uq_ (B) (sq_ True (qt_ (B)) a))) b)) := hw_27
      obtain ⟨hw_27a, hw_27b⟩ := hw_27
      subst r_25
      subst u_26
      replace hP : va_P D vwCl (miO g ++ bW cI g 4 B ++ bW cI g 10 (hs_ 12 (uq_ (uq_ (B) (sq_ True (qt_ (B)) a)) (sq_ False (qt_ (uq_ (B) (sq_ True (qt_ (B)) a))) b)))) H := hP
      replace hD : va_D A (miO g ++ bW cI g 4 B ++ bW cI g 10 (hs_ 12 (uq_ (uq_ (B) (sq_ True (qt_ (B)) a)) (sq_ False (qt_ (uq_ (B) (sq_ True (qt_ (B)) a))) b)))) := hD
      refine rMi hx hb hr hlk hS (hs_ 12 (uq_ (uq_ (B) (sq_ True (qt_ (B)) a)) (sq_ False (qt_ (uq_ (B) (sq_ True (qt_ (B)) a))) b))) hP ?_ dX2_timesByTreaty_48
      rw [tt_e (j := j) (by simp [c_12]) (by simp [c_29])]
    · rw [(jd2 hj).2] at c_29
      refine lv_iconst (v := 1) hx hb dX2_timesByTreaty_32 (by decide) ?_
      refine lv_goto (tgt := 37) hx hb dX2_timesByTreaty_33 (by decide) ?_
      refine kMvN hx hb hml hown hts hK hP hD hA hS gX2_timesByTreaty_X0_setQuiet_n144 (hK.2 _ (List.mem_of_getElem? (i := 109) rfl)) (hts _ (List.mem_of_getElem? (i := 9) rfl)) (hts _ (List.mem_of_getElem? (i := 27) rfl)) (hts _ (List.mem_of_getElem? (i := 28) rfl)) okX0_setQuiet (qX0_setQuiet l D cI cB g 10 (uq_ (B) (sq_ True (qt_ (B)) a)) b True inferInstance (by show sn_ (B) ≤ 7; omega) (by omega)) [7, 8, 9, 10, 11, 12] rfl (by decide) (fun _ => rfl) rfl rfl rfl (by decide) hl.1 rfl rfl (Nat.le_of_ble_eq_true rfl) dX2_timesByTreaty_37 (by decide) (fun u_29 H locs hw_30 hP hD hS => ?_)
      replace hw_30 : u_29 = uq_ (uq_ (B) (sq_ True (qt_ (B)) a)) (sq_ True (qt_ (uq_ (B) (sq_ True (qt_ (B)) a))) b) := hw_30
      subst u_29
      replace hP : va_P D vwCl (miO g ++ bW cI g 4 B ++ bW cI g 10 (uq_ (uq_ (B) (sq_ True (qt_ (B)) a)) (sq_ True (qt_ (uq_ (B) (sq_ True (qt_ (B)) a))) b))) H := hP
      replace hD : va_D A (miO g ++ bW cI g 4 B ++ bW cI g 10 (uq_ (uq_ (B) (sq_ True (qt_ (B)) a)) (sq_ True (qt_ (uq_ (B) (sq_ True (qt_ (B)) a))) b))) := hD
      refine lv_aload_n hx hb dX2_timesByTreaty_40 rfl (lv_at hl 1 rfl) ?_
      refine lv_iload hx hb dX2_timesByTreaty_41 (lv_at hl 5 rfl) ?_
      refine lv_bipush (v := 12) hx hb dX2_timesByTreaty_43 (by decide) ?_
      refine kMiV hx hb hml hown hts hK hP hD hA hS gX2_timesByTreaty_X2_timesFromHere okX2_timesFromHere (qX2_timesFromHere l D cI cB g B (uq_ (uq_ (B) (sq_ True (qt_ (B)) a)) (sq_ True (qt_ (uq_ (B) (sq_ True (qt_ (B)) a))) b)) k 12 (by show sn_ B ≤ 7; omega) (by show sn_ B ≤ 7; omega) (by omega) (by omega)) [0, 1, 2, 3, 4, 5, 6, 7, 8, 9, 10, 11, 12] rfl (by decide) (fun _ => rfl) rfl rfl rfl (by decide) hl.1 rfl rfl (Nat.le_of_ble_eq_true rfl) dX2_timesByTreaty_45 (by decide) (fun r_31 u_32 H locs hw_33 hP hD hS => ?_)
      replace hw_33 : r_31 = tc_ (uq_ (uq_ (B) (sq_ True (qt_ (B)) a)) (sq_ True (qt_ (uq_ (B) (sq_ True (qt_ (B)) a))) b)) k 12 ∧ u_32 = hs_ 12 (uq_ (uq_ (B) (sq_ True (qt_ (B)) a)) (sq_ True (qt_ (uq_ (B) (sq_ True (qt_ (B)) a))) b)) := hw_33
      obtain ⟨hw_33a, hw_33b⟩ := hw_33
      subst r_31
      subst u_32
      replace hP : va_P D vwCl (miO g ++ bW cI g 4 B ++ bW cI g 10 (hs_ 12 (uq_ (uq_ (B) (sq_ True (qt_ (B)) a)) (sq_ True (qt_ (uq_ (B) (sq_ True (qt_ (B)) a))) b)))) H := hP
      replace hD : va_D A (miO g ++ bW cI g 4 B ++ bW cI g 10 (hs_ 12 (uq_ (uq_ (B) (sq_ True (qt_ (B)) a)) (sq_ True (qt_ (uq_ (B) (sq_ True (qt_ (B)) a))) b)))) := hD
      refine rMi hx hb hr hlk hS (hs_ 12 (uq_ (uq_ (B) (sq_ True (qt_ (B)) a)) (sq_ True (qt_ (uq_ (B) (sq_ True (qt_ (B)) a))) b))) hP ?_ dX2_timesByTreaty_48
      rw [tt_e (j := j) (by simp [c_12]) (by simp [c_29])]

theorem okX2_weighTreaty : jok yX2_weighTreaty wsX2_weighTreaty cX2_weighTreaty 4 none 2 := ⟨⟨_, rfl⟩, by decide +kernel, by decide +kernel⟩
set_option maxHeartbeats 1000000 in
set_option maxRecDepth 100000 in
theorem qX2_weighTreaty (l : Launch) (D : va_G) (cI cB : ClassId) (g : Nat → Nat) (B : BayT) (T : BayT) (f1 : Nat → Int32) (f2 : Nat → Int32) (a : Nat) (b : Nat) (hn7 : sn_ B ≤ 7) (ha : a < 7) (hb7 : b < 7) : jMv D cI cB l yX2_weighTreaty wsX2_weighTreaty 6 [.ref (g 1), .int (nI a), .int (nI b)] (miO g ++ bW cI g 4 B ++ bW cI g 10 T ++ [(g 2, .inl (cI, 4, .inl f1))] ++ [(g 3, .inl (cI, 4, .inl f2))]) (S := BayT) (fun u => True) (fun u => miO g ++ bW cI g 4 B ++ bW cI g 10 u ++ [(g 2, .inl (cI, 4, .inl (fun j => tc_ (tt_ B a b j) a 12)))] ++ [(g 3, .inl (cI, 4, .inl (fun j => tc_ (tt_ B a b j) b 12)))]) := by
  refine jMv.of (cc := cX2_weighTreaty) (maxL := 4) (ret := none) okX2_weighTreaty (Nat.le_of_ble_eq_true rfl) ?_
  intro p e s m below meth c ls A hx hb hr hts hown hlk hml hP hK hD hA hS hl
  replace hown : s.vm.findClass RX2 = some m.cls := hown
  replace hl : lv_has ls 4 [(0, .ref (g 1)), (1, .int (nI a)), (2, .int (nI b))] := hl
  have hinX2 : ∀ w ∈ wsX20, w ∈ wsX2_weighTreaty := by decide +kernel
  refine lv_iconst (v := 0) hx hb dX2_weighTreaty_0 (by decide) ?_
  refine lv_istore_n (lv' := [(3, .int 0), (0, .ref (g 1)), (1, .int (nI a)), (2, .int (nI b))]) hx hb dX2_weighTreaty_1 rfl hl (by decide) rfl (fun ls hl => ?_)
  have lp_2 : ∀ (fu_2 : Nat) (i : Nat) (x3_2 : Int32) (T2 : BayT) (F1 : Nat → Int32) (F2 : Nat → Int32), (x3_2 = nI i) → (F1 = ta_ B a b a f1 i) → (F2 = ta_ B a b b f2 i) → (i ≤ 4) → 4 - i < fu_2 → ∀ (H : Heap) (locs : List Loc), va_P D vwCl (miO g ++ bW cI g 4 B ++ bW cI g 10 T2 ++ [(g 2, .inl (cI, 4, .inl F1))] ++ [(g 3, .inl (cI, 4, .inl F2))]) H → va_D A (miO g ++ bW cI g 4 B ++ bW cI g 10 T2 ++ [(g 2, .inl (cI, 4, .inl F1))] ++ [(g 3, .inl (cI, 4, .inl F2))]) → va_S A s.heap H locs → ∀ ls : Array Slot, lv_has ls 4 [(3, .int x3_2), (0, .ref (g 1)), (1, .int (nI a)), (2, .int (nI b))] → W p l e (jR 6) s m ([.ref (g 1), .int (nI a), .int (nI b)] : List Value).toArray below meth c H locs 0 0 (MQ below (va_Qv (S := BayT) (fun u => True) (fun u t => va_P D vwCl ((fun u => miO g ++ bW cI g 4 B ++ bW cI g 10 u ++ [(g 2, .inl (cI, 4, .inl (fun j => tc_ (tt_ B a b j) a 12)))] ++ [(g 3, .inl (cI, 4, .inl (fun j => tc_ (tt_ B a b j) b 12)))]) u) t.heap) A) ([.ref (g 1), .int (nI a), .int (nI b)] : List Value).toArray s 0 0 A) (F0 m 2 ls []) := by
    intro fu_2
    induction fu_2 with
    | zero => intro i x3_2 T2 F1 F2 hx3_2 hF1 hF2 hi hfu; exact absurd hfu (Nat.not_lt_zero _)
    | succ fu_2 ih_2 =>
      intro i x3_2 T2 F1 F2 hx3_2 hF1 hF2 hi hfu_2 H locs hP hD hS ls hl
      subst x3_2
      subst F1
      subst F2
      replace hl : lv_has ls 4 [(3, .int (nI i)), (0, .ref (g 1)), (1, .int (nI a)), (2, .int (nI b))] := hl
      replace hP : va_P D vwCl (miO g ++ bW cI g 4 B ++ bW cI g 10 T2 ++ [(g 2, .inl (cI, 4, .inl (ta_ B a b a f1 i)))] ++ [(g 3, .inl (cI, 4, .inl (ta_ B a b b f2 i)))]) H := hP
      replace hD : va_D A (miO g ++ bW cI g 4 B ++ bW cI g 10 T2 ++ [(g 2, .inl (cI, 4, .inl (ta_ B a b a f1 i)))] ++ [(g 3, .inl (cI, 4, .inl (ta_ B a b b f2 i)))]) := hD
      refine lv_iload_n hx hb dX2_weighTreaty_2 rfl (lv_at hl 0 rfl) ?_
      refine lv_iconst (v := 4) hx hb dX2_weighTreaty_3 (by decide) ?_
      refine lv_icmp_ge (tgt := 41) hx hb dX2_weighTreaty_4 (by decide) (fun c_4 => ?_) (fun c_4 => ?_)
      · replace c_4 : nI 4 ≤ nI i := c_4
        rw [jle (by omega) (by omega)] at c_4
        replace hP := va_P.cong (g := (fun j => tc_ (tt_ B a b j) a 12)) hP 13 rfl (fun j hj => by show ta_ B a b a f1 i j = _; unfold ta_; rw [if_pos (by omega)])
        replace hP : va_P D vwCl (miO g ++ bW cI g 4 B ++ bW cI g 10 T2 ++ [(g 2, .inl (cI, 4, .inl (fun j => tc_ (tt_ B a b j) a 12)))] ++ [(g 3, .inl (cI, 4, .inl (ta_ B a b b f2 i)))]) H := hP
        replace hD : va_D A (miO g ++ bW cI g 4 B ++ bW cI g 10 T2 ++ [(g 2, .inl (cI, 4, .inl (fun j => tc_ (tt_ B a b j) a 12)))] ++ [(g 3, .inl (cI, 4, .inl (ta_ B a b b f2 i)))]) := hD
        replace hP := va_P.cong (g := (fun j => tc_ (tt_ B a b j) b 12)) hP 14 rfl (fun j hj => by show ta_ B a b b f2 i j = _; unfold ta_; rw [if_pos (by omega)])
        replace hP : va_P D vwCl (miO g ++ bW cI g 4 B ++ bW cI g 10 T2 ++ [(g 2, .inl (cI, 4, .inl (fun j => tc_ (tt_ B a b j) a 12)))] ++ [(g 3, .inl (cI, 4, .inl (fun j => tc_ (tt_ B a b j) b 12)))]) H := hP
        replace hD : va_D A (miO g ++ bW cI g 4 B ++ bW cI g 10 T2 ++ [(g 2, .inl (cI, 4, .inl (fun j => tc_ (tt_ B a b j) a 12)))] ++ [(g 3, .inl (cI, 4, .inl (fun j => tc_ (tt_ B a b j) b 12)))]) := hD
        refine rMv hx hb hr hlk hS T2 hP ?_ dX2_weighTreaty_41
        trivial
      · replace c_4 : ¬ nI 4 ≤ nI i := c_4
        rw [jle (by omega) (by omega)] at c_4
        refine lv_aload_n hx hb dX2_weighTreaty_7 rfl (lv_at hl 1 rfl) ?_
        refine va_get (ci := 2) (C := RX2) (T := TX2) (N := 4) hx hb hts hinX2 hown hK.1 hP 0 rfl rfl 2 (by decide) (hts _ (List.mem_of_getElem? (i := 1) rfl)) (fun _ h9 => h9) rfl dX2_weighTreaty_8 ?_
        refine lv_iload_n hx hb dX2_weighTreaty_11 rfl (lv_at hl 0 rfl) ?_
        refine lv_aload_n hx hb dX2_weighTreaty_12 rfl (lv_at hl 1 rfl) ?_
        refine lv_iload_n hx hb dX2_weighTreaty_13 rfl (lv_at hl 2 rfl) ?_
        refine lv_iload_n hx hb dX2_weighTreaty_14 rfl (lv_at hl 3 rfl) ?_
        refine lv_iload_n hx hb dX2_weighTreaty_15 rfl (lv_at hl 0 rfl) ?_
        refine lv_iload_n hx hb dX2_weighTreaty_16 rfl (lv_at hl 2 rfl) ?_
        refine kMiV hx hb hml hown hts hK hP hD hA hS gX2_weighTreaty_X2_timesByTreaty okX2_timesByTreaty (qX2_timesByTreaty l D cI cB g B T2 a b i a (by show sn_ B ≤ 7; omega) (by omega) (by omega) (by omega) (by omega)) [0, 1, 2, 3, 4, 5, 6, 7, 8, 9, 10, 11, 12] rfl (by decide) (fun _ => rfl) rfl rfl rfl (by decide) hl.1 rfl rfl (Nat.le_of_ble_eq_true rfl) dX2_weighTreaty_17 (by decide) (fun r_1 u_2 H locs hw_3 hP hD hS => ?_)
        replace hw_3 : r_1 = tc_ (tt_ B a b i) a 12 := hw_3
        subst r_1
        replace hP : va_P D vwCl (miO g ++ bW cI g 4 B ++ bW cI g 10 u_2 ++ [(g 2, .inl (cI, 4, .inl (ta_ B a b a f1 i)))] ++ [(g 3, .inl (cI, 4, .inl (ta_ B a b b f2 i)))]) H := hP
        replace hD : va_D A (miO g ++ bW cI g 4 B ++ bW cI g 10 u_2 ++ [(g 2, .inl (cI, 4, .inl (ta_ B a b a f1 i)))] ++ [(g 3, .inl (cI, 4, .inl (ta_ B a b b f2 i)))]) := hD
        refine jast hx hb hK.1 hP hD hS 13 0 i rfl rfl rfl (by omega) (Nat.le_of_ble_eq_true rfl) dX2_weighTreaty_20 (fun f_4 ef_4 H locs hP hD hS => ?_)
        replace ef_4 : f_4 = upd (ta_ B a b a f1 i) i (tc_ (tt_ B a b i) a 12) := ef_4
        replace hP : va_P D vwCl (miO g ++ bW cI g 4 B ++ bW cI g 10 u_2 ++ [(g 2, .inl (cI, 4, .inl f_4))] ++ [(g 3, .inl (cI, 4, .inl (ta_ B a b b f2 i)))]) H := hP
        replace hD : va_D A (miO g ++ bW cI g 4 B ++ bW cI g 10 u_2 ++ [(g 2, .inl (cI, 4, .inl f_4))] ++ [(g 3, .inl (cI, 4, .inl (ta_ B a b b f2 i)))]) := hD
        refine lv_aload_n hx hb dX2_weighTreaty_21 rfl (lv_at hl 1 rfl) ?_
        refine va_get (ci := 2) (C := RX2) (T := TX2) (N := 4) hx hb hts hinX2 hown hK.1 hP 0 rfl rfl 3 (by decide) (hts _ (List.mem_of_getElem? (i := 2) rfl)) (fun _ h9 => h9) rfl dX2_weighTreaty_22 ?_
        refine lv_iload_n hx hb dX2_weighTreaty_25 rfl (lv_at hl 0 rfl) ?_
        refine lv_aload_n hx hb dX2_weighTreaty_26 rfl (lv_at hl 1 rfl) ?_
        refine lv_iload_n hx hb dX2_weighTreaty_27 rfl (lv_at hl 2 rfl) ?_
        refine lv_iload_n hx hb dX2_weighTreaty_28 rfl (lv_at hl 3 rfl) ?_
        refine lv_iload_n hx hb dX2_weighTreaty_29 rfl (lv_at hl 0 rfl) ?_
        refine lv_iload_n hx hb dX2_weighTreaty_30 rfl (lv_at hl 3 rfl) ?_
        refine kMiV hx hb hml hown hts hK hP hD hA hS gX2_weighTreaty_X2_timesByTreaty okX2_timesByTreaty (qX2_timesByTreaty l D cI cB g B u_2 a b i b (by show sn_ B ≤ 7; omega) (by omega) (by omega) (by omega) (by omega)) [0, 1, 2, 3, 4, 5, 6, 7, 8, 9, 10, 11, 12] rfl (by decide) (fun _ => rfl) rfl rfl rfl (by decide) hl.1 rfl rfl (Nat.le_of_ble_eq_true rfl) dX2_weighTreaty_31 (by decide) (fun r_5 u_6 H locs hw_7 hP hD hS => ?_)
        replace hw_7 : r_5 = tc_ (tt_ B a b i) b 12 := hw_7
        subst r_5
        replace hP : va_P D vwCl (miO g ++ bW cI g 4 B ++ bW cI g 10 u_6 ++ [(g 2, .inl (cI, 4, .inl f_4))] ++ [(g 3, .inl (cI, 4, .inl (ta_ B a b b f2 i)))]) H := hP
        replace hD : va_D A (miO g ++ bW cI g 4 B ++ bW cI g 10 u_6 ++ [(g 2, .inl (cI, 4, .inl f_4))] ++ [(g 3, .inl (cI, 4, .inl (ta_ B a b b f2 i)))]) := hD
        refine jast hx hb hK.1 hP hD hS 14 0 i rfl rfl rfl (by omega) (Nat.le_of_ble_eq_true rfl) dX2_weighTreaty_34 (fun f_8 ef_8 H locs hP hD hS => ?_)
        replace ef_8 : f_8 = upd (ta_ B a b b f2 i) i (tc_ (tt_ B a b i) b 12) := ef_8
        replace hP : va_P D vwCl (miO g ++ bW cI g 4 B ++ bW cI g 10 u_6 ++ [(g 2, .inl (cI, 4, .inl f_4))] ++ [(g 3, .inl (cI, 4, .inl f_8))]) H := hP
        replace hD : va_D A (miO g ++ bW cI g 4 B ++ bW cI g 10 u_6 ++ [(g 2, .inl (cI, 4, .inl f_4))] ++ [(g 3, .inl (cI, 4, .inl f_8))]) := hD
        refine lv_iinc (v := (nI i) + 1) (lv' := [(3, .int ((nI i) + 1)), (0, .ref (g 1)), (1, .int (nI a)), (2, .int (nI b))]) hx hb dX2_weighTreaty_35 hl (k := 0) rfl (by first | rfl | decide) (by decide) rfl (fun ls hl => ?_)
        refine lv_goto (tgt := 2) hx hb dX2_weighTreaty_38 (by decide) ?_
        (try rw [ef_8] at hP); (try rw [ef_8] at hD); (try rw [ef_8] at hl); (try rw [ef_8] at c_4); (try rw [ef_8])
        (try rw [ef_4] at hP); (try rw [ef_4] at hD); (try rw [ef_4] at hl); (try rw [ef_4] at c_4); (try rw [ef_4])
        exact ih_2 (i + 1) ((nI i) + 1) u_6 (upd (ta_ B a b a f1 i) i (tc_ (tt_ B a b i) a 12)) (upd (ta_ B a b b f2 i) i (tc_ (tt_ B a b i) b 12)) (by first | rfl | exact nI_1 _) (ta_s B a b a f1 i) (ta_s B a b b f2 i) (by omega) (by omega) _ _ hP hD hS ls (lv_sub hl [0, 1, 2, 3] rfl)
  exact lp_2 (4 + 1) 0 0 T f1 f2 (by first | rfl | exact nI_0.symm) (by funext j; unfold ta_; rw [if_neg (Nat.not_lt_zero _)]) (by funext j; unfold ta_; rw [if_neg (Nat.not_lt_zero _)]) (by omega) (by omega) _ _ hP hD hS ls (lv_sub hl [0, 1, 2, 3] rfl)

theorem okX2_isSettled : jok yX2_isSettled wsX2_isSettled cX2_isSettled 2 (some .boolean) 1 := ⟨⟨_, rfl⟩, by decide +kernel, by decide +kernel⟩
set_option maxHeartbeats 1000000 in
set_option maxRecDepth 100000 in
theorem qX2_isSettled (l : Launch) (D : va_G) (cI cB : ClassId) (g : Nat → Nat) (f1 : Nat → Int32) (f2 : Nat → Int32) (j : Nat) (hj : j < 4) : jSi D cI cB l yX2_isSettled wsX2_isSettled 0 [.ref (g 1), .int (nI j)] (miO g ++ [(g 2, .inl (cI, 4, .inl f1))] ++ [(g 3, .inl (cI, 4, .inl f2))]) (fun r => r = b1 (tp_ f1 f2 j)) := by
  refine jSi.of (cc := cX2_isSettled) (maxL := 2) (ret := (some .boolean)) okX2_isSettled (Nat.le_of_ble_eq_true rfl) ?_
  intro p e s m below meth c ls hx hb hr hts hown hlk hml hP hK hl
  replace hown : s.vm.findClass RX2 = some m.cls := hown
  replace hl : lv_has ls 2 [(0, .ref (g 1)), (1, .int (nI j))] := hl
  have hinX2 : ∀ w ∈ wsX20, w ∈ wsX2_isSettled := by decide +kernel
  refine lv_aload_n hx hb dX2_isSettled_0 rfl (lv_at hl 0 rfl) ?_
  refine va_get (ci := 2) (C := RX2) (T := TX2) (N := 4) hx hb hts hinX2 hown hK.1 hP 0 rfl rfl 2 (by decide) (hts _ (List.mem_of_getElem? (i := 1) rfl)) (fun _ h9 => h9) rfl dX2_isSettled_1 ?_
  refine lv_iload_n hx hb dX2_isSettled_4 rfl (lv_at hl 1 rfl) ?_
  refine jald hx hb hK.1 hP 1 0 j rfl rfl rfl (by omega) (Nat.le_of_ble_eq_true rfl) dX2_isSettled_5 ?_
  refine lv_aload_n hx hb dX2_isSettled_6 rfl (lv_at hl 0 rfl) ?_
  refine va_get (ci := 2) (C := RX2) (T := TX2) (N := 4) hx hb hts hinX2 hown hK.1 hP 0 rfl rfl 2 (by decide) (hts _ (List.mem_of_getElem? (i := 1) rfl)) (fun _ h9 => h9) rfl dX2_isSettled_7 ?_
  refine lv_iload_n hx hb dX2_isSettled_10 rfl (lv_at hl 1 rfl) ?_
  refine lv_iconst (v := 2) hx hb dX2_isSettled_11 (by decide) ?_
  refine lv_ixor hx hb dX2_isSettled_12 ?_
  refine jald hx hb hK.1 hP 1 0 (j ^^^ 2) rfl rfl (jx_ hj).1.1 (jx_ hj).1.2 (Nat.le_of_ble_eq_true rfl) dX2_isSettled_13 ?_
  refine lv_icmp_lt (tgt := 38) hx hb dX2_isSettled_14 (by decide) (fun c_14 => ?_) (fun c_14 => ?_)
  · have d_14 := Int32.not_le.mpr c_14
    refine lv_iconst (v := 0) hx hb dX2_isSettled_38 (by decide) ?_
    refine rSz hx hb hr hlk (Or.inl rfl) ?_ dX2_isSettled_39
    show 0 = _
    first | exact (b1_t ⟨Int32.not_lt.mp (by assumption), Int32.not_lt.mp (by assumption)⟩).symm | exact (b1_f (fun q => absurd c_14 (Int32.not_lt.mpr q.1))).symm | exact (b1_f (fun q => absurd c_31 (Int32.not_lt.mpr q.2))).symm
  · have d_14 := Int32.not_lt.mp c_14
    refine lv_aload_n hx hb dX2_isSettled_17 rfl (lv_at hl 0 rfl) ?_
    refine va_get (ci := 2) (C := RX2) (T := TX2) (N := 4) hx hb hts hinX2 hown hK.1 hP 0 rfl rfl 3 (by decide) (hts _ (List.mem_of_getElem? (i := 2) rfl)) (fun _ h9 => h9) rfl dX2_isSettled_18 ?_
    refine lv_iload_n hx hb dX2_isSettled_21 rfl (lv_at hl 1 rfl) ?_
    refine jald hx hb hK.1 hP 2 0 j rfl rfl rfl (by omega) (Nat.le_of_ble_eq_true rfl) dX2_isSettled_22 ?_
    refine lv_aload_n hx hb dX2_isSettled_23 rfl (lv_at hl 0 rfl) ?_
    refine va_get (ci := 2) (C := RX2) (T := TX2) (N := 4) hx hb hts hinX2 hown hK.1 hP 0 rfl rfl 3 (by decide) (hts _ (List.mem_of_getElem? (i := 2) rfl)) (fun _ h9 => h9) rfl dX2_isSettled_24 ?_
    refine lv_iload_n hx hb dX2_isSettled_27 rfl (lv_at hl 1 rfl) ?_
    refine lv_iconst (v := 1) hx hb dX2_isSettled_28 (by decide) ?_
    refine lv_ixor hx hb dX2_isSettled_29 ?_
    refine jald hx hb hK.1 hP 2 0 (j ^^^ 1) rfl rfl (jx_ hj).2.1 (jx_ hj).2.2 (Nat.le_of_ble_eq_true rfl) dX2_isSettled_30 ?_
    refine lv_icmp_lt (tgt := 38) hx hb dX2_isSettled_31 (by decide) (fun c_31 => ?_) (fun c_31 => ?_)
    · have d_31 := Int32.not_le.mpr c_31
      refine lv_iconst (v := 0) hx hb dX2_isSettled_38 (by decide) ?_
      refine rSz hx hb hr hlk (Or.inl rfl) ?_ dX2_isSettled_39
      show 0 = _
      first | exact (b1_t ⟨Int32.not_lt.mp (by assumption), Int32.not_lt.mp (by assumption)⟩).symm | exact (b1_f (fun q => absurd c_14 (Int32.not_lt.mpr q.1))).symm | exact (b1_f (fun q => absurd c_31 (Int32.not_lt.mpr q.2))).symm
    · have d_31 := Int32.not_lt.mp c_31
      refine lv_iconst (v := 1) hx hb dX2_isSettled_34 (by decide) ?_
      refine lv_goto (tgt := 39) hx hb dX2_isSettled_35 (by decide) ?_
      refine rSz hx hb hr hlk (Or.inr rfl) ?_ dX2_isSettled_39
      show 1 = _
      first | exact (b1_t ⟨Int32.not_lt.mp (by assumption), Int32.not_lt.mp (by assumption)⟩).symm | exact (b1_f (fun q => absurd c_14 (Int32.not_lt.mpr q.1))).symm | exact (b1_f (fun q => absurd c_31 (Int32.not_lt.mpr q.2))).symm

theorem okX2_firstSettled : jok yX2_firstSettled wsX2_firstSettled cX2_firstSettled 2 (some .int) 0 := ⟨⟨_, rfl⟩, by decide +kernel, by decide +kernel⟩
set_option maxHeartbeats 1000000 in
set_option maxRecDepth 100000 in
theorem qX2_firstSettled (l : Launch) (D : va_G) (cI cB : ClassId) (g : Nat → Nat) (f1 : Nat → Int32) (f2 : Nat → Int32)  : jSi D cI cB l yX2_firstSettled wsX2_firstSettled 1 [.ref (g 1)] (miO g ++ [(g 2, .inl (cI, 4, .inl f1))] ++ [(g 3, .inl (cI, 4, .inl f2))]) (fun r => r = vs_ (fz_ f1 f2 4 0)) := by
  refine jSi.of (cc := cX2_firstSettled) (maxL := 2) (ret := (some .int)) okX2_firstSettled (Nat.le_of_ble_eq_true rfl) ?_
  intro p e s m below meth c ls hx hb hr hts hown hlk hml hP hK hl
  replace hown : s.vm.findClass RX2 = some m.cls := hown
  replace hl : lv_has ls 2 [(0, .ref (g 1))] := hl
  refine lv_iconst (v := 0) hx hb dX2_firstSettled_0 (by decide) ?_
  refine lv_istore_n (lv' := [(1, .int 0), (0, .ref (g 1))]) hx hb dX2_firstSettled_1 rfl hl (by decide) rfl (fun ls hl => ?_)
  have lp_2 : ∀ (fu_2 : Nat) (i : Nat) (x1_2 : Int32) , (x1_2 = nI i) → (i ≤ 4) → (fz_ f1 f2 (4 - i) i = fz_ f1 f2 4 0) → 4 - i < fu_2 → ∀ ls : Array Slot, lv_has ls 2 [(1, .int x1_2), (0, .ref (g 1))] → W p l e (jR 1) s m ([.ref (g 1)] : List Value).toArray below meth c s.heap [] 0 0 (MQ below (vp_Si (fun r => r = vs_ (fz_ f1 f2 4 0))) ([.ref (g 1)] : List Value).toArray s 0 0 (fun _ => False)) (F0 m 2 ls []) := by
    intro fu_2
    induction fu_2 with
    | zero => intro i x1_2 hx1_2 hi hre hfu; exact absurd hfu (Nat.not_lt_zero _)
    | succ fu_2 ih_2 =>
      intro i x1_2 hx1_2 hi hre hfu_2 ls hl
      subst x1_2
      replace hl : lv_has ls 2 [(1, .int (nI i)), (0, .ref (g 1))] := hl
      refine lv_iload_n hx hb dX2_firstSettled_2 rfl (lv_at hl 0 rfl) ?_
      refine lv_iconst (v := 4) hx hb dX2_firstSettled_3 (by decide) ?_
      refine lv_icmp_ge (tgt := 32) hx hb dX2_firstSettled_4 (by decide) (fun c_4 => ?_) (fun c_4 => ?_)
      · replace c_4 : nI 4 ≤ nI i := c_4
        rw [jle (by omega) (by omega)] at c_4
        refine lv_bipush (v := (-9)) hx hb dX2_firstSettled_32 (by decide) ?_
        refine rSi hx hb hr hlk ?_ dX2_firstSettled_34
        show (-9) = _
        rw [fz_0 (by omega)] at hre; rw [← hre]; rfl
      · replace c_4 : ¬ nI 4 ≤ nI i := c_4
        rw [jle (by omega) (by omega)] at c_4
        refine lv_aload_n hx hb dX2_firstSettled_7 rfl (lv_at hl 1 rfl) ?_
        refine lv_iload_n hx hb dX2_firstSettled_8 rfl (lv_at hl 0 rfl) ?_
        refine kSiV hx hb hml hown hts hK hP gX2_firstSettled_X2_isSettled okX2_isSettled (qX2_isSettled l D cI cB g f1 f2 i (by omega)) [0, 1, 2] rfl rfl rfl rfl (by decide) hl.1 rfl rfl (Nat.le_of_ble_eq_true rfl) dX2_firstSettled_9 (by decide) (fun r_1 hr_2 => ?_)
        replace hr_2 : r_1 = b1 (tp_ f1 f2 i) := hr_2
        subst r_1
        refine lv_if_eq (tgt := 26) hx hb dX2_firstSettled_12 (by decide) (fun c_12 => ?_) (fun c_12 => ?_)
        · replace c_12 := b1_z c_12
          refine lv_iinc (v := (nI i) + 1) (lv' := [(1, .int ((nI i) + 1)), (0, .ref (g 1))]) hx hb dX2_firstSettled_26 hl (k := 0) rfl (by first | rfl | decide) (by decide) rfl (fun ls hl => ?_)
          refine lv_goto (tgt := 2) hx hb dX2_firstSettled_29 (by decide) ?_
          exact ih_2 (i + 1) ((nI i) + 1)  (by first | rfl | exact nI_1 _) (by omega) (by rw [fz_s (by omega), if_neg c_12] at hre; exact hre) (by omega) ls (lv_sub hl [0, 1] rfl)
        · replace c_12 := b1_n c_12
          refine lv_bipush (v := 10) hx hb dX2_firstSettled_15 (by decide) ?_
          refine lv_iload_n hx hb dX2_firstSettled_17 rfl (lv_at hl 0 rfl) ?_
          refine lv_iconst (v := 2) hx hb dX2_firstSettled_18 (by decide) ?_
          refine lv_idiv hx hb dX2_firstSettled_19 (by decide) ?_
          refine lv_imul hx hb dX2_firstSettled_20 ?_
          refine lv_iload_n hx hb dX2_firstSettled_21 rfl (lv_at hl 0 rfl) ?_
          refine lv_iconst (v := 2) hx hb dX2_firstSettled_22 (by decide) ?_
          refine lv_irem hx hb dX2_firstSettled_23 (by decide) ?_
          refine lv_iadd hx hb dX2_firstSettled_24 ?_
          refine rSi hx hb hr hlk ?_ dX2_firstSettled_25
          show ((10 * ((nI i) / 2)) + ((nI i) - (nI i) / 2 * 2)) = _
          rw [fz_s (by omega), if_pos c_12] at hre; rw [← hre]; rfl
  exact lp_2 (4 + 1) 0 0  (by first | rfl | exact nI_0.symm) (by omega) (rfl) (by omega) ls (lv_sub hl [0, 1] rfl)

theorem okX2_nextSeed : jok yX2_nextSeed wsX2_nextSeed cX2_nextSeed 1 (some .int) 1 := ⟨⟨_, rfl⟩, by decide +kernel, by decide +kernel⟩
set_option maxHeartbeats 1000000 in
set_option maxRecDepth 100000 in
theorem qX2_nextSeed (l : Launch) (D : va_G) (cI cB : ClassId) (z : Int32)  : jSi D cI cB l yX2_nextSeed wsX2_nextSeed 0 [.int z] ([] : va_W) (fun r => r = ns_ z) := by
  refine jSi.of (cc := cX2_nextSeed) (maxL := 1) (ret := (some .int)) okX2_nextSeed (Nat.le_of_ble_eq_true rfl) ?_
  intro p e s m below meth c ls hx hb hr hts hown hlk hml hP hK hl
  replace hown : s.vm.findClass RX2 = some m.cls := hown
  replace hl : lv_has ls 1 [(0, .int z)] := hl
  refine lv_iload_n hx hb dX2_nextSeed_0 rfl (lv_at hl 0 rfl) ?_
  refine lv_ldc hx hb hown (hts _ (List.mem_of_getElem? (i := 1) rfl)) dX2_nextSeed_1 ?_
  refine lv_imul hx hb dX2_nextSeed_3 ?_
  refine lv_sipush (v := 12345) hx hb dX2_nextSeed_4 (by decide) ?_
  refine lv_iadd hx hb dX2_nextSeed_7 ?_
  refine rSi hx hb hr hlk ?_ dX2_nextSeed_8
  show ((z * 1103515245) + 12345) = _
  rfl

theorem okX2_drawn : jok yX2_drawn wsX2_drawn cX2_drawn 2 (some .int) 2 := ⟨⟨_, rfl⟩, by decide +kernel, by decide +kernel⟩
set_option maxHeartbeats 1000000 in
set_option maxRecDepth 100000 in
theorem qX2_drawn (l : Launch) (D : va_G) (cI cB : ClassId) (z : Int32) (n : Int32) (hn : ¬ n = 0) : jSi D cI cB l yX2_drawn wsX2_drawn 0 [.int z, .int n] ([] : va_W) (fun r => r = dn_ z n) := by
  refine jSi.of (cc := cX2_drawn) (maxL := 2) (ret := (some .int)) okX2_drawn (Nat.le_of_ble_eq_true rfl) ?_
  intro p e s m below meth c ls hx hb hr hts hown hlk hml hP hK hl
  replace hown : s.vm.findClass RX2 = some m.cls := hown
  replace hl : lv_has ls 2 [(0, .int z), (1, .int n)] := hl
  refine lv_iload_n hx hb dX2_drawn_0 rfl (lv_at hl 0 rfl) ?_
  refine lv_ldc hx hb hown (hts _ (List.mem_of_getElem? (i := 1) rfl)) dX2_drawn_1 ?_
  refine lv_iand hx hb dX2_drawn_3 ?_
  refine lv_bipush (v := 16) hx hb dX2_drawn_4 (by decide) ?_
  refine lv_ishr hx hb dX2_drawn_6 ?_
  refine lv_iload_n hx hb dX2_drawn_7 rfl (lv_at hl 1 rfl) ?_
  refine lv_irem hx hb dX2_drawn_8 (hn) ?_
  refine rSi hx hb hr hlk ?_ dX2_drawn_9
  show (((z &&& 2147483647) >>> (16 &&& 31)) - ((z &&& 2147483647) >>> (16 &&& 31)) / n * n) = _
  rfl

theorem okX2_layOut : jok yX2_layOut wsX2_layOut cX2_layOut 5 (some .int) 1 := ⟨⟨_, rfl⟩, by decide +kernel, by decide +kernel⟩
set_option maxHeartbeats 1000000 in
set_option maxRecDepth 100000 in
theorem qX2_layOut (l : Launch) (D : va_G) (cI cB : ClassId) (g : Nat → Nat) (B : BayT) (T : BayT) (z : Int32) (hn7 : sn_ B ≤ 7) : jMi D cI cB l yX2_layOut wsX2_layOut 3 [.ref (g 1), .int z] (miO g ++ bW cI g 4 B ++ bW cI g 10 T) (S := BayT) (fun r u => r = (lq_ B z (sn_ B)).1 ∧ u = lay_ B z (sn_ B)) (fun u => miO g ++ bW cI g 4 B ++ bW cI g 10 u) := by
  refine jMi.of (cc := cX2_layOut) (maxL := 5) (ret := (some .int)) okX2_layOut (Nat.le_of_ble_eq_true rfl) ?_
  intro p e s m below meth c ls A hx hb hr hts hown hlk hml hP hK hD hA hS hl
  replace hown : s.vm.findClass RX2 = some m.cls := hown
  replace hl : lv_has ls 5 [(0, .ref (g 1)), (1, .int z)] := hl
  have hinX0 : ∀ w ∈ wsX00, w ∈ wsX2_layOut := by decide +kernel
  refine lv_aload_n hx hb dX2_layOut_0 rfl (lv_at hl 0 rfl) ?_
  refine kMrV hx hb hml hown hts hK hP hD hA hS gX2_layOut_X2_asNow okX2_asNow (qX2_asNow l D cI cB g B T ) [0, 1, 2, 3, 4, 5, 6, 7, 8, 9, 10, 11, 12] rfl (by decide) (fun _ => rfl) rfl rfl rfl (by decide) hl.1 rfl rfl (Nat.le_of_ble_eq_true rfl) dX2_layOut_1 (by decide) (fun u_2 H locs hw_3 hP hD hS => ?_)
  replace hw_3 : u_2 = B := hw_3
  subst u_2
  replace hP : va_P D vwCl (miO g ++ bW cI g 4 B ++ bW cI g 10 (B)) H := hP
  replace hD : va_D A (miO g ++ bW cI g 4 B ++ bW cI g 10 (B)) := hD
  refine lv_astore_n (lv' := [(2, .ref (g 10)), (0, .ref (g 1)), (1, .int z)]) hx hb dX2_layOut_4 rfl hl (by decide) rfl (fun ls hl => ?_)
  refine lv_iload_n hx hb dX2_layOut_5 rfl (lv_at hl 2 rfl) ?_
  refine kSiS hx hb hml hown hts hK hP gX2_layOut_X2_nextSeed okX2_nextSeed (qX2_nextSeed l D cI cB z ) [] rfl (by decide) hl.1 rfl rfl (Nat.le_of_ble_eq_true rfl) dX2_layOut_6 (by decide) (fun r_4 hr_5 => ?_)
  replace hr_5 : r_4 = ns_ z := hr_5
  subst r_4
  refine lv_istore_n (lv' := [(3, .int (ns_ z)), (2, .ref (g 10)), (0, .ref (g 1)), (1, .int z)]) hx hb dX2_layOut_9 rfl hl (by decide) rfl (fun ls hl => ?_)
  refine lv_aload_n hx hb dX2_layOut_10 rfl (lv_at hl 1 rfl) ?_
  refine lv_iload_n hx hb dX2_layOut_11 rfl (lv_at hl 0 rfl) ?_
  refine lv_bipush (v := 31) hx hb dX2_layOut_12 (by decide) ?_
  refine kSiS hx hb hml hown hts hK hP gX2_layOut_X2_drawn okX2_drawn (qX2_drawn l D cI cB (ns_ z) 31 (by decide)) [] rfl (by decide) hl.1 rfl rfl (Nat.le_of_ble_eq_true rfl) dX2_layOut_14 (by decide) (fun r_6 hr_7 => ?_)
  replace hr_7 : r_6 = dn_ (ns_ z) 31 := hr_7
  subst r_6
  refine lv_topi (fun y_8 ey_8 => ?_)
  replace ey_8 : y_8 = dn_ (ns_ z) 31 := ey_8
  refine va_putN (ci := 0) (ty := .int) (C := RX0) (T := TX0) (N := 11) hx hb hts hinX0 tyX0 tyX0_ok nmX0 hown hK.1 hP hD hS 7 rfl rfl 7 (by decide) (va_Nw.use rfl (hK.2 _ (List.mem_of_getElem? (i := 15) rfl))) (fun _ h9 => h9) rfl (by decide +kernel) (rfl) (rfl) (Nat.le_of_ble_eq_true rfl) dX2_layOut_17 (fun H locs hP hD hS => ?_)
  replace hP : va_P D vwCl (miO g ++ bW cI g 4 B ++ bW cI g 10 (mkB (kd_ (B)) (fg_ (B)) (pl_ (B)) (pw_ (B)) (jy_ (B)) (qt_ (B)) (sn_ (B)) y_8 (pa_ (B)) (ho_ (B)) (dy_ (B)))) H := hP
  replace hD : va_D A (miO g ++ bW cI g 4 B ++ bW cI g 10 (mkB (kd_ (B)) (fg_ (B)) (pl_ (B)) (pw_ (B)) (jy_ (B)) (qt_ (B)) (sn_ (B)) y_8 (pa_ (B)) (ho_ (B)) (dy_ (B)))) := hD
  refine lv_iconst (v := 0) hx hb dX2_layOut_20 (by decide) ?_
  refine lv_istore (lv' := [(4, .int 0), (3, .int (ns_ z)), (2, .ref (g 10)), (0, .ref (g 1)), (1, .int z)]) hx hb dX2_layOut_21 hl (by decide) rfl (fun ls hl => ?_)
  (try rw [ey_8] at hP); (try rw [ey_8] at hD); (try rw [ey_8] at hl); (try rw [ey_8])
  have lp_23 : ∀ (fu_23 : Nat) (i : Nat) (x3_23 : Int32) (x4_23 : Int32) (T2 : BayT), (x3_23 = (lq_ B z i).1) → (x4_23 = nI i) → (T2 = lay_ B z i) → (i ≤ sn_ B) → sn_ B - i < fu_23 → ∀ (H : Heap) (locs : List Loc), va_P D vwCl (miO g ++ bW cI g 4 B ++ bW cI g 10 T2) H → va_D A (miO g ++ bW cI g 4 B ++ bW cI g 10 T2) → va_S A s.heap H locs → ∀ ls : Array Slot, lv_has ls 5 [(4, .int x4_23), (3, .int x3_23), (2, .ref (g 10)), (0, .ref (g 1)), (1, .int z)] → W p l e (jR 3) s m ([.ref (g 1), .int z] : List Value).toArray below meth c H locs 0 0 (MQ below (va_Qi (S := BayT) (fun r u => r = (lq_ B z (sn_ B)).1 ∧ u = lay_ B z (sn_ B)) (fun u t => va_P D vwCl ((fun u => miO g ++ bW cI g 4 B ++ bW cI g 10 u) u) t.heap) A) ([.ref (g 1), .int z] : List Value).toArray s 0 0 A) (F0 m 23 ls []) := by
    intro fu_23
    induction fu_23 with
    | zero => intro i x3_23 x4_23 T2 hx3_23 hx4_23 hT2 hi hfu; exact absurd hfu (Nat.not_lt_zero _)
    | succ fu_23 ih_23 =>
      intro i x3_23 x4_23 T2 hx3_23 hx4_23 hT2 hi hfu_23 H locs hP hD hS ls hl
      subst x3_23
      subst x4_23
      subst T2
      replace hl : lv_has ls 5 [(4, .int (nI i)), (3, .int ((lq_ B z i).1)), (2, .ref (g 10)), (0, .ref (g 1)), (1, .int z)] := hl
      replace hP : va_P D vwCl (miO g ++ bW cI g 4 B ++ bW cI g 10 (lay_ B z i)) H := hP
      replace hD : va_D A (miO g ++ bW cI g 4 B ++ bW cI g 10 (lay_ B z i)) := hD
      refine lv_iload hx hb dX2_layOut_23 (lv_at hl 0 rfl) ?_
      refine lv_aload_n hx hb dX2_layOut_25 rfl (lv_at hl 2 rfl) ?_
      refine va_getN (ci := 0) (C := RX0) (T := TX0) (N := 11) hx hb hts hinX0 hown hK.1 hP 7 rfl rfl 6 (by decide) (va_Nw.use rfl (hK.2 _ (List.mem_of_getElem? (i := 12) rfl))) (fun _ h9 => h9) rfl dX2_layOut_26 ?_
      refine lv_icmp_ge (tgt := 62) hx hb dX2_layOut_29 (by decide) (fun c_29 => ?_) (fun c_29 => ?_)
      · replace c_29 : nI (sn_ (lay_ B z i)) ≤ nI i := c_29
        rw [jle (by omega) (by omega)] at c_29
        refine lv_iload_n hx hb dX2_layOut_62 rfl (lv_at hl 1 rfl) ?_
        refine rMi hx hb hr hlk hS (lay_ B z i) hP ?_ dX2_layOut_63
        have e9 : i = sn_ B := by omega
        rw [e9]; exact ⟨rfl, rfl⟩
      · replace c_29 : ¬ nI (sn_ (lay_ B z i)) ≤ nI i := c_29
        rw [jle (by omega) (by omega)] at c_29
        refine lv_iload_n hx hb dX2_layOut_32 rfl (lv_at hl 1 rfl) ?_
        refine kSiS hx hb hml hown hts hK hP gX2_layOut_X2_nextSeed okX2_nextSeed (qX2_nextSeed l D cI cB ((lq_ B z i).1) ) [] rfl (by decide) hl.1 rfl rfl (Nat.le_of_ble_eq_true rfl) dX2_layOut_33 (by decide) (fun r_9 hr_10 => ?_)
        replace hr_10 : r_9 = ns_ ((lq_ B z i).1) := hr_10
        subst r_9
        refine lv_istore_n (lv' := [(3, .int (ns_ ((lq_ B z i).1))), (4, .int (nI i)), (2, .ref (g 10)), (0, .ref (g 1)), (1, .int z)]) hx hb dX2_layOut_36 rfl hl (by decide) rfl (fun ls hl => ?_)
        refine lv_aload_n hx hb dX2_layOut_37 rfl (lv_at hl 2 rfl) ?_
        refine lv_iload hx hb dX2_layOut_38 (lv_at hl 1 rfl) ?_
        refine lv_iload_n hx hb dX2_layOut_40 rfl (lv_at hl 0 rfl) ?_
        refine lv_iconst (v := 4) hx hb dX2_layOut_41 (by decide) ?_
        refine kSiS hx hb hml hown hts hK hP gX2_layOut_X2_drawn okX2_drawn (qX2_drawn l D cI cB (ns_ ((lq_ B z i).1)) 4 (by decide)) [] rfl (by decide) hl.1 rfl rfl (Nat.le_of_ble_eq_true rfl) dX2_layOut_42 (by decide) (fun r_11 hr_12 => ?_)
        replace hr_12 : r_11 = dn_ (ns_ ((lq_ B z i).1)) 4 := hr_12
        subst r_11
        refine lv_if_ne (tgt := 52) hx hb dX2_layOut_45 (by decide) (fun c_45 => ?_) (fun c_45 => ?_)
        · skip
          refine lv_iconst (v := 0) hx hb dX2_layOut_52 (by decide) ?_
          refine kMvN hx hb hml hown hts hK hP hD hA hS gX2_layOut_X0_setQuiet_n144 (hK.2 _ (List.mem_of_getElem? (i := 109) rfl)) (hts _ (List.mem_of_getElem? (i := 9) rfl)) (hts _ (List.mem_of_getElem? (i := 35) rfl)) (hts _ (List.mem_of_getElem? (i := 36) rfl)) okX0_setQuiet (qX0_setQuiet l D cI cB g 10 (lay_ B z i) i False inferInstance (by show sn_ (lay_ B z i) ≤ 7; omega) (by omega)) [7, 8, 9, 10, 11, 12] rfl (by decide) (fun _ => rfl) rfl rfl rfl (by decide) hl.1 rfl rfl (Nat.le_of_ble_eq_true rfl) dX2_layOut_53 (by decide) (fun u_14 H locs hw_15 hP hD hS => ?_)
          replace hw_15 : u_14 = uq_ (lay_ B z i) (sq_ False (qt_ (lay_ B z i)) i) := hw_15
          subst u_14
          replace hP : va_P D vwCl (miO g ++ bW cI g 4 B ++ bW cI g 10 (uq_ (lay_ B z i) (sq_ False (qt_ (lay_ B z i)) i))) H := hP
          replace hD : va_D A (miO g ++ bW cI g 4 B ++ bW cI g 10 (uq_ (lay_ B z i) (sq_ False (qt_ (lay_ B z i)) i))) := hD
          refine lv_iinc (v := (nI i) + 1) (lv' := [(4, .int ((nI i) + 1)), (3, .int (ns_ ((lq_ B z i).1))), (2, .ref (g 10)), (0, .ref (g 1)), (1, .int z)]) hx hb dX2_layOut_56 hl (k := 1) rfl (by first | rfl | decide) (by decide) rfl (fun ls hl => ?_)
          refine lv_goto (tgt := 23) hx hb dX2_layOut_59 (by decide) ?_
          exact ih_23 (i + 1) (ns_ ((lq_ B z i).1)) ((nI i) + 1) (uq_ (lay_ B z i) (sq_ False (qt_ (lay_ B z i)) i)) (rfl) (by first | rfl | exact nI_1 _) (by first | exact lay_s True ⟨fun _ => c_45, fun _ => trivial⟩ | exact lay_s False ⟨fun q => q.elim, fun q => absurd q c_45⟩) (by omega) (by omega) _ _ hP hD hS ls (lv_sub hl [0, 1, 2, 3, 4] rfl)
        · skip
          refine lv_iconst (v := 1) hx hb dX2_layOut_48 (by decide) ?_
          refine lv_goto (tgt := 53) hx hb dX2_layOut_49 (by decide) ?_
          refine kMvN hx hb hml hown hts hK hP hD hA hS gX2_layOut_X0_setQuiet_n144 (hK.2 _ (List.mem_of_getElem? (i := 109) rfl)) (hts _ (List.mem_of_getElem? (i := 9) rfl)) (hts _ (List.mem_of_getElem? (i := 35) rfl)) (hts _ (List.mem_of_getElem? (i := 36) rfl)) okX0_setQuiet (qX0_setQuiet l D cI cB g 10 (lay_ B z i) i True inferInstance (by show sn_ (lay_ B z i) ≤ 7; omega) (by omega)) [7, 8, 9, 10, 11, 12] rfl (by decide) (fun _ => rfl) rfl rfl rfl (by decide) hl.1 rfl rfl (Nat.le_of_ble_eq_true rfl) dX2_layOut_53 (by decide) (fun u_17 H locs hw_18 hP hD hS => ?_)
          replace hw_18 : u_17 = uq_ (lay_ B z i) (sq_ True (qt_ (lay_ B z i)) i) := hw_18
          subst u_17
          replace hP : va_P D vwCl (miO g ++ bW cI g 4 B ++ bW cI g 10 (uq_ (lay_ B z i) (sq_ True (qt_ (lay_ B z i)) i))) H := hP
          replace hD : va_D A (miO g ++ bW cI g 4 B ++ bW cI g 10 (uq_ (lay_ B z i) (sq_ True (qt_ (lay_ B z i)) i))) := hD
          refine lv_iinc (v := (nI i) + 1) (lv' := [(4, .int ((nI i) + 1)), (3, .int (ns_ ((lq_ B z i).1))), (2, .ref (g 10)), (0, .ref (g 1)), (1, .int z)]) hx hb dX2_layOut_56 hl (k := 1) rfl (by first | rfl | decide) (by decide) rfl (fun ls hl => ?_)
          refine lv_goto (tgt := 23) hx hb dX2_layOut_59 (by decide) ?_
          exact ih_23 (i + 1) (ns_ ((lq_ B z i).1)) ((nI i) + 1) (uq_ (lay_ B z i) (sq_ True (qt_ (lay_ B z i)) i)) (rfl) (by first | rfl | exact nI_1 _) (by first | exact lay_s True ⟨fun _ => c_45, fun _ => trivial⟩ | exact lay_s False ⟨fun q => q.elim, fun q => absurd q c_45⟩) (by omega) (by omega) _ _ hP hD hS ls (lv_sub hl [0, 1, 2, 3, 4] rfl)
  exact lp_23 ((sn_ B) + 1) 0 (ns_ z) 0 (mkB (kd_ (B)) (fg_ (B)) (pl_ (B)) (pw_ (B)) (jy_ (B)) (qt_ (B)) (sn_ (B)) (dn_ (ns_ z) 31) (pa_ (B)) (ho_ (B)) (dy_ (B))) (rfl) (by first | rfl | exact nI_0.symm) (rfl) (by omega) (by omega) _ _ hP hD hS ls (lv_sub hl [0, 1, 2, 3, 4] rfl)

theorem okX2_drawLots : jok yX2_drawLots wsX2_drawLots cX2_drawLots 8 (some .int) 3 := ⟨⟨_, rfl⟩, by decide +kernel, by decide +kernel⟩
set_option maxHeartbeats 1000000 in
set_option maxRecDepth 100000 in
theorem qX2_drawLots (l : Launch) (D : va_G) (cI cB : ClassId) (g : Nat → Nat) (B : BayT) (T : BayT) (n : Nat) (z : Int32) (w : Int32) (hn7 : sn_ B ≤ 7) (hn : n ≤ 20) : jMi D cI cB l yX2_drawLots wsX2_drawLots 5 [.ref (g 1), .int (nI n), .int z, .int w] (miO g ++ bW cI g 4 B ++ bW cI g 10 T) (S := BayT) (fun r u => r = if w = 0 then (dl_ B z n).2.1 else (dl_ B z n).2.2) (fun u => miO g ++ bW cI g 4 B ++ bW cI g 10 u) := by
  refine jMi.of (cc := cX2_drawLots) (maxL := 8) (ret := (some .int)) okX2_drawLots (Nat.le_of_ble_eq_true rfl) ?_
  intro p e s m below meth c ls A hx hb hr hts hown hlk hml hP hK hD hA hS hl
  replace hown : s.vm.findClass RX2 = some m.cls := hown
  replace hl : lv_has ls 8 [(0, .ref (g 1)), (1, .int (nI n)), (2, .int z), (3, .int w)] := hl
  have hinX2 : ∀ w ∈ wsX20, w ∈ wsX2_drawLots := by decide +kernel
  refine lv_iload_n hx hb dX2_drawLots_0 rfl (lv_at hl 2 rfl) ?_
  refine lv_istore (lv' := [(4, .int z), (0, .ref (g 1)), (1, .int (nI n)), (2, .int z), (3, .int w)]) hx hb dX2_drawLots_1 hl (by decide) rfl (fun ls hl => ?_)
  refine lv_iconst (v := 0) hx hb dX2_drawLots_3 (by decide) ?_
  refine lv_istore (lv' := [(5, .int 0), (4, .int z), (0, .ref (g 1)), (1, .int (nI n)), (2, .int z), (3, .int w)]) hx hb dX2_drawLots_4 hl (by decide) rfl (fun ls hl => ?_)
  refine lv_iconst (v := 0) hx hb dX2_drawLots_6 (by decide) ?_
  refine lv_istore (lv' := [(6, .int 0), (5, .int 0), (4, .int z), (0, .ref (g 1)), (1, .int (nI n)), (2, .int z), (3, .int w)]) hx hb dX2_drawLots_7 hl (by decide) rfl (fun ls hl => ?_)
  refine lv_iconst (v := 0) hx hb dX2_drawLots_9 (by decide) ?_
  refine lv_istore (lv' := [(7, .int 0), (6, .int 0), (5, .int 0), (4, .int z), (0, .ref (g 1)), (1, .int (nI n)), (2, .int z), (3, .int w)]) hx hb dX2_drawLots_10 hl (by decide) rfl (fun ls hl => ?_)
  have lp_12 : ∀ (fu_12 : Nat) (i : Nat) (x4_12 : Int32) (x5_12 : Int32) (x6_12 : Int32) (x7_12 : Int32) (T2 : BayT), (x4_12 = (dl_ B z i).1) → (x5_12 = (dl_ B z i).2.1) → (x6_12 = (dl_ B z i).2.2) → (x7_12 = nI i) → (i ≤ n) → n - i < fu_12 → ∀ (H : Heap) (locs : List Loc), va_P D vwCl (miO g ++ bW cI g 4 B ++ bW cI g 10 T2) H → va_D A (miO g ++ bW cI g 4 B ++ bW cI g 10 T2) → va_S A s.heap H locs → ∀ ls : Array Slot, lv_has ls 8 [(7, .int x7_12), (6, .int x6_12), (5, .int x5_12), (4, .int x4_12), (0, .ref (g 1)), (1, .int (nI n)), (2, .int z), (3, .int w)] → W p l e (jR 5) s m ([.ref (g 1), .int (nI n), .int z, .int w] : List Value).toArray below meth c H locs 0 0 (MQ below (va_Qi (S := BayT) (fun r u => r = if w = 0 then (dl_ B z n).2.1 else (dl_ B z n).2.2) (fun u t => va_P D vwCl ((fun u => miO g ++ bW cI g 4 B ++ bW cI g 10 u) u) t.heap) A) ([.ref (g 1), .int (nI n), .int z, .int w] : List Value).toArray s 0 0 A) (F0 m 12 ls []) := by
    intro fu_12
    induction fu_12 with
    | zero => intro i x4_12 x5_12 x6_12 x7_12 T2 hx4_12 hx5_12 hx6_12 hx7_12 hi hfu; exact absurd hfu (Nat.not_lt_zero _)
    | succ fu_12 ih_12 =>
      intro i x4_12 x5_12 x6_12 x7_12 T2 hx4_12 hx5_12 hx6_12 hx7_12 hi hfu_12 H locs hP hD hS ls hl
      subst x4_12
      subst x5_12
      subst x6_12
      subst x7_12
      replace hl : lv_has ls 8 [(7, .int (nI i)), (6, .int ((dl_ B z i).2.2)), (5, .int ((dl_ B z i).2.1)), (4, .int ((dl_ B z i).1)), (0, .ref (g 1)), (1, .int (nI n)), (2, .int z), (3, .int w)] := hl
      replace hP : va_P D vwCl (miO g ++ bW cI g 4 B ++ bW cI g 10 T2) H := hP
      replace hD : va_D A (miO g ++ bW cI g 4 B ++ bW cI g 10 T2) := hD
      refine lv_iload hx hb dX2_drawLots_12 (lv_at hl 0 rfl) ?_
      refine lv_iload_n hx hb dX2_drawLots_14 rfl (lv_at hl 5 rfl) ?_
      refine lv_icmp_ge (tgt := 83) hx hb dX2_drawLots_15 (by decide) (fun c_15 => ?_) (fun c_15 => ?_)
      · replace c_15 : nI n ≤ nI i := c_15
        rw [jle (by omega) (by omega)] at c_15
        refine lv_iload_n hx hb dX2_drawLots_83 rfl (lv_at hl 7 rfl) ?_
        refine lv_if_ne (tgt := 92) hx hb dX2_drawLots_84 (by decide) (fun c_84 => ?_) (fun c_84 => ?_)
        · skip
          refine lv_iload hx hb dX2_drawLots_92 (lv_at hl 1 rfl) ?_
          refine rMi hx hb hr hlk hS T2 hP ?_ dX2_drawLots_94
          have e9 : i = n := by omega
          subst e9
          first | rw [if_pos c_84] | rw [if_neg c_84]
        · skip
          refine lv_iload hx hb dX2_drawLots_87 (lv_at hl 2 rfl) ?_
          refine lv_goto (tgt := 94) hx hb dX2_drawLots_89 (by decide) ?_
          refine rMi hx hb hr hlk hS T2 hP ?_ dX2_drawLots_94
          have e9 : i = n := by omega
          subst e9
          first | rw [if_pos c_84] | rw [if_neg c_84]
      · replace c_15 : ¬ nI n ≤ nI i := c_15
        rw [jle (by omega) (by omega)] at c_15
        refine lv_aload_n hx hb dX2_drawLots_18 rfl (lv_at hl 4 rfl) ?_
        refine lv_iload hx hb dX2_drawLots_19 (lv_at hl 3 rfl) ?_
        refine kMiV hx hb hml hown hts hK hP hD hA hS gX2_drawLots_X2_layOut okX2_layOut (qX2_layOut l D cI cB g B T2 ((dl_ B z i).1) (by show sn_ B ≤ 7; omega)) [0, 1, 2, 3, 4, 5, 6, 7, 8, 9, 10, 11, 12] rfl (by decide) (fun _ => rfl) rfl rfl rfl (by decide) hl.1 rfl rfl (Nat.le_of_ble_eq_true rfl) dX2_drawLots_21 (by decide) (fun r_1 u_2 H locs hw_3 hP hD hS => ?_)
        replace hw_3 : r_1 = (lq_ B ((dl_ B z i).1) (sn_ B)).1 ∧ u_2 = lay_ B ((dl_ B z i).1) (sn_ B) := hw_3
        obtain ⟨hw_3a, hw_3b⟩ := hw_3
        subst r_1
        subst u_2
        replace hP : va_P D vwCl (miO g ++ bW cI g 4 B ++ bW cI g 10 (lay_ B ((dl_ B z i).1) (sn_ B))) H := hP
        replace hD : va_D A (miO g ++ bW cI g 4 B ++ bW cI g 10 (lay_ B ((dl_ B z i).1) (sn_ B))) := hD
        refine lv_istore (lv' := [(4, .int ((lq_ B ((dl_ B z i).1) (sn_ B)).1)), (7, .int (nI i)), (6, .int ((dl_ B z i).2.2)), (5, .int ((dl_ B z i).2.1)), (0, .ref (g 1)), (1, .int (nI n)), (2, .int z), (3, .int w)]) hx hb dX2_drawLots_24 hl (by decide) rfl (fun ls hl => ?_)
        refine lv_aload_n hx hb dX2_drawLots_26 rfl (lv_at hl 4 rfl) ?_
        refine va_get (ci := 2) (C := RX2) (T := TX2) (N := 4) hx hb hts hinX2 hown hK.1 hP 0 rfl rfl 1 (by decide) (hts _ (List.mem_of_getElem? (i := 1) rfl)) (fun _ h9 => h9) rfl dX2_drawLots_27 ?_
        refine lv_bipush (v := 24) hx hb dX2_drawLots_30 (by decide) ?_
        refine kMvN hx hb hml hown hts hK hP hD hA hS gX2_drawLots_X0_passHours_n36 (hK.2 _ (List.mem_of_getElem? (i := 82) rfl)) (hts _ (List.mem_of_getElem? (i := 13) rfl)) (hts _ (List.mem_of_getElem? (i := 42) rfl)) (hts _ (List.mem_of_getElem? (i := 43) rfl)) okX0_passHours (qX0_passHours l D cI cB g 10 (lay_ B ((dl_ B z i).1) (sn_ B)) 24 (by show sn_ (lay_ _ _ _) ≤ 7; exact hn7) (by decide)) [7, 8, 9, 10, 11, 12] rfl (by decide) (fun _ => rfl) rfl rfl rfl (by decide) hl.1 rfl rfl (Nat.le_of_ble_eq_true rfl) dX2_drawLots_32 (by decide) (fun u_5 H locs hw_6 hP hD hS => ?_)
        replace hw_6 : u_5 = hs_ 24 (lay_ B ((dl_ B z i).1) (sn_ B)) := hw_6
        subst u_5
        replace hP : va_P D vwCl (miO g ++ bW cI g 4 B ++ bW cI g 10 (hs_ 24 (lay_ B ((dl_ B z i).1) (sn_ B)))) H := hP
        replace hD : va_D A (miO g ++ bW cI g 4 B ++ bW cI g 10 (hs_ 24 (lay_ B ((dl_ B z i).1) (sn_ B)))) := hD
        refine lv_iload hx hb dX2_drawLots_35 (lv_at hl 3 rfl) ?_
        refine lv_aload_n hx hb dX2_drawLots_37 rfl (lv_at hl 4 rfl) ?_
        refine va_get (ci := 2) (C := RX2) (T := TX2) (N := 4) hx hb hts hinX2 hown hK.1 hP 0 rfl rfl 1 (by decide) (hts _ (List.mem_of_getElem? (i := 1) rfl)) (fun _ h9 => h9) rfl dX2_drawLots_38 ?_
        refine kSiN hx hb hml hown hts hK hP gX2_drawLots_X0_joyTogether_n154 (hK.2 _ (List.mem_of_getElem? (i := 114) rfl)) (hts _ (List.mem_of_getElem? (i := 13) rfl)) (hts _ (List.mem_of_getElem? (i := 107) rfl)) (hts _ (List.mem_of_getElem? (i := 108) rfl)) okX0_joyTogether (qX0_joyTogether l D cI cB g 10 (hs_ 24 (lay_ B ((dl_ B z i).1) (sn_ B))) (by show sn_ (hs_ _ _) ≤ 7; rw [sn_hs]; exact hn7)) [7, 8, 9, 10, 11, 12] rfl rfl rfl rfl (by decide) hl.1 rfl rfl (Nat.le_of_ble_eq_true rfl) dX2_drawLots_41 (by decide) (fun r_7 hr_8 => ?_)
        replace hr_8 : r_7 = su_ (jy_ (hs_ 24 (lay_ B ((dl_ B z i).1) (sn_ B)))) (sn_ (hs_ 24 (lay_ B ((dl_ B z i).1) (sn_ B)))) := hr_8
        subst r_7
        refine lv_aload_n hx hb dX2_drawLots_44 rfl (lv_at hl 4 rfl) ?_
        refine va_get (ci := 2) (C := RX2) (T := TX2) (N := 4) hx hb hts hinX2 hown hK.1 hP 0 rfl rfl 0 (by decide) (hts _ (List.mem_of_getElem? (i := 2) rfl)) (fun _ h9 => h9) rfl dX2_drawLots_45 ?_
        refine kSiN hx hb hml hown hts hK hP gX2_drawLots_X0_joyTogether_n154 (hK.2 _ (List.mem_of_getElem? (i := 114) rfl)) (hts _ (List.mem_of_getElem? (i := 13) rfl)) (hts _ (List.mem_of_getElem? (i := 107) rfl)) (hts _ (List.mem_of_getElem? (i := 108) rfl)) okX0_joyTogether (qX0_joyTogether l D cI cB g 4 B (by show sn_ B ≤ 7; omega)) [1, 2, 3, 4, 5, 6] rfl rfl rfl rfl (by decide) hl.1 rfl rfl (Nat.le_of_ble_eq_true rfl) dX2_drawLots_48 (by decide) (fun r_9 hr_10 => ?_)
        replace hr_10 : r_9 = su_ (jy_ B) (sn_ B) := hr_10
        subst r_9
        refine lv_isub hx hb dX2_drawLots_51 ?_
        refine lv_iadd hx hb dX2_drawLots_52 ?_
        refine lv_istore (lv' := [(5, .int (((dl_ B z i).2.1) + ((su_ (jy_ (hs_ 24 (lay_ B ((dl_ B z i).1) (sn_ B)))) (sn_ (hs_ 24 (lay_ B ((dl_ B z i).1) (sn_ B))))) - (su_ (jy_ B) (sn_ B))))), (4, .int ((lq_ B ((dl_ B z i).1) (sn_ B)).1)), (7, .int (nI i)), (6, .int ((dl_ B z i).2.2)), (0, .ref (g 1)), (1, .int (nI n)), (2, .int z), (3, .int w)]) hx hb dX2_drawLots_53 hl (by decide) rfl (fun ls hl => ?_)
        refine lv_iload hx hb dX2_drawLots_55 (lv_at hl 3 rfl) ?_
        refine lv_aload_n hx hb dX2_drawLots_57 rfl (lv_at hl 4 rfl) ?_
        refine va_get (ci := 2) (C := RX2) (T := TX2) (N := 4) hx hb hts hinX2 hown hK.1 hP 0 rfl rfl 1 (by decide) (hts _ (List.mem_of_getElem? (i := 1) rfl)) (fun _ h9 => h9) rfl dX2_drawLots_58 ?_
        refine kSiN hx hb hml hown hts hK hP gX2_drawLots_X0_owner_n52 (hK.2 _ (List.mem_of_getElem? (i := 87) rfl)) (hts _ (List.mem_of_getElem? (i := 13) rfl)) (hts _ (List.mem_of_getElem? (i := 100) rfl)) (hts _ (List.mem_of_getElem? (i := 101) rfl)) okX0_owner (qX0_owner l D cI cB g 10 (hs_ 24 (lay_ B ((dl_ B z i).1) (sn_ B))) (by show sn_ (hs_ _ _) ≤ 7; rw [sn_hs]; exact hn7)) [7, 8, 9, 10, 11, 12] rfl rfl rfl rfl (by decide) hl.1 rfl rfl (Nat.le_of_ble_eq_true rfl) dX2_drawLots_61 (by decide) (fun r_11 hr_12 => ?_)
        replace hr_12 : r_11 = oI_ (ow_ (hs_ 24 (lay_ B ((dl_ B z i).1) (sn_ B)))) := hr_12
        subst r_11
        refine lv_bipush (v := (-9)) hx hb dX2_drawLots_64 (by decide) ?_
        refine lv_icmp_eq (tgt := 73) hx hb dX2_drawLots_66 (by decide) (fun c_66 => ?_) (fun c_66 => ?_)
        · rw [show ow_ (hs_ 24 (lay_ B (dl_ B z i).1 (sn_ B))) = sa_ (hs_ 24 (lay_ B (dl_ B z i).1 (sn_ B))) (il_ (hs_ 24 (lay_ B (dl_ B z i).1 (sn_ B)))) from rfl, sa_9 (by rw [sn_hs]; exact hn7)] at c_66
          refine lv_iconst (v := 0) hx hb dX2_drawLots_73 (by decide) ?_
          refine lv_iadd hx hb dX2_drawLots_74 ?_
          refine lv_istore (lv' := [(6, .int (((dl_ B z i).2.2) + 0)), (5, .int (((dl_ B z i).2.1) + ((su_ (jy_ (hs_ 24 (lay_ B ((dl_ B z i).1) (sn_ B)))) (sn_ (hs_ 24 (lay_ B ((dl_ B z i).1) (sn_ B))))) - (su_ (jy_ B) (sn_ B))))), (4, .int ((lq_ B ((dl_ B z i).1) (sn_ B)).1)), (7, .int (nI i)), (0, .ref (g 1)), (1, .int (nI n)), (2, .int z), (3, .int w)]) hx hb dX2_drawLots_75 hl (by decide) rfl (fun ls hl => ?_)
          refine lv_iinc (v := (nI i) + 1) (lv' := [(7, .int ((nI i) + 1)), (6, .int (((dl_ B z i).2.2) + 0)), (5, .int (((dl_ B z i).2.1) + ((su_ (jy_ (hs_ 24 (lay_ B ((dl_ B z i).1) (sn_ B)))) (sn_ (hs_ 24 (lay_ B ((dl_ B z i).1) (sn_ B))))) - (su_ (jy_ B) (sn_ B))))), (4, .int ((lq_ B ((dl_ B z i).1) (sn_ B)).1)), (0, .ref (g 1)), (1, .int (nI n)), (2, .int z), (3, .int w)]) hx hb dX2_drawLots_77 hl (k := 3) rfl (by first | rfl | decide) (by decide) rfl (fun ls hl => ?_)
          refine lv_goto (tgt := 12) hx hb dX2_drawLots_80 (by decide) ?_
          exact ih_12 (i + 1) ((lq_ B ((dl_ B z i).1) (sn_ B)).1) (((dl_ B z i).2.1) + ((su_ (jy_ (hs_ 24 (lay_ B ((dl_ B z i).1) (sn_ B)))) (sn_ (hs_ 24 (lay_ B ((dl_ B z i).1) (sn_ B))))) - (su_ (jy_ B) (sn_ B)))) (((dl_ B z i).2.2) + 0) ((nI i) + 1) (hs_ 24 (lay_ B ((dl_ B z i).1) (sn_ B))) (rfl) (dl_j rfl) (by first | exact dl_a c_66 | exact dl_b c_66) (by first | rfl | exact nI_1 _) (by omega) (by omega) _ _ hP hD hS ls (lv_sub hl [0, 1, 2, 3, 4, 5, 6, 7] rfl)
        · rw [show ow_ (hs_ 24 (lay_ B (dl_ B z i).1 (sn_ B))) = sa_ (hs_ 24 (lay_ B (dl_ B z i).1 (sn_ B))) (il_ (hs_ 24 (lay_ B (dl_ B z i).1 (sn_ B)))) from rfl, sa_9 (by rw [sn_hs]; exact hn7)] at c_66
          refine lv_iconst (v := 1) hx hb dX2_drawLots_69 (by decide) ?_
          refine lv_goto (tgt := 74) hx hb dX2_drawLots_70 (by decide) ?_
          refine lv_iadd hx hb dX2_drawLots_74 ?_
          refine lv_istore (lv' := [(6, .int (((dl_ B z i).2.2) + 1)), (5, .int (((dl_ B z i).2.1) + ((su_ (jy_ (hs_ 24 (lay_ B ((dl_ B z i).1) (sn_ B)))) (sn_ (hs_ 24 (lay_ B ((dl_ B z i).1) (sn_ B))))) - (su_ (jy_ B) (sn_ B))))), (4, .int ((lq_ B ((dl_ B z i).1) (sn_ B)).1)), (7, .int (nI i)), (0, .ref (g 1)), (1, .int (nI n)), (2, .int z), (3, .int w)]) hx hb dX2_drawLots_75 hl (by decide) rfl (fun ls hl => ?_)
          refine lv_iinc (v := (nI i) + 1) (lv' := [(7, .int ((nI i) + 1)), (6, .int (((dl_ B z i).2.2) + 1)), (5, .int (((dl_ B z i).2.1) + ((su_ (jy_ (hs_ 24 (lay_ B ((dl_ B z i).1) (sn_ B)))) (sn_ (hs_ 24 (lay_ B ((dl_ B z i).1) (sn_ B))))) - (su_ (jy_ B) (sn_ B))))), (4, .int ((lq_ B ((dl_ B z i).1) (sn_ B)).1)), (0, .ref (g 1)), (1, .int (nI n)), (2, .int z), (3, .int w)]) hx hb dX2_drawLots_77 hl (k := 3) rfl (by first | rfl | decide) (by decide) rfl (fun ls hl => ?_)
          refine lv_goto (tgt := 12) hx hb dX2_drawLots_80 (by decide) ?_
          exact ih_12 (i + 1) ((lq_ B ((dl_ B z i).1) (sn_ B)).1) (((dl_ B z i).2.1) + ((su_ (jy_ (hs_ 24 (lay_ B ((dl_ B z i).1) (sn_ B)))) (sn_ (hs_ 24 (lay_ B ((dl_ B z i).1) (sn_ B))))) - (su_ (jy_ B) (sn_ B)))) (((dl_ B z i).2.2) + 1) ((nI i) + 1) (hs_ 24 (lay_ B ((dl_ B z i).1) (sn_ B))) (rfl) (dl_j rfl) (by first | exact dl_a c_66 | exact dl_b c_66) (by first | rfl | exact nI_1 _) (by omega) (by omega) _ _ hP hD hS ls (lv_sub hl [0, 1, 2, 3, 4, 5, 6, 7] rfl)
  exact lp_12 (n + 1) 0 z 0 0 0 T (rfl) (rfl) (rfl) (by first | rfl | exact nI_0.symm) (by omega) (by omega) _ _ hP hD hS ls (lv_sub hl [0, 1, 2, 3, 4, 5, 6, 7] rfl)

theorem okX2_thunderWays : jok yX2_thunderWays wsX2_thunderWays cX2_thunderWays 12 (some .long) 3 := ⟨⟨_, rfl⟩, by decide +kernel, by decide +kernel⟩
set_option maxHeartbeats 1000000 in
set_option maxRecDepth 100000 in
theorem qX2_thunderWays (l : Launch) (D : va_G) (cI cB : ClassId) (g : Nat → Nat) (B : BayT) (T : BayT) (k : Nat) (n : Nat) (t : Int32) (hn7 : sn_ B ≤ 7) (hk : k < 7) (hn : n ≤ 7) : jMl D cI cB l yX2_thunderWays wsX2_thunderWays 4 [.ref (g 1), .int (nI k), .int (nI n), .int t] (miO g ++ bW cI g 4 B ++ bW cI g 10 T) (S := BayT) (fun r u => r = wy_ B k n t (p2_ n)) (fun u => miO g ++ bW cI g 4 B ++ bW cI g 10 u) := by
  refine jMl.of (cc := cX2_thunderWays) (maxL := 12) (ret := (some .long)) okX2_thunderWays (Nat.le_of_ble_eq_true rfl) ?_
  intro p e s m below meth c ls A hx hb hr hts hown hlk hml hP hK hD hA hS hl
  replace hown : s.vm.findClass RX2 = some m.cls := hown
  replace hl : lv_has ls 12 [(0, .ref (g 1)), (1, .int (nI k)), (2, .int (nI n)), (3, .int t)] := hl
  have hp2 := p2_7 hn
  refine lv_lconst (v := 0) hx hb dX2_thunderWays_0 rfl ?_
  refine lv_lstore (lv' := [(4, .long 0), (0, .ref (g 1)), (1, .int (nI k)), (2, .int (nI n)), (3, .int t)]) hx hb dX2_thunderWays_1 hl (by decide) rfl (fun ls hl => ?_)
  refine lv_iconst (v := 0) hx hb dX2_thunderWays_3 (by decide) ?_
  refine lv_istore (lv' := [(6, .int 0), (4, .long 0), (0, .ref (g 1)), (1, .int (nI k)), (2, .int (nI n)), (3, .int t)]) hx hb dX2_thunderWays_4 hl (by decide) rfl (fun ls hl => ?_)
  have lp_6 : ∀ (fu_6 : Nat) (i : Nat) (x4_6 : Int64) (x6_6 : Int32) (T2 : BayT), (x4_6 = wy_ B k n t i) → (x6_6 = nI i) → (i ≤ p2_ n) → p2_ n - i < fu_6 → ∀ (H : Heap) (locs : List Loc), va_P D vwCl (miO g ++ bW cI g 4 B ++ bW cI g 10 T2) H → va_D A (miO g ++ bW cI g 4 B ++ bW cI g 10 T2) → va_S A s.heap H locs → ∀ ls : Array Slot, lv_has ls 12 [(6, .int x6_6), (4, .long x4_6), (0, .ref (g 1)), (1, .int (nI k)), (2, .int (nI n)), (3, .int t)] → W p l e (jR 4) s m ([.ref (g 1), .int (nI k), .int (nI n), .int t] : List Value).toArray below meth c H locs 0 0 (MQ below (va_Ql (S := BayT) (fun r u => r = wy_ B k n t (p2_ n)) (fun u t => va_P D vwCl ((fun u => miO g ++ bW cI g 4 B ++ bW cI g 10 u) u) t.heap) A) ([.ref (g 1), .int (nI k), .int (nI n), .int t] : List Value).toArray s 0 0 A) (F0 m 6 ls []) := by
    intro fu_6
    induction fu_6 with
    | zero => intro i x4_6 x6_6 T2 hx4_6 hx6_6 hi hfu; exact absurd hfu (Nat.not_lt_zero _)
    | succ fu_6 ih_6 =>
      intro i x4_6 x6_6 T2 hx4_6 hx6_6 hi hfu_6 H locs hP hD hS ls hl
      subst x4_6
      subst x6_6
      replace hl : lv_has ls 12 [(6, .int (nI i)), (4, .long (wy_ B k n t i)), (0, .ref (g 1)), (1, .int (nI k)), (2, .int (nI n)), (3, .int t)] := hl
      replace hP : va_P D vwCl (miO g ++ bW cI g 4 B ++ bW cI g 10 T2) H := hP
      replace hD : va_D A (miO g ++ bW cI g 4 B ++ bW cI g 10 T2) := hD
      refine lv_iload hx hb dX2_thunderWays_6 (lv_at hl 0 rfl) ?_
      refine lv_iconst (v := 1) hx hb dX2_thunderWays_8 (by decide) ?_
      refine lv_iload_n hx hb dX2_thunderWays_9 rfl (lv_at hl 4 rfl) ?_
      refine lv_ishl hx hb dX2_thunderWays_10 ?_
      refine lv_icmp_ge (tgt := 107) hx hb dX2_thunderWays_11 (by decide) (fun c_11 => ?_) (fun c_11 => ?_)
      · rw [sh_n hn, jle (by omega) (by omega)] at c_11
        refine lv_lload hx hb dX2_thunderWays_107 (lv_at hl 1 rfl) ?_
        refine rMl hx hb hr hlk hS T2 hP ?_ dX2_thunderWays_109
        have e9 : i = p2_ n := by omega
        rw [e9]
      · rw [sh_n hn, jle (by omega) (by omega)] at c_11
        refine lv_aload_n hx hb dX2_thunderWays_14 rfl (lv_at hl 2 rfl) ?_
        refine kMrV hx hb hml hown hts hK hP hD hA hS gX2_thunderWays_X2_asNow okX2_asNow (qX2_asNow l D cI cB g B T2 ) [0, 1, 2, 3, 4, 5, 6, 7, 8, 9, 10, 11, 12] rfl (by decide) (fun _ => rfl) rfl rfl rfl (by decide) hl.1 rfl rfl (Nat.le_of_ble_eq_true rfl) dX2_thunderWays_15 (by decide) (fun u_2 H locs hw_3 hP hD hS => ?_)
        replace hw_3 : u_2 = B := hw_3
        subst u_2
        replace hP : va_P D vwCl (miO g ++ bW cI g 4 B ++ bW cI g 10 (B)) H := hP
        replace hD : va_D A (miO g ++ bW cI g 4 B ++ bW cI g 10 (B)) := hD
        refine lv_astore (lv' := [(7, .ref (g 10)), (6, .int (nI i)), (4, .long (wy_ B k n t i)), (0, .ref (g 1)), (1, .int (nI k)), (2, .int (nI n)), (3, .int t)]) hx hb dX2_thunderWays_18 hl (by decide) rfl (fun ls hl => ?_)
        refine lv_lconst (v := 1) hx hb dX2_thunderWays_20 rfl ?_
        refine lv_lstore (lv' := [(8, .long 1), (7, .ref (g 10)), (6, .int (nI i)), (4, .long (wy_ B k n t i)), (0, .ref (g 1)), (1, .int (nI k)), (2, .int (nI n)), (3, .int t)]) hx hb dX2_thunderWays_21 hl (by decide) rfl (fun ls hl => ?_)
        refine lv_iconst (v := 0) hx hb dX2_thunderWays_23 (by decide) ?_
        refine lv_istore (lv' := [(10, .int 0), (8, .long 1), (7, .ref (g 10)), (6, .int (nI i)), (4, .long (wy_ B k n t i)), (0, .ref (g 1)), (1, .int (nI k)), (2, .int (nI n)), (3, .int t)]) hx hb dX2_thunderWays_24 hl (by decide) rfl (fun ls hl => ?_)
        have lp_26 : ∀ (fu_26 : Nat) (j : Nat) (x8_26 : Int64) (x10_26 : Int32) (T3 : BayT), (x8_26 = al_ t i j) → (x10_26 = nI j) → (T3 = th_ B i j) → (j ≤ n) → n - j < fu_26 → ∀ (H : Heap) (locs : List Loc), va_P D vwCl (miO g ++ bW cI g 4 B ++ bW cI g 10 T3) H → va_D A (miO g ++ bW cI g 4 B ++ bW cI g 10 T3) → va_S A s.heap H locs → ∀ ls : Array Slot, lv_has ls 12 [(10, .int x10_26), (8, .long x8_26), (7, .ref (g 10)), (6, .int (nI i)), (4, .long (wy_ B k n t i)), (0, .ref (g 1)), (1, .int (nI k)), (2, .int (nI n)), (3, .int t)] → W p l e (jR 4) s m ([.ref (g 1), .int (nI k), .int (nI n), .int t] : List Value).toArray below meth c H locs 0 0 (MQ below (va_Ql (S := BayT) (fun r u => r = wy_ B k n t (p2_ n)) (fun u t => va_P D vwCl ((fun u => miO g ++ bW cI g 4 B ++ bW cI g 10 u) u) t.heap) A) ([.ref (g 1), .int (nI k), .int (nI n), .int t] : List Value).toArray s 0 0 A) (F0 m 26 ls []) := by
          intro fu_26
          induction fu_26 with
          | zero => intro j x8_26 x10_26 T3 hx8_26 hx10_26 hT3 hj hfu; exact absurd hfu (Nat.not_lt_zero _)
          | succ fu_26 ih_26 =>
            intro j x8_26 x10_26 T3 hx8_26 hx10_26 hT3 hj hfu_26 H locs hP hD hS ls hl
            subst x8_26
            subst x10_26
            subst T3
            replace hl : lv_has ls 12 [(10, .int (nI j)), (8, .long (al_ t i j)), (7, .ref (g 10)), (6, .int (nI i)), (4, .long (wy_ B k n t i)), (0, .ref (g 1)), (1, .int (nI k)), (2, .int (nI n)), (3, .int t)] := hl
            replace hP : va_P D vwCl (miO g ++ bW cI g 4 B ++ bW cI g 10 (th_ B i j)) H := hP
            replace hD : va_D A (miO g ++ bW cI g 4 B ++ bW cI g 10 (th_ B i j)) := hD
            refine lv_iload hx hb dX2_thunderWays_26 (lv_at hl 0 rfl) ?_
            refine lv_iload_n hx hb dX2_thunderWays_28 rfl (lv_at hl 7 rfl) ?_
            refine lv_icmp_ge (tgt := 81) hx hb dX2_thunderWays_29 (by decide) (fun c_29 => ?_) (fun c_29 => ?_)
            · replace c_29 : nI n ≤ nI j := c_29
              rw [jle (by omega) (by omega)] at c_29
              refine lv_lload hx hb dX2_thunderWays_81 (lv_at hl 4 rfl) ?_
              refine lv_aload hx hb dX2_thunderWays_83 (lv_at hl 2 rfl) ?_
              refine lv_iload_n hx hb dX2_thunderWays_85 rfl (lv_at hl 6 rfl) ?_
              refine kSiN hx hb hml hown hts hK hP gX2_thunderWays_X0_hasIsle_n44 (hK.2 _ (List.mem_of_getElem? (i := 84) rfl)) (hts _ (List.mem_of_getElem? (i := 9) rfl)) (hts _ (List.mem_of_getElem? (i := 47) rfl)) (hts _ (List.mem_of_getElem? (i := 48) rfl)) okX0_hasIsle (qX0_hasIsle l D cI cB g 10 (th_ B i j) k (by show sn_ (th_ _ _ _) ≤ 7; rw [sn_th]; omega) (by omega)) [7, 8, 9, 10, 11, 12] rfl rfl rfl rfl (by decide) hl.1 rfl rfl (Nat.le_of_ble_eq_true rfl) dX2_thunderWays_86 (by decide) (fun r_4 hr_5 => ?_)
              replace hr_5 : r_4 = b1 (pl_ (th_ B i j) k = il_ (th_ B i j)) := hr_5
              subst r_4
              refine lv_if_eq (tgt := 97) hx hb dX2_thunderWays_89 (by decide) (fun c_89 => ?_) (fun c_89 => ?_)
              · replace c_89 := b1_z c_89
                refine lv_lconst (v := 0) hx hb dX2_thunderWays_97 rfl ?_
                refine lv_ladd hx hb dX2_thunderWays_98 ?_
                refine lv_lstore (lv' := [(4, .long ((wy_ B k n t i) + 0)), (10, .int (nI j)), (8, .long (al_ t i j)), (7, .ref (g 10)), (6, .int (nI i)), (0, .ref (g 1)), (1, .int (nI k)), (2, .int (nI n)), (3, .int t)]) hx hb dX2_thunderWays_99 hl (by decide) rfl (fun ls hl => ?_)
                refine lv_iinc (v := (nI i) + 1) (lv' := [(6, .int ((nI i) + 1)), (4, .long ((wy_ B k n t i) + 0)), (10, .int (nI j)), (8, .long (al_ t i j)), (7, .ref (g 10)), (0, .ref (g 1)), (1, .int (nI k)), (2, .int (nI n)), (3, .int t)]) hx hb dX2_thunderWays_101 hl (k := 4) rfl (by first | rfl | decide) (by decide) rfl (fun ls hl => ?_)
                refine lv_goto (tgt := 6) hx hb dX2_thunderWays_104 (by decide) ?_
                exact ih_6 (i + 1) ((wy_ B k n t i) + 0) ((nI i) + 1) (th_ B i j) (by first | exact wy_y (by show j = n; omega) c_89 | exact wy_n (by show j = n; omega) c_89) (by first | rfl | exact nI_1 _) (by omega) (by omega) _ _ hP hD hS ls (lv_sub hl [0, 1, 5, 6, 7, 8] rfl)
              · replace c_89 := b1_n c_89
                refine lv_lload hx hb dX2_thunderWays_92 (lv_at hl 1 rfl) ?_
                refine lv_goto (tgt := 98) hx hb dX2_thunderWays_94 (by decide) ?_
                refine lv_ladd hx hb dX2_thunderWays_98 ?_
                refine lv_lstore (lv' := [(4, .long ((wy_ B k n t i) + (al_ t i j))), (10, .int (nI j)), (8, .long (al_ t i j)), (7, .ref (g 10)), (6, .int (nI i)), (0, .ref (g 1)), (1, .int (nI k)), (2, .int (nI n)), (3, .int t)]) hx hb dX2_thunderWays_99 hl (by decide) rfl (fun ls hl => ?_)
                refine lv_iinc (v := (nI i) + 1) (lv' := [(6, .int ((nI i) + 1)), (4, .long ((wy_ B k n t i) + (al_ t i j))), (10, .int (nI j)), (8, .long (al_ t i j)), (7, .ref (g 10)), (0, .ref (g 1)), (1, .int (nI k)), (2, .int (nI n)), (3, .int t)]) hx hb dX2_thunderWays_101 hl (k := 4) rfl (by first | rfl | decide) (by decide) rfl (fun ls hl => ?_)
                refine lv_goto (tgt := 6) hx hb dX2_thunderWays_104 (by decide) ?_
                exact ih_6 (i + 1) ((wy_ B k n t i) + (al_ t i j)) ((nI i) + 1) (th_ B i j) (by first | exact wy_y (by show j = n; omega) c_89 | exact wy_n (by show j = n; omega) c_89) (by first | rfl | exact nI_1 _) (by omega) (by omega) _ _ hP hD hS ls (lv_sub hl [0, 1, 5, 6, 7, 8] rfl)
            · replace c_29 : ¬ nI n ≤ nI j := c_29
              rw [jle (by omega) (by omega)] at c_29
              refine lv_iload hx hb dX2_thunderWays_32 (lv_at hl 3 rfl) ?_
              refine lv_iload hx hb dX2_thunderWays_34 (lv_at hl 0 rfl) ?_
              refine lv_ishr hx hb dX2_thunderWays_36 ?_
              refine lv_iconst (v := 1) hx hb dX2_thunderWays_37 (by decide) ?_
              refine lv_iand hx hb dX2_thunderWays_38 ?_
              refine lv_iconst (v := 1) hx hb dX2_thunderWays_39 (by decide) ?_
              refine lv_icmp_ne (tgt := 47) hx hb dX2_thunderWays_40 (by decide) (fun c_40 => ?_) (fun c_40 => ?_)
              · skip
                refine lv_iconst (v := 0) hx hb dX2_thunderWays_47 (by decide) ?_
                refine lv_istore (lv' := [(11, .int 0), (10, .int (nI j)), (8, .long (al_ t i j)), (7, .ref (g 10)), (6, .int (nI i)), (4, .long (wy_ B k n t i)), (0, .ref (g 1)), (1, .int (nI k)), (2, .int (nI n)), (3, .int t)]) hx hb dX2_thunderWays_48 hl (by decide) rfl (fun ls hl => ?_)
                refine lv_lload hx hb dX2_thunderWays_50 (lv_at hl 2 rfl) ?_
                refine lv_iload hx hb dX2_thunderWays_52 (lv_at hl 0 rfl) ?_
                refine lv_if_eq (tgt := 61) hx hb dX2_thunderWays_54 (by decide) (fun _ => ?_) (fun q => absurd q (by decide))
                refine lv_iload_n hx hb dX2_thunderWays_61 rfl (lv_at hl 9 rfl) ?_
                refine lv_iconst (v := 1) hx hb dX2_thunderWays_62 (by decide) ?_
                refine lv_isub hx hb dX2_thunderWays_63 ?_
                refine lv_i2l (v := (t - 1 : Int32).toInt64) hx hb dX2_thunderWays_64 rfl ?_
                refine lv_lmul hx hb dX2_thunderWays_65 ?_
                refine lv_lstore (lv' := [(8, .long ((al_ t i j) * ((t - 1 : Int32).toInt64))), (11, .int 0), (10, .int (nI j)), (7, .ref (g 10)), (6, .int (nI i)), (4, .long (wy_ B k n t i)), (0, .ref (g 1)), (1, .int (nI k)), (2, .int (nI n)), (3, .int t)]) hx hb dX2_thunderWays_66 hl (by decide) rfl (fun ls hl => ?_)
                refine lv_aload hx hb dX2_thunderWays_68 (lv_at hl 3 rfl) ?_
                refine lv_iload hx hb dX2_thunderWays_70 (lv_at hl 1 rfl) ?_
                refine kMvN hx hb hml hown hts hK hP hD hA hS gX2_thunderWays_X0_passHour_n40 (hK.2 _ (List.mem_of_getElem? (i := 85) rfl)) (hts _ (List.mem_of_getElem? (i := 9) rfl)) (hts _ (List.mem_of_getElem? (i := 27) rfl)) (hts _ (List.mem_of_getElem? (i := 28) rfl)) okX0_passHour (qX0_passHour l D cI cB g 10 (th_ B i j) False inferInstance (by show sn_ (th_ _ _ _) ≤ 7; rw [sn_th]; omega)) [7, 8, 9, 10, 11, 12] rfl (by decide) (fun _ => rfl) rfl rfl rfl (by decide) hl.1 rfl rfl (Nat.le_of_ble_eq_true rfl) dX2_thunderWays_72 (by decide) (fun u_7 H locs hw_8 hP hD hS => ?_)
                replace hw_8 : u_7 = hb_ False (th_ B i j) := hw_8
                subst u_7
                replace hP : va_P D vwCl (miO g ++ bW cI g 4 B ++ bW cI g 10 (hb_ False (th_ B i j))) H := hP
                replace hD : va_D A (miO g ++ bW cI g 4 B ++ bW cI g 10 (hb_ False (th_ B i j))) := hD
                refine lv_iinc (v := (nI j) + 1) (lv' := [(10, .int ((nI j) + 1)), (8, .long ((al_ t i j) * ((t - 1 : Int32).toInt64))), (11, .int 0), (7, .ref (g 10)), (6, .int (nI i)), (4, .long (wy_ B k n t i)), (0, .ref (g 1)), (1, .int (nI k)), (2, .int (nI n)), (3, .int t)]) hx hb dX2_thunderWays_75 hl (k := 2) rfl (by first | rfl | decide) (by decide) rfl (fun ls hl => ?_)
                refine lv_goto (tgt := 26) hx hb dX2_thunderWays_78 (by decide) ?_
                exact ih_26 (j + 1) ((al_ t i j) * ((t - 1 : Int32).toInt64)) ((nI j) + 1) (hb_ False (th_ B i j)) (by simp only [al_]; first | rw [if_pos (show qb_ (nI i) j = 1 from c_40)] | rw [if_neg (show ¬ qb_ (nI i) j = 1 from c_40)]) (by first | rfl | exact nI_1 _) (by first | exact hb_c ⟨fun _ => c_40, fun _ => trivial⟩ _ | exact hb_c ⟨fun q => q.elim, fun q => absurd q c_40⟩ _) (by omega) (by omega) _ _ hP hD hS ls (lv_sub hl [0, 1, 3, 4, 5, 6, 7, 8, 9] rfl)
              · skip
                refine lv_iconst (v := 1) hx hb dX2_thunderWays_43 (by decide) ?_
                refine lv_goto (tgt := 48) hx hb dX2_thunderWays_44 (by decide) ?_
                refine lv_istore (lv' := [(11, .int 1), (10, .int (nI j)), (8, .long (al_ t i j)), (7, .ref (g 10)), (6, .int (nI i)), (4, .long (wy_ B k n t i)), (0, .ref (g 1)), (1, .int (nI k)), (2, .int (nI n)), (3, .int t)]) hx hb dX2_thunderWays_48 hl (by decide) rfl (fun ls hl => ?_)
                refine lv_lload hx hb dX2_thunderWays_50 (lv_at hl 2 rfl) ?_
                refine lv_iload hx hb dX2_thunderWays_52 (lv_at hl 0 rfl) ?_
                refine lv_if_eq (tgt := 61) hx hb dX2_thunderWays_54 (by decide) (fun q => absurd q (by decide)) (fun _ => ?_)
                refine lv_lconst (v := 1) hx hb dX2_thunderWays_57 rfl ?_
                refine lv_goto (tgt := 65) hx hb dX2_thunderWays_58 (by decide) ?_
                refine lv_lmul hx hb dX2_thunderWays_65 ?_
                refine lv_lstore (lv' := [(8, .long ((al_ t i j) * 1)), (11, .int 1), (10, .int (nI j)), (7, .ref (g 10)), (6, .int (nI i)), (4, .long (wy_ B k n t i)), (0, .ref (g 1)), (1, .int (nI k)), (2, .int (nI n)), (3, .int t)]) hx hb dX2_thunderWays_66 hl (by decide) rfl (fun ls hl => ?_)
                refine lv_aload hx hb dX2_thunderWays_68 (lv_at hl 3 rfl) ?_
                refine lv_iload hx hb dX2_thunderWays_70 (lv_at hl 1 rfl) ?_
                refine kMvN hx hb hml hown hts hK hP hD hA hS gX2_thunderWays_X0_passHour_n40 (hK.2 _ (List.mem_of_getElem? (i := 85) rfl)) (hts _ (List.mem_of_getElem? (i := 9) rfl)) (hts _ (List.mem_of_getElem? (i := 27) rfl)) (hts _ (List.mem_of_getElem? (i := 28) rfl)) okX0_passHour (qX0_passHour l D cI cB g 10 (th_ B i j) True inferInstance (by show sn_ (th_ _ _ _) ≤ 7; rw [sn_th]; omega)) [7, 8, 9, 10, 11, 12] rfl (by decide) (fun _ => rfl) rfl rfl rfl (by decide) hl.1 rfl rfl (Nat.le_of_ble_eq_true rfl) dX2_thunderWays_72 (by decide) (fun u_10 H locs hw_11 hP hD hS => ?_)
                replace hw_11 : u_10 = hb_ True (th_ B i j) := hw_11
                subst u_10
                replace hP : va_P D vwCl (miO g ++ bW cI g 4 B ++ bW cI g 10 (hb_ True (th_ B i j))) H := hP
                replace hD : va_D A (miO g ++ bW cI g 4 B ++ bW cI g 10 (hb_ True (th_ B i j))) := hD
                refine lv_iinc (v := (nI j) + 1) (lv' := [(10, .int ((nI j) + 1)), (8, .long ((al_ t i j) * 1)), (11, .int 1), (7, .ref (g 10)), (6, .int (nI i)), (4, .long (wy_ B k n t i)), (0, .ref (g 1)), (1, .int (nI k)), (2, .int (nI n)), (3, .int t)]) hx hb dX2_thunderWays_75 hl (k := 2) rfl (by first | rfl | decide) (by decide) rfl (fun ls hl => ?_)
                refine lv_goto (tgt := 26) hx hb dX2_thunderWays_78 (by decide) ?_
                exact ih_26 (j + 1) ((al_ t i j) * 1) ((nI j) + 1) (hb_ True (th_ B i j)) (by simp only [al_]; first | rw [if_pos (show qb_ (nI i) j = 1 from c_40)] | rw [if_neg (show ¬ qb_ (nI i) j = 1 from c_40)]) (by first | rfl | exact nI_1 _) (by first | exact hb_c ⟨fun _ => c_40, fun _ => trivial⟩ _ | exact hb_c ⟨fun q => q.elim, fun q => absurd q c_40⟩ _) (by omega) (by omega) _ _ hP hD hS ls (lv_sub hl [0, 1, 3, 4, 5, 6, 7, 8, 9] rfl)
        exact lp_26 (n + 1) 0 1 0 (B) (rfl) (by first | rfl | exact nI_0.symm) (rfl) (by omega) (by omega) _ _ hP hD hS ls (lv_sub hl [0, 1, 2, 3, 4, 5, 6, 7, 8] rfl)
  exact lp_6 ((p2_ n) + 1) 0 0 0 T (rfl) (by first | rfl | exact nI_0.symm) (by omega) (by omega) _ _ hP hD hS ls (lv_sub hl [0, 1, 2, 3, 4, 5] rfl)
