theorem okX2_guessBits : jok yX2_guessBits wsX2_guessBits cX2_guessBits 9 (some .int) 5 := ⟨⟨_, rfl⟩, by decide +kernel, by decide +kernel⟩
set_option maxHeartbeats 1000000 in
set_option maxRecDepth 100000 in
theorem qX2_guessBits (l : Launch) (D : va_G) (cI cB : ClassId) (g : Nat → Nat) (B : BayT) (T : BayT) (f : Nat → Int32) (k : Nat) (w : Int32) (la : Nat) (n : Nat) (hn7 : sn_ B ≤ 7) (hk : k < 7) (hla : la ≤ 10) (hn : n ≤ 12) : jMi D cI cB l yX2_guessBits wsX2_guessBits 5 [.ref (g 1), .int (nI k), .int w, .int (nI la), .ref (g 16), .int (nI n)] (miO g ++ bW cI g 4 B ++ bW cI g 10 T ++ [(g 16, .inl (cI, 12, .inl f))]) (S := BayT) (fun r u => r = gb_ B k w f n (g0_ w) (la + 1 - g0_ w)) (fun u => miO g ++ bW cI g 4 B ++ bW cI g 10 u ++ [(g 16, .inl (cI, 12, .inl f))]) := by
  refine jMi.of (cc := cX2_guessBits) (maxL := 9) (ret := (some .int)) okX2_guessBits (Nat.le_of_ble_eq_true rfl) ?_
  intro p e s m below meth c ls A hx hb hr hts hown hlk hml hP hK hD hA hS hl
  replace hown : s.vm.findClass RX2 = some m.cls := hown
  replace hl : lv_has ls 9 [(0, .ref (g 1)), (1, .int (nI k)), (2, .int w), (3, .int (nI la)), (4, .ref (g 16)), (5, .int (nI n))] := hl
  have hg0 : g0_ w ≤ 1 := by unfold g0_; split <;> decide
  have hinX0 : ∀ w ∈ wsX00, w ∈ wsX2_guessBits := by decide +kernel
  refine lv_iconst (v := 0) hx hb dX2_guessBits_0 (by decide) ?_
  refine lv_istore (lv' := [(6, .int 0), (0, .ref (g 1)), (1, .int (nI k)), (2, .int w), (3, .int (nI la)), (4, .ref (g 16)), (5, .int (nI n))]) hx hb dX2_guessBits_1 hl (by decide) rfl (fun ls hl => ?_)
  have jn_13 : ∀   (y9 : Int32), (y9 = nI (g0_ w)) → ∀ (H : Heap) (locs : List Loc), va_P D vwCl (miO g ++ bW cI g 4 B ++ bW cI g 10 T ++ [(g 16, .inl (cI, 12, .inl f))]) H → va_D A (miO g ++ bW cI g 4 B ++ bW cI g 10 T ++ [(g 16, .inl (cI, 12, .inl f))]) → va_S A s.heap H locs → ∀ ls : Array Slot, lv_has ls 9 [(6, .int 0), (0, .ref (g 1)), (1, .int (nI k)), (2, .int w), (3, .int (nI la)), (4, .ref (g 16)), (5, .int (nI n))] → W p l e (jR 5) s m ([.ref (g 1), .int (nI k), .int w, .int (nI la), .ref (g 16), .int (nI n)] : List Value).toArray below meth c H locs 0 0 (MQ below (va_Qi (S := BayT) (fun r u => r = gb_ B k w f n (g0_ w) (la + 1 - g0_ w)) (fun u t => va_P D vwCl ((fun u => miO g ++ bW cI g 4 B ++ bW cI g 10 u ++ [(g 16, .inl (cI, 12, .inl f))]) u) t.heap) A) ([.ref (g 1), .int (nI k), .int w, .int (nI la), .ref (g 16), .int (nI n)] : List Value).toArray s 0 0 A) (F0 m 13 ls [.int y9]) := by
      intro y9 hy9 H locs hP hD hS ls hl
      subst y9
      replace hl : lv_has ls 9 [(6, .int 0), (0, .ref (g 1)), (1, .int (nI k)), (2, .int w), (3, .int (nI la)), (4, .ref (g 16)), (5, .int (nI n))] := hl
      replace hP : va_P D vwCl (miO g ++ bW cI g 4 B ++ bW cI g 10 T ++ [(g 16, .inl (cI, 12, .inl f))]) H := hP
      replace hD : va_D A (miO g ++ bW cI g 4 B ++ bW cI g 10 T ++ [(g 16, .inl (cI, 12, .inl f))]) := hD
      refine lv_istore (lv' := [(7, .int (nI (g0_ w))), (6, .int 0), (0, .ref (g 1)), (1, .int (nI k)), (2, .int w), (3, .int (nI la)), (4, .ref (g 16)), (5, .int (nI n))]) hx hb dX2_guessBits_13 hl (by decide) rfl (fun ls hl => ?_)
      have lp_15 : ∀ (fu_15 : Nat) (i : Nat) (x6_15 : Int32) (x7_15 : Int32) (T2 : BayT), (x6_15 = gb_ B k w f n (g0_ w) i) → (x7_15 = nI (g0_ w + i)) → (i ≤ la + 1 - g0_ w) → la + 1 - g0_ w - i < fu_15 → ∀ (H : Heap) (locs : List Loc), va_P D vwCl (miO g ++ bW cI g 4 B ++ bW cI g 10 T2 ++ [(g 16, .inl (cI, 12, .inl f))]) H → va_D A (miO g ++ bW cI g 4 B ++ bW cI g 10 T2 ++ [(g 16, .inl (cI, 12, .inl f))]) → va_S A s.heap H locs → ∀ ls : Array Slot, lv_has ls 9 [(7, .int x7_15), (6, .int x6_15), (0, .ref (g 1)), (1, .int (nI k)), (2, .int w), (3, .int (nI la)), (4, .ref (g 16)), (5, .int (nI n))] → W p l e (jR 5) s m ([.ref (g 1), .int (nI k), .int w, .int (nI la), .ref (g 16), .int (nI n)] : List Value).toArray below meth c H locs 0 0 (MQ below (va_Qi (S := BayT) (fun r u => r = gb_ B k w f n (g0_ w) (la + 1 - g0_ w)) (fun u t => va_P D vwCl ((fun u => miO g ++ bW cI g 4 B ++ bW cI g 10 u ++ [(g 16, .inl (cI, 12, .inl f))]) u) t.heap) A) ([.ref (g 1), .int (nI k), .int w, .int (nI la), .ref (g 16), .int (nI n)] : List Value).toArray s 0 0 A) (F0 m 15 ls []) := by
        intro fu_15
        induction fu_15 with
        | zero => intro i x6_15 x7_15 T2 hx6_15 hx7_15 hi hfu; exact absurd hfu (Nat.not_lt_zero _)
        | succ fu_15 ih_15 =>
          intro i x6_15 x7_15 T2 hx6_15 hx7_15 hi hfu_15 H locs hP hD hS ls hl
          subst x6_15
          subst x7_15
          replace hl : lv_has ls 9 [(7, .int (nI (g0_ w + i))), (6, .int (gb_ B k w f n (g0_ w) i)), (0, .ref (g 1)), (1, .int (nI k)), (2, .int w), (3, .int (nI la)), (4, .ref (g 16)), (5, .int (nI n))] := hl
          replace hP : va_P D vwCl (miO g ++ bW cI g 4 B ++ bW cI g 10 T2 ++ [(g 16, .inl (cI, 12, .inl f))]) H := hP
          replace hD : va_D A (miO g ++ bW cI g 4 B ++ bW cI g 10 T2 ++ [(g 16, .inl (cI, 12, .inl f))]) := hD
          refine lv_iload hx hb dX2_guessBits_15 (lv_at hl 0 rfl) ?_
          refine lv_iload_n hx hb dX2_guessBits_17 rfl (lv_at hl 5 rfl) ?_
          refine lv_icmp_gt (tgt := 113) hx hb dX2_guessBits_18 (by decide) (fun c_18 => ?_) (fun c_18 => ?_)
          · replace c_18 : nI la < nI (g0_ w + i) := c_18
            rw [jlt (by omega) (by omega)] at c_18
            refine lv_iload hx hb dX2_guessBits_113 (lv_at hl 1 rfl) ?_
            refine rMi hx hb hr hlk hS T2 hP ?_ dX2_guessBits_115
            have e9 : i = la + 1 - g0_ w := by omega
            rw [e9]
          · replace c_18 : ¬ nI la < nI (g0_ w + i) := c_18
            rw [jlt (by omega) (by omega)] at c_18
            refine lv_aload_n hx hb dX2_guessBits_21 rfl (lv_at hl 2 rfl) ?_
            refine kMrV hx hb hml hown hts hK hP hD hA hS gX2_guessBits_X2_asNow okX2_asNow (qX2_asNow l D cI cB g B T2 ) [0, 1, 2, 3, 4, 5, 6, 7, 8, 9, 10, 11, 12] rfl (by decide) (fun _ => rfl) rfl rfl rfl (by decide) hl.1 rfl rfl (Nat.le_of_ble_eq_true rfl) dX2_guessBits_22 (by decide) (fun u_2 H locs hw_3 hP hD hS => ?_)
            replace hw_3 : u_2 = B := hw_3
            subst u_2
            replace hP : va_P D vwCl (miO g ++ bW cI g 4 B ++ bW cI g 10 (B) ++ [(g 16, .inl (cI, 12, .inl f))]) H := hP
            replace hD : va_D A (miO g ++ bW cI g 4 B ++ bW cI g 10 (B) ++ [(g 16, .inl (cI, 12, .inl f))]) := hD
            refine lv_astore (lv' := [(8, .ref (g 10)), (7, .int (nI (g0_ w + i))), (6, .int (gb_ B k w f n (g0_ w) i)), (0, .ref (g 1)), (1, .int (nI k)), (2, .int w), (3, .int (nI la)), (4, .ref (g 16)), (5, .int (nI n))]) hx hb dX2_guessBits_25 hl (by decide) rfl (fun ls hl => ?_)
            have jn_87 : ∀   (T7 : BayT), (T7 = ug_ B k w (nI (g0_ w + i))) → ∀ (H : Heap) (locs : List Loc), va_P D vwCl (miO g ++ bW cI g 4 B ++ bW cI g 10 T7 ++ [(g 16, .inl (cI, 12, .inl f))]) H → va_D A (miO g ++ bW cI g 4 B ++ bW cI g 10 T7 ++ [(g 16, .inl (cI, 12, .inl f))]) → va_S A s.heap H locs → ∀ ls : Array Slot, lv_has ls 9 [(8, .ref (g 10)), (7, .int (nI (g0_ w + i))), (6, .int (gb_ B k w f n (g0_ w) i)), (0, .ref (g 1)), (1, .int (nI k)), (2, .int w), (3, .int (nI la)), (4, .ref (g 16)), (5, .int (nI n))] → W p l e (jR 5) s m ([.ref (g 1), .int (nI k), .int w, .int (nI la), .ref (g 16), .int (nI n)] : List Value).toArray below meth c H locs 0 0 (MQ below (va_Qi (S := BayT) (fun r u => r = gb_ B k w f n (g0_ w) (la + 1 - g0_ w)) (fun u t => va_P D vwCl ((fun u => miO g ++ bW cI g 4 B ++ bW cI g 10 u ++ [(g 16, .inl (cI, 12, .inl f))]) u) t.heap) A) ([.ref (g 1), .int (nI k), .int w, .int (nI la), .ref (g 16), .int (nI n)] : List Value).toArray s 0 0 A) (F0 m 87 ls []) := by
                intro T7 hT7 H locs hP hD hS ls hl
                subst T7
                replace hl : lv_has ls 9 [(8, .ref (g 10)), (7, .int (nI (g0_ w + i))), (6, .int (gb_ B k w f n (g0_ w) i)), (0, .ref (g 1)), (1, .int (nI k)), (2, .int w), (3, .int (nI la)), (4, .ref (g 16)), (5, .int (nI n))] := hl
                replace hP : va_P D vwCl (miO g ++ bW cI g 4 B ++ bW cI g 10 (ug_ B k w (nI (g0_ w + i))) ++ [(g 16, .inl (cI, 12, .inl f))]) H := hP
                replace hD : va_D A (miO g ++ bW cI g 4 B ++ bW cI g 10 (ug_ B k w (nI (g0_ w + i))) ++ [(g 16, .inl (cI, 12, .inl f))]) := hD
                refine lv_aload_n hx hb dX2_guessBits_87 rfl (lv_at hl 3 rfl) ?_
                refine lv_aload hx hb dX2_guessBits_88 (lv_at hl 7 rfl) ?_
                refine lv_iload hx hb dX2_guessBits_90 (lv_at hl 8 rfl) ?_
                refine kMiV hx hb hml hown hts hK hP hD hA hS gX2_guessBits_X2_goesAsTold okX2_goesAsTold (qX2_goesAsTold l D cI cB g B (ug_ B k w (nI (g0_ w + i))) f n (by omega) (by rw [sn_ug]; omega) (by omega)) [0, 1, 2, 3, 4, 5, 6, 7, 8, 9, 10, 11, 12, 13] rfl (by decide) (fun _ => rfl) rfl rfl rfl (by decide) hl.1 rfl rfl (Nat.le_of_ble_eq_true rfl) dX2_guessBits_92 (by decide) (fun r_4 u_5 H locs hw_6 hP hD hS => ?_)
                replace hw_6 : r_4 = b1 (ro_ f (ug_ B k w (nI (g0_ w + i))) n 0 = true) := hw_6
                subst r_4
                replace hP : va_P D vwCl (miO g ++ bW cI g 4 B ++ bW cI g 10 u_5 ++ [(g 16, .inl (cI, 12, .inl f))]) H := hP
                replace hD : va_D A (miO g ++ bW cI g 4 B ++ bW cI g 10 u_5 ++ [(g 16, .inl (cI, 12, .inl f))]) := hD
                refine lv_if_eq (tgt := 107) hx hb dX2_guessBits_95 (by decide) (fun c_95 => ?_) (fun c_95 => ?_)
                · replace c_95 := b1_z c_95
                  refine lv_iinc (v := (nI (g0_ w + i)) + 1) (lv' := [(7, .int ((nI (g0_ w + i)) + 1)), (8, .ref (g 10)), (6, .int (gb_ B k w f n (g0_ w) i)), (0, .ref (g 1)), (1, .int (nI k)), (2, .int w), (3, .int (nI la)), (4, .ref (g 16)), (5, .int (nI n))]) hx hb dX2_guessBits_107 hl (k := 1) rfl (by first | rfl | decide) (by decide) rfl (fun ls hl => ?_)
                  refine lv_goto (tgt := 15) hx hb dX2_guessBits_110 (by decide) ?_
                  exact ih_15 (i + 1) (gb_ B k w f n (g0_ w) i) ((nI (g0_ w + i)) + 1) u_5 (by first | exact gb_y rfl c_95 | exact gb_n rfl c_95) (nI_1 _) (by omega) (by omega) _ _ hP hD hS ls (lv_sub hl [0, 2, 3, 4, 5, 6, 7, 8] rfl)
                · replace c_95 := b1_n c_95
                  refine lv_iload hx hb dX2_guessBits_98 (lv_at hl 2 rfl) ?_
                  refine lv_iconst (v := 1) hx hb dX2_guessBits_100 (by decide) ?_
                  refine lv_iload hx hb dX2_guessBits_101 (lv_at hl 1 rfl) ?_
                  refine lv_ishl hx hb dX2_guessBits_103 ?_
                  refine lv_ior hx hb dX2_guessBits_104 ?_
                  refine lv_istore (lv' := [(6, .int ((gb_ B k w f n (g0_ w) i) ||| (1 <<< ((nI (g0_ w + i)) &&& 31)))), (8, .ref (g 10)), (7, .int (nI (g0_ w + i))), (0, .ref (g 1)), (1, .int (nI k)), (2, .int w), (3, .int (nI la)), (4, .ref (g 16)), (5, .int (nI n))]) hx hb dX2_guessBits_105 hl (by decide) rfl (fun ls hl => ?_)
                  refine lv_iinc (v := (nI (g0_ w + i)) + 1) (lv' := [(7, .int ((nI (g0_ w + i)) + 1)), (6, .int ((gb_ B k w f n (g0_ w) i) ||| (1 <<< ((nI (g0_ w + i)) &&& 31)))), (8, .ref (g 10)), (0, .ref (g 1)), (1, .int (nI k)), (2, .int w), (3, .int (nI la)), (4, .ref (g 16)), (5, .int (nI n))]) hx hb dX2_guessBits_107 hl (k := 2) rfl (by first | rfl | decide) (by decide) rfl (fun ls hl => ?_)
                  refine lv_goto (tgt := 15) hx hb dX2_guessBits_110 (by decide) ?_
                  exact ih_15 (i + 1) ((gb_ B k w f n (g0_ w) i) ||| (1 <<< ((nI (g0_ w + i)) &&& 31))) ((nI (g0_ w + i)) + 1) u_5 (by first | exact gb_y rfl c_95 | exact gb_n rfl c_95) (nI_1 _) (by omega) (by omega) _ _ hP hD hS ls (lv_sub hl [0, 1, 3, 4, 5, 6, 7, 8] rfl)
            refine lv_iload_n hx hb dX2_guessBits_27 rfl (lv_at hl 5 rfl) ?_
            by_cases c_28_0 : w = 0
            · refine lv_lookup (off := 28) (tgt := 56) hx hb dX2_guessBits_28 (by decide) (by rw [c_28_0]; rfl) (by decide) ?_
              refine lv_aload hx hb dX2_guessBits_56 (lv_at hl 0 rfl) ?_
              refine va_getN (ci := 0) (C := RX0) (T := TX0) (N := 11) hx hb hts hinX0 hown hK.1 hP 7 rfl rfl 0 (by decide) (va_Nw.use rfl (hK.2 _ (List.mem_of_getElem? (i := 3) rfl))) (fun _ h9 => h9) rfl dX2_guessBits_58 ?_
              refine lv_iload_n hx hb dX2_guessBits_61 rfl (lv_at hl 4 rfl) ?_
              refine lv_iload hx hb dX2_guessBits_62 (lv_at hl 1 rfl) ?_
              refine jast hx hb hK.1 hP hD hS 8 0 k rfl rfl rfl (by omega) (Nat.le_of_ble_eq_true rfl) dX2_guessBits_64 (fun f_7 ef_7 H locs hP hD hS => ?_)
              replace ef_7 : f_7 = upd (kd_ (B)) k (nI (g0_ w + i)) := ef_7
              replace hP : va_P D vwCl (miO g ++ bW cI g 4 B ++ bW cI g 10 (mkB f_7 (fg_ (B)) (pl_ (B)) (pw_ (B)) (jy_ (B)) (qt_ (B)) (sn_ (B)) (il_ (B)) (pa_ (B)) (ho_ (B)) (dy_ (B))) ++ [(g 16, .inl (cI, 12, .inl f))]) H := hP
              replace hD : va_D A (miO g ++ bW cI g 4 B ++ bW cI g 10 (mkB f_7 (fg_ (B)) (pl_ (B)) (pw_ (B)) (jy_ (B)) (qt_ (B)) (sn_ (B)) (il_ (B)) (pa_ (B)) (ho_ (B)) (dy_ (B))) ++ [(g 16, .inl (cI, 12, .inl f))]) := hD
              refine lv_goto (tgt := 87) hx hb dX2_guessBits_65 (by decide) ?_
              (try rw [ef_7] at hP); (try rw [ef_7] at hD); (try rw [ef_7] at hl); (try rw [ef_7] at c_18); (try rw [ef_7])
              exact jn_87   (mkB (upd (kd_ (B)) k (nI (g0_ w + i))) (fg_ (B)) (pl_ (B)) (pw_ (B)) (jy_ (B)) (qt_ (B)) (sn_ (B)) (il_ (B)) (pa_ (B)) (ho_ (B)) (dy_ (B))) (by unfold ug_; first | (rw [if_pos c_28_0]; done) | (rw [if_neg c_28_0, if_pos c_28_1]; done) | (rw [if_neg c_28_0, if_neg c_28_1]; rfl))   _ _ hP hD hS ls (lv_sub hl [0, 1, 2, 3, 4, 5, 6, 7, 8] rfl)
            by_cases c_28_1 : w = 1
            · refine lv_lookup (off := 40) (tgt := 68) hx hb dX2_guessBits_28 (by decide) (by rw [c_28_1]; rfl) (by decide) ?_
              refine lv_aload hx hb dX2_guessBits_68 (lv_at hl 0 rfl) ?_
              refine va_getN (ci := 0) (C := RX0) (T := TX0) (N := 11) hx hb hts hinX0 hown hK.1 hP 7 rfl rfl 1 (by decide) (va_Nw.use rfl (hK.2 _ (List.mem_of_getElem? (i := 5) rfl))) (fun _ h9 => h9) rfl dX2_guessBits_70 ?_
              refine lv_iload_n hx hb dX2_guessBits_73 rfl (lv_at hl 4 rfl) ?_
              refine lv_iload hx hb dX2_guessBits_74 (lv_at hl 1 rfl) ?_
              refine jast hx hb hK.1 hP hD hS 9 0 k rfl rfl rfl (by omega) (Nat.le_of_ble_eq_true rfl) dX2_guessBits_76 (fun f_8 ef_8 H locs hP hD hS => ?_)
              replace ef_8 : f_8 = upd (fg_ (B)) k (nI (g0_ w + i)) := ef_8
              replace hP : va_P D vwCl (miO g ++ bW cI g 4 B ++ bW cI g 10 (mkB (kd_ (B)) f_8 (pl_ (B)) (pw_ (B)) (jy_ (B)) (qt_ (B)) (sn_ (B)) (il_ (B)) (pa_ (B)) (ho_ (B)) (dy_ (B))) ++ [(g 16, .inl (cI, 12, .inl f))]) H := hP
              replace hD : va_D A (miO g ++ bW cI g 4 B ++ bW cI g 10 (mkB (kd_ (B)) f_8 (pl_ (B)) (pw_ (B)) (jy_ (B)) (qt_ (B)) (sn_ (B)) (il_ (B)) (pa_ (B)) (ho_ (B)) (dy_ (B))) ++ [(g 16, .inl (cI, 12, .inl f))]) := hD
              refine lv_goto (tgt := 87) hx hb dX2_guessBits_77 (by decide) ?_
              (try rw [ef_8] at hP); (try rw [ef_8] at hD); (try rw [ef_8] at hl); (try rw [ef_8] at c_18); (try rw [ef_8])
              exact jn_87   (mkB (kd_ (B)) (upd (fg_ (B)) k (nI (g0_ w + i))) (pl_ (B)) (pw_ (B)) (jy_ (B)) (qt_ (B)) (sn_ (B)) (il_ (B)) (pa_ (B)) (ho_ (B)) (dy_ (B))) (by unfold ug_; first | (rw [if_pos c_28_0]; done) | (rw [if_neg c_28_0, if_pos c_28_1]; done) | (rw [if_neg c_28_0, if_neg c_28_1]; rfl))   _ _ hP hD hS ls (lv_sub hl [0, 1, 2, 3, 4, 5, 6, 7, 8] rfl)
            refine lv_lookup (off := 52) (tgt := 80) hx hb dX2_guessBits_28 (by decide) (by rw [lv_osw c_28_0 (by decide)]; rw [lv_osw c_28_1 (by decide)]; rfl) (by decide) ?_
            refine lv_aload hx hb dX2_guessBits_80 (lv_at hl 0 rfl) ?_
            refine lv_iload hx hb dX2_guessBits_82 (lv_at hl 1 rfl) ?_
            refine va_putN (ci := 0) (ty := .int) (C := RX0) (T := TX0) (N := 11) hx hb hts hinX0 tyX0 tyX0_ok nmX0 hown hK.1 hP hD hS 7 rfl rfl 8 (by decide) (va_Nw.use rfl (hK.2 _ (List.mem_of_getElem? (i := 18) rfl))) (fun _ h9 => h9) rfl (by decide +kernel) (rfl) (rfl) (Nat.le_of_ble_eq_true rfl) dX2_guessBits_84 (fun H locs hP hD hS => ?_)
            replace hP : va_P D vwCl (miO g ++ bW cI g 4 B ++ bW cI g 10 (mkB (kd_ (B)) (fg_ (B)) (pl_ (B)) (pw_ (B)) (jy_ (B)) (qt_ (B)) (sn_ (B)) (il_ (B)) (nI (g0_ w + i)) (ho_ (B)) (dy_ (B))) ++ [(g 16, .inl (cI, 12, .inl f))]) H := hP
            replace hD : va_D A (miO g ++ bW cI g 4 B ++ bW cI g 10 (mkB (kd_ (B)) (fg_ (B)) (pl_ (B)) (pw_ (B)) (jy_ (B)) (qt_ (B)) (sn_ (B)) (il_ (B)) (nI (g0_ w + i)) (ho_ (B)) (dy_ (B))) ++ [(g 16, .inl (cI, 12, .inl f))]) := hD
            exact jn_87   (mkB (kd_ (B)) (fg_ (B)) (pl_ (B)) (pw_ (B)) (jy_ (B)) (qt_ (B)) (sn_ (B)) (il_ (B)) (nI (g0_ w + i)) (ho_ (B)) (dy_ (B))) (by unfold ug_; first | (rw [if_pos c_28_0]; done) | (rw [if_neg c_28_0, if_pos c_28_1]; done) | (rw [if_neg c_28_0, if_neg c_28_1]; rfl))   _ _ hP hD hS ls (lv_sub hl [0, 1, 2, 3, 4, 5, 6, 7, 8] rfl)
      exact lp_15 ((la + 1 - g0_ w) + 1) 0 0 (nI (g0_ w)) T (rfl) (rfl) (by omega) (by omega) _ _ hP hD hS ls (lv_sub hl [0, 1, 2, 3, 4, 5, 6, 7] rfl)
  refine lv_iload_n hx hb dX2_guessBits_3 rfl (lv_at hl 3 rfl) ?_
  refine lv_iconst (v := 2) hx hb dX2_guessBits_4 (by decide) ?_
  refine lv_icmp_ne (tgt := 12) hx hb dX2_guessBits_5 (by decide) (fun c_5 => ?_) (fun c_5 => ?_)
  · skip
    refine lv_iconst (v := 0) hx hb dX2_guessBits_12 (by decide) ?_
    exact jn_13   0 (by unfold g0_; first | (rw [if_pos c_5]; rfl) | (rw [if_neg c_5]; rfl))   _ _ hP hD hS ls (lv_sub hl [0, 1, 2, 3, 4, 5, 6] rfl)
  · skip
    refine lv_iconst (v := 1) hx hb dX2_guessBits_8 (by decide) ?_
    refine lv_goto (tgt := 13) hx hb dX2_guessBits_9 (by decide) ?_
    exact jn_13   1 (by unfold g0_; first | (rw [if_pos c_5]; rfl) | (rw [if_neg c_5]; rfl))   _ _ hP hD hS ls (lv_sub hl [0, 1, 2, 3, 4, 5, 6] rfl)

