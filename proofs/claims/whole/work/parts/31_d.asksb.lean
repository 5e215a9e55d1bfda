theorem okX5_newShore : jok yX5_newShore wsX5_newShore cX5_newShore 9 (some .int) 3 := ⟨⟨_, rfl⟩, by decide +kernel, by decide +kernel⟩
set_option maxHeartbeats 2000000 in
set_option maxRecDepth 100000 in
theorem qX5_newShore (l : Launch) (D : va_G) (cI cB : ClassId) (r : Nat → Nat) (B : BayT) (M : MT) (w : Int32) (v : Int32) (q : Int32) (hI : bI_ B) : jMi D cI cB l yX5_newShore wsX5_newShore 9 [.ref (r 0), .int w, .int v, .int q] (mW cI r B M) (S := MT) (fun r u => r = (if f2_ (uk_ w 5) (f2_ (uk_ q 1) (ob_ v 0 99)) = 0 then npX_ B w (tn_ v) q else f2_ (uk_ w 5) (f2_ (uk_ q 1) (ob_ v 0 99))) ∧ oQ_ M u (f2_ (uk_ w 5) (f2_ (uk_ q 1) (ob_ v 0 99)))) (fun u => mW cI r B u) := by
  refine jMi.of (cc := cX5_newShore) (maxL := 9) (ret := (some .int)) okX5_newShore (Nat.le_of_ble_eq_true rfl) ?_
  intro p e s m below meth c ls A hx hb hr hts hown hlk hml hP hK hD hA hS hl
  replace hown : s.vm.findClass RX5 = some m.cls := hown
  replace hl : lv_has ls 9 [(0, .ref (r 0)), (1, .int w), (2, .int v), (3, .int q)] := hl
  have hD0 := hD
  have hn7 := hI.1
  have hinX5 : ∀ w ∈ wsX50, w ∈ wsX5_newShore := by decide +kernel
  have jn_29 : ∀  (x4_29 : Int32) , (x4_29 = f2_ (uk_ w 5) (f2_ (uk_ q 1) (ob_ v 0 99))) → ∀ (H : Heap) (locs : List Loc), va_P D vwCl (mW cI r B M) H → va_D A (mW cI r B M) → va_S A s.heap H locs → ∀ ls : Array Slot, lv_has ls 9 [(4, .int x4_29), (0, .ref (r 0)), (1, .int w), (2, .int v), (3, .int q)] → W p l e (jR 9) s m ([.ref (r 0), .int w, .int v, .int q] : List Value).toArray below meth c H locs 0 0 (MQ below (va_Qi (S := MT) (fun r u => r = (if f2_ (uk_ w 5) (f2_ (uk_ q 1) (ob_ v 0 99)) = 0 then npX_ B w (tn_ v) q else f2_ (uk_ w 5) (f2_ (uk_ q 1) (ob_ v 0 99))) ∧ oQ_ M u (f2_ (uk_ w 5) (f2_ (uk_ q 1) (ob_ v 0 99)))) (fun u t => va_P D vwCl ((fun u => mW cI r B u) u) t.heap) A) ([.ref (r 0), .int w, .int v, .int q] : List Value).toArray s 0 0 A) (F0 m 29 ls []) := by
      intro x4_29 hx4_29 H locs hP hD hS ls hl
      subst x4_29
      replace hl : lv_has ls 9 [(4, .int (f2_ (uk_ w 5) (f2_ (uk_ q 1) (ob_ v 0 99)))), (0, .ref (r 0)), (1, .int w), (2, .int v), (3, .int q)] := hl
      replace hP : va_P D vwCl (mW cI r B M) H := hP
      refine lv_iload hx hb dX5_newShore_29 (lv_at hl 0 rfl) ?_
      refine lv_if_eq (tgt := 41) hx hb dX5_newShore_31 (by decide) (fun c_31 => ?_) (fun c_31 => ?_)
      · skip
        have w0 := c_31
        simp only [wS_, wSN_, wSNW_, wNW_, wTh_, wTr_, f2_0, nb_0, ob_0, uk_0, lo_0, hi_0] at w0
        obtain ⟨v_, hv_, rfl⟩ := pl_le (n := 99) (by decide) w0.2.2
        replace hl : lv_has ls 9 [(4, .int (f2_ (uk_ w 5) (f2_ (uk_ q 1) (ob_ (nI v_) 0 99)))), (0, .ref (r 0)), (1, .int w), (2, .int (nI v_)), (3, .int q)] := hl
        refine lv_aload_n hx hb dX5_newShore_41 rfl (lv_at hl 1 rfl) ?_
        refine va_get (ci := 5) (C := RX5) (T := TX5) (N := 33) hx hb hts hinX5 hown hK.1 hP 0 rfl rfl 6 (by decide) (hts _ (List.mem_of_getElem? (i := 1) rfl)) (fun _ h9 => h9) rfl dX5_newShore_42 ?_
        refine lv_bipush (v := 7) hx hb dX5_newShore_45 (by decide) ?_
        refine lv_icmp_ne (tgt := 53) hx hb dX5_newShore_47 (by decide) (fun c_47 => ?_) (fun c_47 => ?_)
        · replace c_47 : ¬ nI (sn_ B) = nI 7 := c_47
          rw [jeq (by omega) (by omega)] at c_47
          refine lv_bipush (v := (-9)) hx hb dX5_newShore_53 (by decide) ?_
          refine lv_istore (lv' := [(5, .int (-9)), (4, .int (f2_ (uk_ w 5) (f2_ (uk_ q 1) (ob_ (nI v_) 0 99)))), (0, .ref (r 0)), (1, .int w), (2, .int (nI v_)), (3, .int q)]) hx hb dX5_newShore_55 hl (by decide) rfl (fun ls hl => ?_)
          refine lv_bipush (v := (-9)) hx hb dX5_newShore_57 (by decide) ?_
          refine lv_istore (lv' := [(6, .int (-9)), (5, .int (-9)), (4, .int (f2_ (uk_ w 5) (f2_ (uk_ q 1) (ob_ (nI v_) 0 99)))), (0, .ref (r 0)), (1, .int w), (2, .int (nI v_)), (3, .int q)]) hx hb dX5_newShore_59 hl (by decide) rfl (fun ls hl => ?_)
          refine lv_iconst (v := 0) hx hb dX5_newShore_61 (by decide) ?_
          refine lv_istore (lv' := [(7, .int 0), (6, .int (-9)), (5, .int (-9)), (4, .int (f2_ (uk_ w 5) (f2_ (uk_ q 1) (ob_ (nI v_) 0 99)))), (0, .ref (r 0)), (1, .int w), (2, .int (nI v_)), (3, .int q)]) hx hb dX5_newShore_62 hl (by decide) rfl (fun ls hl => ?_)
          have lp_64 : ∀ (fu_64 : Nat) (i : Nat) (x5_64 : Int32) (x6_64 : Int32) (x7_64 : Int32) (M2 : MT), (x5_64 = oI_ (bs_ (n9_ B w v_) (-9) i).1) → (x6_64 = (bs_ (n9_ B w v_) (-9) i).2) → (x7_64 = nI i) → (i ≤ 31) → (oM_ M M2) → 31 - i < fu_64 → ∀ (H : Heap) (locs : List Loc), va_P D vwCl (mW cI r B M2) H → va_D A (mW cI r B M2) → va_S A s.heap H locs → ∀ ls : Array Slot, lv_has ls 9 [(7, .int x7_64), (6, .int x6_64), (5, .int x5_64), (4, .int (f2_ (uk_ w 5) (f2_ (uk_ q 1) (ob_ (nI v_) 0 99)))), (0, .ref (r 0)), (1, .int w), (2, .int (nI v_)), (3, .int q)] → W p l e (jR 9) s m ([.ref (r 0), .int w, .int (nI v_), .int q] : List Value).toArray below meth c H locs 0 0 (MQ below (va_Qi (S := MT) (fun r u => r = (if f2_ (uk_ w 5) (f2_ (uk_ q 1) (ob_ (nI v_) 0 99)) = 0 then npX_ B w (tn_ (nI v_)) q else f2_ (uk_ w 5) (f2_ (uk_ q 1) (ob_ (nI v_) 0 99))) ∧ oQ_ M u (f2_ (uk_ w 5) (f2_ (uk_ q 1) (ob_ (nI v_) 0 99)))) (fun u t => va_P D vwCl ((fun u => mW cI r B u) u) t.heap) A) ([.ref (r 0), .int w, .int (nI v_), .int q] : List Value).toArray s 0 0 A) (F0 m 64 ls []) := by
            intro fu_64
            induction fu_64 with
            | zero => intro i x5_64 x6_64 x7_64 M2 hx5_64 hx6_64 hx7_64 hi hM hfu; exact absurd hfu (Nat.not_lt_zero _)
            | succ fu_64 ih_64 =>
              intro i x5_64 x6_64 x7_64 M2 hx5_64 hx6_64 hx7_64 hi hM hfu_64 H locs hP hD hS ls hl
              subst x5_64
              subst x6_64
              subst x7_64
              replace hl : lv_has ls 9 [(7, .int (nI i)), (6, .int ((bs_ (n9_ B w v_) (-9) i).2)), (5, .int (oI_ (bs_ (n9_ B w v_) (-9) i).1)), (4, .int (f2_ (uk_ w 5) (f2_ (uk_ q 1) (ob_ (nI v_) 0 99)))), (0, .ref (r 0)), (1, .int w), (2, .int (nI v_)), (3, .int q)] := hl
              replace hP : va_P D vwCl (mW cI r B M2) H := hP
              refine lv_iload hx hb dX5_newShore_64 (lv_at hl 0 rfl) ?_
              refine lv_bipush (v := 30) hx hb dX5_newShore_66 (by decide) ?_
              refine lv_icmp_gt (tgt := 119) hx hb dX5_newShore_68 (by decide) (fun c_68 => ?_) (fun c_68 => ?_)
              · replace c_68 : nI 30 < nI i := c_68
                rw [jlt (by omega) (by omega)] at c_68
                refine lv_iload_n hx hb dX5_newShore_119 rfl (lv_at hl 7 rfl) ?_
                refine lv_if_ne (tgt := 128) hx hb dX5_newShore_120 (by decide) (fun c_120 => ?_) (fun c_120 => ?_)
                · skip
                  refine lv_iload hx hb dX5_newShore_128 (lv_at hl 1 rfl) ?_
                  refine rMi hx hb hr hlk hS M2 hP ?_ dX5_newShore_130
                  first | exact ⟨(if_neg c_31).symm, oQ_n _ _⟩ | exact ⟨by (rw [if_pos c_31]; simp only [tn_n (show v_ < 2147483648 by omega)]; first | (rw [npX_7 (by omega)]; done) | (rw [npX_eq (by omega) (by omega), show i = 31 by omega]; first | (rw [if_pos c_120]; done) | (rw [if_neg c_120]; done) | (rw [if_pos c_120]; rfl) | (rw [if_neg c_120]; rfl))), oQ_0 c_31 (by (first | exact (oN_mk (by assumption)).m | exact oM_.rf _ | exact (oN_pp _ _).m | exact (oN_fo _ _ _ _).m | assumption | (apply oN_.m; assumption) | exact oM_.tr (by assumption) (by assumption)))⟩
                · skip
                  refine lv_iload hx hb dX5_newShore_123 (lv_at hl 2 rfl) ?_
                  refine lv_goto (tgt := 130) hx hb dX5_newShore_125 (by decide) ?_
                  refine rMi hx hb hr hlk hS M2 hP ?_ dX5_newShore_130
                  first | exact ⟨(if_neg c_31).symm, oQ_n _ _⟩ | exact ⟨by (rw [if_pos c_31]; simp only [tn_n (show v_ < 2147483648 by omega)]; first | (rw [npX_7 (by omega)]; done) | (rw [npX_eq (by omega) (by omega), show i = 31 by omega]; first | (rw [if_pos c_120]; done) | (rw [if_neg c_120]; done) | (rw [if_pos c_120]; rfl) | (rw [if_neg c_120]; rfl))), oQ_0 c_31 (by (first | exact (oN_mk (by assumption)).m | exact oM_.rf _ | exact (oN_pp _ _).m | exact (oN_fo _ _ _ _).m | assumption | (apply oN_.m; assumption) | exact oM_.tr (by assumption) (by assumption)))⟩
              · replace c_68 : ¬ nI 30 < nI i := c_68
                rw [jlt (by omega) (by omega)] at c_68
                have jn_93 : ∀   (M3 : MT) (y9 : Int32), (y9 = n9_ B w v_ i) → (oM_ M M3) → ∀ (H : Heap) (locs : List Loc), va_P D vwCl (mW cI r B M3) H → va_D A (mW cI r B M3) → va_S A s.heap H locs → ∀ ls : Array Slot, lv_has ls 9 [(7, .int (nI i)), (6, .int ((bs_ (n9_ B w v_) (-9) i).2)), (5, .int (oI_ (bs_ (n9_ B w v_) (-9) i).1)), (4, .int (f2_ (uk_ w 5) (f2_ (uk_ q 1) (ob_ (nI v_) 0 99)))), (0, .ref (r 0)), (1, .int w), (2, .int (nI v_)), (3, .int q)] → W p l e (jR 9) s m ([.ref (r 0), .int w, .int (nI v_), .int q] : List Value).toArray below meth c H locs 0 0 (MQ below (va_Qi (S := MT) (fun r u => r = (if f2_ (uk_ w 5) (f2_ (uk_ q 1) (ob_ (nI v_) 0 99)) = 0 then npX_ B w (tn_ (nI v_)) q else f2_ (uk_ w 5) (f2_ (uk_ q 1) (ob_ (nI v_) 0 99))) ∧ oQ_ M u (f2_ (uk_ w 5) (f2_ (uk_ q 1) (ob_ (nI v_) 0 99)))) (fun u t => va_P D vwCl ((fun u => mW cI r B u) u) t.heap) A) ([.ref (r 0), .int w, .int (nI v_), .int q] : List Value).toArray s 0 0 A) (F0 m 93 ls [.int y9]) := by
                    intro M3 y9 hy9 hM3 H locs hP hD hS ls hl
                    subst y9
                    replace hl : lv_has ls 9 [(7, .int (nI i)), (6, .int ((bs_ (n9_ B w v_) (-9) i).2)), (5, .int (oI_ (bs_ (n9_ B w v_) (-9) i).1)), (4, .int (f2_ (uk_ w 5) (f2_ (uk_ q 1) (ob_ (nI v_) 0 99)))), (0, .ref (r 0)), (1, .int w), (2, .int (nI v_)), (3, .int q)] := hl
                    replace hP : va_P D vwCl (mW cI r B M3) H := hP
                    refine lv_istore (lv' := [(8, .int (n9_ B w v_ i)), (7, .int (nI i)), (6, .int ((bs_ (n9_ B w v_) (-9) i).2)), (5, .int (oI_ (bs_ (n9_ B w v_) (-9) i).1)), (4, .int (f2_ (uk_ w 5) (f2_ (uk_ q 1) (ob_ (nI v_) 0 99)))), (0, .ref (r 0)), (1, .int w), (2, .int (nI v_)), (3, .int q)]) hx hb dX5_newShore_93 hl (by decide) rfl (fun ls hl => ?_)
                    refine lv_iload hx hb dX5_newShore_95 (lv_at hl 0 rfl) ?_
                    refine lv_iload hx hb dX5_newShore_97 (lv_at hl 2 rfl) ?_
                    refine lv_icmp_gt (tgt := 105) hx hb dX5_newShore_99 (by decide) (fun c_99 => ?_) (fun c_99 => ?_)
                    · have d_99 := Int32.not_le.mpr c_99
                      refine lv_iload hx hb dX5_newShore_105 (lv_at hl 1 rfl) ?_
                      refine lv_istore (lv' := [(5, .int (nI i)), (8, .int (n9_ B w v_ i)), (7, .int (nI i)), (6, .int ((bs_ (n9_ B w v_) (-9) i).2)), (4, .int (f2_ (uk_ w 5) (f2_ (uk_ q 1) (ob_ (nI v_) 0 99)))), (0, .ref (r 0)), (1, .int w), (2, .int (nI v_)), (3, .int q)]) hx hb dX5_newShore_107 hl (by decide) rfl (fun ls hl => ?_)
                      refine lv_iload hx hb dX5_newShore_109 (lv_at hl 1 rfl) ?_
                      refine lv_istore (lv' := [(6, .int (n9_ B w v_ i)), (5, .int (nI i)), (8, .int (n9_ B w v_ i)), (7, .int (nI i)), (4, .int (f2_ (uk_ w 5) (f2_ (uk_ q 1) (ob_ (nI v_) 0 99)))), (0, .ref (r 0)), (1, .int w), (2, .int (nI v_)), (3, .int q)]) hx hb dX5_newShore_111 hl (by decide) rfl (fun ls hl => ?_)
                      refine lv_iinc (v := (nI i) + 1) (lv' := [(7, .int ((nI i) + 1)), (6, .int (n9_ B w v_ i)), (5, .int (nI i)), (8, .int (n9_ B w v_ i)), (4, .int (f2_ (uk_ w 5) (f2_ (uk_ q 1) (ob_ (nI v_) 0 99)))), (0, .ref (r 0)), (1, .int w), (2, .int (nI v_)), (3, .int q)]) hx hb dX5_newShore_113 hl (k := 3) rfl (by first | rfl | decide) (by decide) rfl (fun ls hl => ?_)
                      refine lv_goto (tgt := 64) hx hb dX5_newShore_116 (by decide) ?_
                      exact ih_64 (i + 1) (nI i) (n9_ B w v_ i) ((nI i) + 1) M3 (by first | exact bs_o1 (f := (n9_ B w v_)) rfl d_99 | exact bs_o2 (f := (n9_ B w v_)) rfl d_99) (by first | exact bs_m1 (f := (n9_ B w v_)) rfl d_99 | exact bs_m2 (f := (n9_ B w v_)) rfl d_99) (by first | rfl | exact nI_1 _) (by omega) (hM3) (by omega) _ _ hP (va_D.adr hD0 (mW_adE rfl)) hS ls (lv_sub hl [0, 1, 2, 4, 5, 6, 7, 8] rfl)
                    · have d_99 := Int32.not_lt.mp c_99
                      refine lv_goto (tgt := 113) hx hb dX5_newShore_102 (by decide) ?_
                      refine lv_iinc (v := (nI i) + 1) (lv' := [(7, .int ((nI i) + 1)), (8, .int (n9_ B w v_ i)), (6, .int ((bs_ (n9_ B w v_) (-9) i).2)), (5, .int (oI_ (bs_ (n9_ B w v_) (-9) i).1)), (4, .int (f2_ (uk_ w 5) (f2_ (uk_ q 1) (ob_ (nI v_) 0 99)))), (0, .ref (r 0)), (1, .int w), (2, .int (nI v_)), (3, .int q)]) hx hb dX5_newShore_113 hl (k := 1) rfl (by first | rfl | decide) (by decide) rfl (fun ls hl => ?_)
                      refine lv_goto (tgt := 64) hx hb dX5_newShore_116 (by decide) ?_
                      exact ih_64 (i + 1) (oI_ (bs_ (n9_ B w v_) (-9) i).1) ((bs_ (n9_ B w v_) (-9) i).2) ((nI i) + 1) M3 (by first | exact bs_o1 (f := (n9_ B w v_)) rfl d_99 | exact bs_o2 (f := (n9_ B w v_)) rfl d_99) (by first | exact bs_m1 (f := (n9_ B w v_)) rfl d_99 | exact bs_m2 (f := (n9_ B w v_)) rfl d_99) (by first | rfl | exact nI_1 _) (by omega) (hM3) (by omega) _ _ hP (va_D.adr hD0 (mW_adE rfl)) hS ls (lv_sub hl [0, 2, 3, 4, 5, 6, 7, 8] rfl)
                refine lv_aload_n hx hb dX5_newShore_71 rfl (lv_at hl 4 rfl) ?_
                refine lv_iload hx hb dX5_newShore_72 (lv_at hl 0 rfl) ?_
                refine kSiV hx hb hml hown hts hK hP gX5_newShore_X5_shoreAt okX5_shoreAt (qX5_shoreAt l D cI cB r B M2 (nI i) (by show sn_ B ≤ 7; omega)) [0, 1, 2, 3, 4, 5, 6, 7, 8, 9, 10, 11, 12, 13, 14, 15] rfl rfl rfl rfl (by decide) hl.1 rfl rfl (Nat.le_of_ble_eq_true rfl) dX5_newShore_74 (by decide) (fun r_1 hr_2 => ?_)
                replace hr_2 : r_1 = oI_ (sa_ B (nI i)) := hr_2
                subst r_1
                refine lv_if_lt (tgt := 85) hx hb dX5_newShore_77 (by decide) (fun c_77 => ?_) (fun c_77 => ?_)
                · rw [oI_lt0 (sa_b hn7)] at c_77
                  refine lv_aload_n hx hb dX5_newShore_85 rfl (lv_at hl 4 rfl) ?_
                  refine lv_iload_n hx hb dX5_newShore_86 rfl (lv_at hl 5 rfl) ?_
                  refine lv_iload hx hb dX5_newShore_87 (lv_at hl 0 rfl) ?_
                  refine lv_iload_n hx hb dX5_newShore_89 rfl (lv_at hl 6 rfl) ?_
                  refine kMiV hx hb hml hown hts hK hP (va_D.adr hD0 (mW_adE rfl)) hA hS gX5_newShore_X5_oftenAt okX5_oftenAt (qX5_oftenAt l D cI cB r B M2 w (nI i) v_ hI (by omega) w0.1 ⟨Int32.not_lt.mp (nI_pos (by omega)), (jle (b := 30) (by omega) (by decide)).mpr (by omega)⟩ (by assumption) (by omega)) [0, 1, 2, 3, 4, 5, 6, 7, 8, 9, 10, 11, 12, 13, 14, 15] rfl (by decide) (fun _ => mW_adr _ _ _ _ _ _) rfl rfl rfl (by decide) hl.1 rfl rfl (Nat.le_of_ble_eq_true rfl) dX5_newShore_90 (by decide) (fun r_3 u_4 H locs hw_5 hP hD hS => ?_)
                  replace hw_5 : r_3 = tc_ (ad_ B w 5 (nI i)) (sn_ B) v_ ∧ oM_ M2 u_4 := hw_5
                  obtain ⟨hw_5a, hw_5b⟩ := hw_5
                  subst r_3
                  replace hP : va_P D vwCl (mW cI r B u_4) H := (va_P.m [true, true, true, true, true, true, true, true, true, true, true, true, true, true, true, true] [] hP)
                  exact jn_93   u_4 (tc_ (ad_ B w 5 (nI i)) (sn_ B) v_) (by unfold n9_; first | exact (if_pos (by assumption)).symm | exact (if_neg (by assumption)).symm) (by first | assumption | exact oM_.tr hM (by assumption))  _ _ hP (va_D.adr hD0 (mW_adE rfl)) hS ls (lv_sub hl [0, 1, 2, 3, 4, 5, 6, 7] rfl)
                · rw [oI_lt0 (sa_b hn7)] at c_77
                  refine lv_bipush (v := (-9)) hx hb dX5_newShore_80 (by decide) ?_
                  refine lv_goto (tgt := 93) hx hb dX5_newShore_82 (by decide) ?_
                  exact jn_93   M2 (-9) (by unfold n9_; first | exact (if_pos (by assumption)).symm | exact (if_neg (by assumption)).symm) (by first | assumption | exact oM_.tr hM (by assumption))  _ _ hP (va_D.adr hD0 (mW_adE rfl)) hS ls (lv_sub hl [0, 1, 2, 3, 4, 5, 6, 7] rfl)
          exact lp_64 (31 + 1) 0 (-9) (-9) 0 M (rfl) (rfl) (by first | rfl | exact nI_0.symm) (by omega) (oM_.rf _) (by omega) _ _ hP (va_D.adr hD0 (mW_adE rfl)) hS ls (lv_sub hl [0, 1, 2, 3, 4, 5, 6, 7] rfl)
        · replace c_47 : nI (sn_ B) = nI 7 := c_47
          rw [jeq (by omega) (by omega)] at c_47
          refine lv_bipush (v := (-9)) hx hb dX5_newShore_50 (by decide) ?_
          refine rMi hx hb hr hlk hS M hP ?_ dX5_newShore_52
          first | exact ⟨(if_neg c_31).symm, oQ_n _ _⟩ | exact ⟨by (rw [if_pos c_31]; simp only [tn_n (show v_ < 2147483648 by omega)]; first | (rw [npX_7 (by omega)]; done) | (rw [npX_eq (by omega) (by omega), show i = 31 by omega]; first | (rw [if_pos c_120]; done) | (rw [if_neg c_120]; done) | (rw [if_pos c_120]; rfl) | (rw [if_neg c_120]; rfl))), oQ_0 c_31 (by (first | exact (oN_mk (by assumption)).m | exact oM_.rf _ | exact (oN_pp _ _).m | exact (oN_fo _ _ _ _).m | assumption | (apply oN_.m; assumption) | exact oM_.tr (by assumption) (by assumption)))⟩
      · skip
        refine lv_aload_n hx hb dX5_newShore_34 rfl (lv_at hl 1 rfl) ?_
        refine lv_iload hx hb dX5_newShore_35 (lv_at hl 0 rfl) ?_
        refine kMiV hx hb hml hown hts hK hP (va_D.adr hD0 (mW_adE rfl)) hA hS gX5_newShore_X5_no okX5_no (qX5_no l D cI cB r B M (f2_ (uk_ w 5) (f2_ (uk_ q 1) (ob_ v 0 99))) (rc0_n (by first | exact rc0_wS _ _ | exact rc0_wSN _ _ _ | exact rc0_wSNW _ _ _ _ | exact rc0_wNW _ _ | exact rc0_wTh _ _ _ _ _ | exact rc0_wTr _ _ _ _ | exact rc0_nb _ _ | exact rc0_uk _ _ | exact rc0_ob _ _ _ | exact rc0_f2 (rc0_nb _ _) (rc0_nb _ _) | exact rc0_f2 (rc0_nb _ _) (rc0_uk _ _) | exact rc0_f2 (rc0_ob _ _ _) (rc0_uk _ _) | exact rc0_f2 (rc0_uk _ _) (rc0_f2 (rc0_uk _ _) (rc0_ob _ _ _))) c_31)) [0, 1, 2, 3, 4, 5, 6, 7, 8, 9, 10, 11, 12, 13, 14, 15] rfl (by decide) (fun _ => mW_adr _ _ _ _ _ _) rfl rfl rfl (by decide) hl.1 rfl rfl (Nat.le_of_ble_eq_true rfl) dX5_newShore_37 (by decide) (fun r_6 u_7 H locs hw_8 hP hD hS => ?_)
        replace hw_8 : r_6 = f2_ (uk_ w 5) (f2_ (uk_ q 1) (ob_ v 0 99)) ∧ u_7 = (rfm_ M (f2_ (uk_ w 5) (f2_ (uk_ q 1) (ob_ v 0 99)))) := hw_8
        obtain ⟨hw_8a, hw_8b⟩ := hw_8
        subst r_6
        subst u_7
        replace hP : va_P D vwCl ([(r 0, .inr (5, [.ref (r 1), .ref (r 2), .ref (r 3), .ref (r 4), .ref (r 5), .ref (r 6), .int (nI (sn_ B)), .int (qt_ B), .int (il_ B), .int (pa_ B), .int (ho_ B), .int (dy_ B), .ref (r 13), .ref (r 14), .ref (r 15), .ref (r 16), .int (nI (mtn_ M)), .int (nI (mrd_ M)), .int (nI (msm_ M)), .ref (r 20), .int (mhi_ M), .int (mik_ M), .int (nI (mcu_ M)), .int (nI (mbk_ M)), .ref (r 25), .ref (r 26), .int (mlw_ M), .int (mhg_ M), .int (msl_ M), .ref (r 30), .int (nI (mrm_ M)), .ref (r 32), .int (mlo_ M)])), (r 1, .inl (cI, 7, .inl (rfx_ (mrf_ M) (f2_ (uk_ w 5) (f2_ (uk_ q 1) (ob_ v 0 99)))))), (r 2, .inl (cI, 7, .inl (kd_ B))), (r 3, .inl (cI, 7, .inl (fg_ B))), (r 4, .inl (cI, 7, .inl (pl_ B))), (r 5, .inl (cI, 7, .inl (pw_ B))), (r 6, .inl (cI, 7, .inl (jy_ B))), (r 13, .inl (cI, 96, .inl (mtp_ M))), (r 14, .inl (cI, 48, .inl (mlt_ M))), (r 15, .inl (cI, 48, .inl (mla_ M))), (r 16, .inl (cI, 144, .inl (mtd_ M))), (r 20, .inl (cI, 451, .inl (flatK (mkp_ M)))), (r 25, .inl (cI, 7, .inl (mof_ M))), (r 26, .inl (cI, 7, .inl (mfa_ M))), (r 30, .inl (cI, 12, .inl (mrw_ M))), (r 32, .inl (cI, 8, .inl (mhb_ M)))]) H := (va_P.m [true, true, true, true, true, true, true, true, true, true, true, true, true, true, true, true] [] hP)
        refine rMi hx hb hr hlk hS (rfm_ M (f2_ (uk_ w 5) (f2_ (uk_ q 1) (ob_ v 0 99)))) hP ?_ dX5_newShore_40
        first | exact ⟨(if_neg c_31).symm, oQ_n _ _⟩ | exact ⟨by (rw [if_pos c_31]; simp only [tn_n (show v_ < 2147483648 by omega)]; first | (rw [npX_7 (by omega)]; done) | (rw [npX_eq (by omega) (by omega), show i = 31 by omega]; first | (rw [if_pos c_120]; done) | (rw [if_neg c_120]; done) | (rw [if_pos c_120]; rfl) | (rw [if_neg c_120]; rfl))), oQ_0 c_31 (by (first | exact (oN_mk (by assumption)).m | exact oM_.rf _ | exact (oN_pp _ _).m | exact (oN_fo _ _ _ _).m | assumption | (apply oN_.m; assumption) | exact oM_.tr (by assumption) (by assumption)))⟩
  refine lv_iload_n hx hb dX5_newShore_0 rfl (lv_at hl 1 rfl) ?_
  refine lv_iconst (v := 0) hx hb dX5_newShore_1 (by decide) ?_
  refine lv_iconst (v := 5) hx hb dX5_newShore_2 (by decide) ?_
  refine kSiS hx hb hml hown hts hK hP gX5_newShore_X5_isIn okX5_isIn (qX5_isIn l D cI cB w 0 5 ) [] rfl (by decide) hl.1 rfl rfl (Nat.le_of_ble_eq_true rfl) dX5_newShore_3 (by decide) (fun r_9 hr_10 => ?_)
  replace hr_10 : r_9 = b1 (0 ≤ w ∧ w ≤ 5) := hr_10
  subst r_9
  refine lv_if_eq (tgt := 18) hx hb dX5_newShore_6 (by decide) (fun c_6 => ?_) (fun c_6 => ?_)
  · replace c_6 := b1_z c_6
    refine lv_bipush (v := (-2)) hx hb dX5_newShore_18 (by decide) ?_
    refine lv_goto (tgt := 27) hx hb dX5_newShore_20 (by decide) ?_
    refine lv_istore (lv' := [(4, .int (-2)), (0, .ref (r 0)), (1, .int w), (2, .int v), (3, .int q)]) hx hb dX5_newShore_27 hl (by decide) rfl (fun ls hl => ?_)
    exact jn_29  (-2)  (by first | exact ((f2_a (by rw [uk_o c_6]; decide)).trans (uk_o c_6)).symm | exact ((f2_b (uk_i c_6)).trans ((f2_a (by rw [uk_o c_15]; decide)).trans (uk_o c_15))).symm | exact ((f2_b (uk_i c_6)).trans (f2_b (uk_i c_15))).symm)   _ _ hP (va_D.adr hD0 (mW_adE rfl)) hS ls (lv_sub hl [0, 1, 2, 3, 4] rfl)
  · replace c_6 := b1_n c_6
    refine lv_iload_n hx hb dX5_newShore_9 rfl (lv_at hl 3 rfl) ?_
    refine lv_iconst (v := 0) hx hb dX5_newShore_10 (by decide) ?_
    refine lv_iconst (v := 1) hx hb dX5_newShore_11 (by decide) ?_
    refine kSiS hx hb hml hown hts hK hP gX5_newShore_X5_isIn okX5_isIn (qX5_isIn l D cI cB q 0 1 ) [] rfl (by decide) hl.1 rfl rfl (Nat.le_of_ble_eq_true rfl) dX5_newShore_12 (by decide) (fun r_11 hr_12 => ?_)
    replace hr_12 : r_11 = b1 (0 ≤ q ∧ q ≤ 1) := hr_12
    subst r_11
    refine lv_if_ne (tgt := 23) hx hb dX5_newShore_15 (by decide) (fun c_15 => ?_) (fun c_15 => ?_)
    · replace c_15 := b1_n c_15
      refine lv_iload_n hx hb dX5_newShore_23 rfl (lv_at hl 2 rfl) ?_
      refine kSiS hx hb hml hown hts hK hP gX5_newShore_X5_notHours okX5_notHours (qX5_notHours l D cI cB v ) [] rfl (by decide) hl.1 rfl rfl (Nat.le_of_ble_eq_true rfl) dX5_newShore_24 (by decide) (fun r_13 hr_14 => ?_)
      replace hr_14 : r_13 = ob_ v 0 99 := hr_14
      subst r_13
      refine lv_istore (lv' := [(4, .int (ob_ v 0 99)), (0, .ref (r 0)), (1, .int w), (2, .int v), (3, .int q)]) hx hb dX5_newShore_27 hl (by decide) rfl (fun ls hl => ?_)
      exact jn_29  (ob_ v 0 99)  (by first | exact ((f2_a (by rw [uk_o c_6]; decide)).trans (uk_o c_6)).symm | exact ((f2_b (uk_i c_6)).trans ((f2_a (by rw [uk_o c_15]; decide)).trans (uk_o c_15))).symm | exact ((f2_b (uk_i c_6)).trans (f2_b (uk_i c_15))).symm)   _ _ hP (va_D.adr hD0 (mW_adE rfl)) hS ls (lv_sub hl [0, 1, 2, 3, 4] rfl)
    · replace c_15 := b1_z c_15
      refine lv_bipush (v := (-2)) hx hb dX5_newShore_18 (by decide) ?_
      refine lv_goto (tgt := 27) hx hb dX5_newShore_20 (by decide) ?_
      refine lv_istore (lv' := [(4, .int (-2)), (0, .ref (r 0)), (1, .int w), (2, .int v), (3, .int q)]) hx hb dX5_newShore_27 hl (by decide) rfl (fun ls hl => ?_)
      exact jn_29  (-2)  (by first | exact ((f2_a (by rw [uk_o c_6]; decide)).trans (uk_o c_6)).symm | exact ((f2_b (uk_i c_6)).trans ((f2_a (by rw [uk_o c_15]; decide)).trans (uk_o c_15))).symm | exact ((f2_b (uk_i c_6)).trans (f2_b (uk_i c_15))).symm)   _ _ hP (va_D.adr hD0 (mW_adE rfl)) hS ls (lv_sub hl [0, 1, 2, 3, 4] rfl)

theorem okX5_whoFirst : jok yX5_whoFirst wsX5_whoFirst cX5_whoFirst 5 (some .int) 1 := ⟨⟨_, rfl⟩, by decide +kernel, by decide +kernel⟩
set_option maxHeartbeats 2000000 in
set_option maxRecDepth 100000 in
theorem qX5_whoFirst (l : Launch) (D : va_G) (cI cB : ClassId) (r : Nat → Nat) (B : BayT) (M : MT) (q : Int32) (hI : bI_ B) : jMi D cI cB l yX5_whoFirst wsX5_whoFirst 7 [.ref (r 0), .int q] (mW cI r B M) (S := MT) (fun r u => r = (if uk_ q 2 = 0 then wfX_ B q else uk_ q 2) ∧ oQ_ M u (uk_ q 2)) (fun u => mW cI r B u) := by
  refine jMi.of (cc := cX5_whoFirst) (maxL := 5) (ret := (some .int)) okX5_whoFirst (Nat.le_of_ble_eq_true rfl) ?_
  intro p e s m below meth c ls A hx hb hr hts hown hlk hml hP hK hD hA hS hl
  replace hown : s.vm.findClass RX5 = some m.cls := hown
  replace hl : lv_has ls 5 [(0, .ref (r 0)), (1, .int q)] := hl
  have hD0 := hD
  have hn7 := hI.1
  have hinX5 : ∀ w ∈ wsX50, w ∈ wsX5_whoFirst := by decide +kernel
  refine lv_iload_n hx hb dX5_whoFirst_0 rfl (lv_at hl 1 rfl) ?_
  refine lv_iconst (v := 0) hx hb dX5_whoFirst_1 (by decide) ?_
  refine lv_iconst (v := 2) hx hb dX5_whoFirst_2 (by decide) ?_
  refine kSiS hx hb hml hown hts hK hP gX5_whoFirst_X5_isIn okX5_isIn (qX5_isIn l D cI cB q 0 2 ) [] rfl (by decide) hl.1 rfl rfl (Nat.le_of_ble_eq_true rfl) dX5_whoFirst_3 (by decide) (fun r_1 hr_2 => ?_)
  replace hr_2 : r_1 = b1 (0 ≤ q ∧ q ≤ 2) := hr_2
  subst r_1
  refine lv_if_ne (tgt := 16) hx hb dX5_whoFirst_6 (by decide) (fun c_6 => ?_) (fun c_6 => ?_)
  · replace c_6 := b1_n c_6
    refine lv_aload_n hx hb dX5_whoFirst_16 rfl (lv_at hl 0 rfl) ?_
    refine lv_iconst (v := 0) hx hb dX5_whoFirst_17 (by decide) ?_
    refine lv_bipush (v := 99) hx hb dX5_whoFirst_18 (by decide) ?_
    refine kMvV hx hb hml hown hts hK hP (va_D.adr hD0 (mW_adE rfl)) hA hS gX5_whoFirst_X5_findOften okX5_findOften (qX5_findOften l D cI cB r B M 0 99 hI (by decide) (by decide)) [0, 1, 2, 3, 4, 5, 6, 7, 8, 9, 10, 11, 12, 13, 14, 15] rfl (by decide) (fun _ => mW_adr _ _ _ _ _ _) rfl rfl rfl (by decide) hl.1 rfl rfl (Nat.le_of_ble_eq_true rfl) dX5_whoFirst_20 (by decide) (fun u_4 H locs hw_5 hP hD hS => ?_)
    replace hw_5 : u_4 = pu_ (fom_ M B 0 100) 2 := hw_5
    obtain ⟨N9, hN9⟩ : ∃ N : Nat, N = 100 := ⟨_, rfl⟩
    rw [← hN9] at hw_5
    have hNu_4 : oN_ M u_4 := by rw [hw_5]; exact oN_fo _ _ _ _
    have eMOF : mof_ u_4 = ofn_ B 0 N9 := fo_mof hw_5
    have eMFA : mfa_ u_4 = fan_ B N9 := fo_mfa hw_5
    have eMLW : mlw_ u_4 = lwn_ B N9 := fo_mlw hw_5
    have eMHG : mhg_ u_4 = hgn_ B N9 := fo_mhg hw_5
    have eMSL : msl_ u_4 = sln_ B N9 := fo_msl hw_5
    have eMHB : mhb_ u_4 = mhb_ M := fo_mhb hw_5
    replace hP : va_P D vwCl (mW cI r B u_4) H := (va_P.m [true, true, true, true, true, true, true, true, true, true, true, true, true, true, true, true] [] hP)
    refine lv_bipush (v := (-9)) hx hb dX5_whoFirst_23 (by decide) ?_
    refine lv_istore_n (lv' := [(2, .int (-9)), (0, .ref (r 0)), (1, .int q)]) hx hb dX5_whoFirst_25 rfl hl (by decide) rfl (fun ls hl => ?_)
    refine lv_iconst (v := 0) hx hb dX5_whoFirst_26 (by decide) ?_
    refine lv_istore_n (lv' := [(3, .int 0), (2, .int (-9)), (0, .ref (r 0)), (1, .int q)]) hx hb dX5_whoFirst_27 rfl hl (by decide) rfl (fun ls hl => ?_)
    refine lv_iconst (v := 0) hx hb dX5_whoFirst_28 (by decide) ?_
    refine lv_istore (lv' := [(4, .int 0), (3, .int 0), (2, .int (-9)), (0, .ref (r 0)), (1, .int q)]) hx hb dX5_whoFirst_29 hl (by decide) rfl (fun ls hl => ?_)
    have lp_31 : ∀ (fu_31 : Nat) (i : Nat) (x2_31 : Int32) (x3_31 : Int32) (x4_31 : Int32) , (x2_31 = oI_ (wf_ (fan_ B N9) i)) → (x3_31 = nv_ (fan_ B N9) i) → (x4_31 = nI i) → (i ≤ sn_ B) → sn_ B - i < fu_31 → ∀ (H : Heap) (locs : List Loc), va_P D vwCl (mW cI r B u_4) H → va_D A (mW cI r B u_4) → va_S A s.heap H locs → ∀ ls : Array Slot, lv_has ls 5 [(4, .int x4_31), (3, .int x3_31), (2, .int x2_31), (0, .ref (r 0)), (1, .int q)] → W p l e (jR 7) s m ([.ref (r 0), .int q] : List Value).toArray below meth c H locs 0 0 (MQ below (va_Qi (S := MT) (fun r u => r = (if uk_ q 2 = 0 then wfX_ B q else uk_ q 2) ∧ oQ_ M u (uk_ q 2)) (fun u t => va_P D vwCl ((fun u => mW cI r B u) u) t.heap) A) ([.ref (r 0), .int q] : List Value).toArray s 0 0 A) (F0 m 31 ls []) := by
      intro fu_31
      induction fu_31 with
      | zero => intro i x2_31 x3_31 x4_31 hx2_31 hx3_31 hx4_31 hi hfu; exact absurd hfu (Nat.not_lt_zero _)
      | succ fu_31 ih_31 =>
        intro i x2_31 x3_31 x4_31 hx2_31 hx3_31 hx4_31 hi hfu_31 H locs hP hD hS ls hl
        subst x2_31
        subst x3_31
        subst x4_31
        replace hl : lv_has ls 5 [(4, .int (nI i)), (3, .int (nv_ (fan_ B N9) i)), (2, .int (oI_ (wf_ (fan_ B N9) i))), (0, .ref (r 0)), (1, .int q)] := hl
        replace hP : va_P D vwCl (mW cI r B u_4) H := hP
        rcases hL : wf_ (fan_ B N9) i with _ | t
        · rw [hL] at hl
          replace hl : lv_has ls 5 [(4, .int (nI i)), (3, .int (nv_ (fan_ B N9) i)), (2, .int (-9)), (0, .ref (r 0)), (1, .int q)] := hl
          refine lv_iload hx hb dX5_whoFirst_31 (lv_at hl 0 rfl) ?_
          refine lv_aload_n hx hb dX5_whoFirst_33 rfl (lv_at hl 3 rfl) ?_
          refine va_get (ci := 5) (C := RX5) (T := TX5) (N := 33) hx hb hts hinX5 hown hK.1 hP 0 rfl rfl 6 (by decide) (hts _ (List.mem_of_getElem? (i := 1) rfl)) (fun _ h9 => h9) rfl dX5_whoFirst_34 ?_
          refine lv_icmp_ge (tgt := 100) hx hb dX5_whoFirst_37 (by decide) (fun c_37 => ?_) (fun c_37 => ?_)
          · replace c_37 : nI (sn_ B) ≤ nI i := c_37
            rw [jle (by omega) (by omega)] at c_37
            refine lv_iload_n hx hb dX5_whoFirst_100 rfl (lv_at hl 4 rfl) ?_
            refine lv_if_ne (tgt := 108) hx hb dX5_whoFirst_101 (by decide) (fun c_101 => ?_) (fun c_101 => ?_)
            · skip
              refine lv_iload_n hx hb dX5_whoFirst_108 rfl (lv_at hl 4 rfl) ?_
              refine lv_iconst (v := 1) hx hb dX5_whoFirst_109 (by decide) ?_
              refine lv_icmp_ne (tgt := 117) hx hb dX5_whoFirst_110 (by decide) (fun c_110 => ?_) (fun c_110 => ?_)
              · skip
                refine lv_aload_n hx hb dX5_whoFirst_117 rfl (lv_at hl 3 rfl) ?_
                refine va_get (ci := 5) (C := RX5) (T := TX5) (N := 33) hx hb hts hinX5 hown hK.1 hP 0 rfl rfl 28 (by decide) (hts _ (List.mem_of_getElem? (i := 3) rfl)) (fun _ h9 => h9) rfl dX5_whoFirst_118 ?_
                refine rMi hx hb hr hlk hS u_4 hP ?_ dX5_whoFirst_121
                first | (have hW : uk_ q 2 = -2 := uk_o c_6; rw [hW]; exact ⟨(if_neg (by decide)).symm, oQ_n _ _⟩) | (have hW : uk_ q 2 = 0 := uk_i c_6; have e9 : i = sn_ B := (by omega); rw [e9] at hL; rw [hW]; refine ⟨?_, oQ_0 rfl (oN_mk (by assumption)).m⟩; subst hN9; rw [if_pos rfl]; unfold wfX_; first | (rw [if_pos c_101, ← wf_fo hI, hL]; rfl) | (rw [if_neg c_101, if_pos c_110, e9]; exact nv_eq hI) | (rw [if_neg c_101, if_neg c_110]; exact eMSL.trans (sln_eq B)))
              · skip
                refine lv_iload_n hx hb dX5_whoFirst_113 rfl (lv_at hl 1 rfl) ?_
                refine lv_goto (tgt := 121) hx hb dX5_whoFirst_114 (by decide) ?_
                refine rMi hx hb hr hlk hS u_4 hP ?_ dX5_whoFirst_121
                first | (have hW : uk_ q 2 = -2 := uk_o c_6; rw [hW]; exact ⟨(if_neg (by decide)).symm, oQ_n _ _⟩) | (have hW : uk_ q 2 = 0 := uk_i c_6; have e9 : i = sn_ B := (by omega); rw [e9] at hL; rw [hW]; refine ⟨?_, oQ_0 rfl (oN_mk (by assumption)).m⟩; subst hN9; rw [if_pos rfl]; unfold wfX_; first | (rw [if_pos c_101, ← wf_fo hI, hL]; rfl) | (rw [if_neg c_101, if_pos c_110, e9]; exact nv_eq hI) | (rw [if_neg c_101, if_neg c_110]; exact eMSL.trans (sln_eq B)))
            · skip
              refine lv_iload_n hx hb dX5_whoFirst_104 rfl (lv_at hl 2 rfl) ?_
              refine lv_goto (tgt := 121) hx hb dX5_whoFirst_105 (by decide) ?_
              refine rMi hx hb hr hlk hS u_4 hP ?_ dX5_whoFirst_121
              first | (have hW : uk_ q 2 = -2 := uk_o c_6; rw [hW]; exact ⟨(if_neg (by decide)).symm, oQ_n _ _⟩) | (have hW : uk_ q 2 = 0 := uk_i c_6; have e9 : i = sn_ B := (by omega); rw [e9] at hL; rw [hW]; refine ⟨?_, oQ_0 rfl (oN_mk (by assumption)).m⟩; subst hN9; rw [if_pos rfl]; unfold wfX_; first | (rw [if_pos c_101, ← wf_fo hI, hL]; rfl) | (rw [if_neg c_101, if_pos c_110, e9]; exact nv_eq hI) | (rw [if_neg c_101, if_neg c_110]; exact eMSL.trans (sln_eq B)))
          · replace c_37 : ¬ nI (sn_ B) ≤ nI i := c_37
            rw [jle (by omega) (by omega)] at c_37
            have jn_59 : ∀   (y9 : Int32), (y9 = (if (fan_ B N9) i < 0 then (1 : Int32) <<< (nI i &&& 31) else 0)) → ∀ (H : Heap) (locs : List Loc), va_P D vwCl (mW cI r B u_4) H → va_D A (mW cI r B u_4) → va_S A s.heap H locs → ∀ ls : Array Slot, lv_has ls 5 [(4, .int (nI i)), (3, .int (nv_ (fan_ B N9) i)), (2, .int (-9)), (0, .ref (r 0)), (1, .int q)] → W p l e (jR 7) s m ([.ref (r 0), .int q] : List Value).toArray below meth c H locs 0 0 (MQ below (va_Qi (S := MT) (fun r u => r = (if uk_ q 2 = 0 then wfX_ B q else uk_ q 2) ∧ oQ_ M u (uk_ q 2)) (fun u t => va_P D vwCl ((fun u => mW cI r B u) u) t.heap) A) ([.ref (r 0), .int q] : List Value).toArray s 0 0 A) (F0 m 59 ls [.int y9, .int (nv_ (fan_ B N9) i)]) := by
                intro y9 hy9 H locs hP hD hS ls hl
                subst y9
                replace hl : lv_has ls 5 [(4, .int (nI i)), (3, .int (nv_ (fan_ B N9) i)), (2, .int (-9)), (0, .ref (r 0)), (1, .int q)] := hl
                replace hP : va_P D vwCl (mW cI r B u_4) H := hP
                refine lv_ior hx hb dX5_whoFirst_59 ?_
                refine lv_istore_n (lv' := [(3, .int ((nv_ (fan_ B N9) i) ||| (if (fan_ B N9) i < 0 then (1 : Int32) <<< (nI i &&& 31) else 0))), (4, .int (nI i)), (2, .int (-9)), (0, .ref (r 0)), (1, .int q)]) hx hb dX5_whoFirst_60 rfl hl (by decide) rfl (fun ls hl => ?_)
                refine lv_aload_n hx hb dX5_whoFirst_61 rfl (lv_at hl 3 rfl) ?_
                refine va_get (ci := 5) (C := RX5) (T := TX5) (N := 33) hx hb hts hinX5 hown hK.1 hP 0 rfl rfl 25 (by decide) (hts _ (List.mem_of_getElem? (i := 2) rfl)) (fun _ h9 => h9) rfl dX5_whoFirst_62 ?_
                refine lv_iload hx hb dX5_whoFirst_65 (lv_at hl 1 rfl) ?_
                refine jald hx hb hK.1 hP 13 0 i rfl rfl rfl (by omega) (Nat.le_of_ble_eq_true rfl) dX5_whoFirst_67 ?_
                refine sti (x := (mfa_ u_4) i) (y := fan_ B N9 i) (congrFun eMFA i) ?_
                refine lv_if_lt (tgt := 94) hx hb dX5_whoFirst_68 (by decide) (fun c_68 => ?_) (fun c_68 => ?_)
                · have d_68 := Int32.not_le.mpr c_68
                  refine lv_iinc (v := (nI i) + 1) (lv' := [(4, .int ((nI i) + 1)), (3, .int ((nv_ (fan_ B N9) i) ||| (if (fan_ B N9) i < 0 then (1 : Int32) <<< (nI i &&& 31) else 0))), (2, .int (-9)), (0, .ref (r 0)), (1, .int q)]) hx hb dX5_whoFirst_94 hl (k := 1) rfl (by first | rfl | decide) (by decide) rfl (fun ls hl => ?_)
                  refine lv_goto (tgt := 31) hx hb dX5_whoFirst_97 (by decide) ?_
                  exact ih_31 (i + 1) (-9) ((nv_ (fan_ B N9) i) ||| (if (fan_ B N9) i < 0 then (1 : Int32) <<< (nI i &&& 31) else 0)) ((nI i) + 1)  (by first | (rw [wf_d d_68, hL]; rfl) | (rw [wf_a d_68 hL]; rfl) | (rw [wf_b d_68 hL d_88]; rfl) | (rw [wf_c d_68 hL d_88]; rfl)) (rfl) (by first | rfl | exact nI_1 _) (by omega) (by omega) _ _ hP (va_D.adr hD0 (mW_adE rfl)) hS ls (lv_sub hl [0, 1, 2, 3, 4] rfl)
                · have d_68 := Int32.not_lt.mp c_68
                  refine lv_iload_n hx hb dX5_whoFirst_71 rfl (lv_at hl 2 rfl) ?_
                  refine lv_if_lt (tgt := 91) hx hb dX5_whoFirst_72 (by decide) (fun _ => ?_) (fun q => absurd q (by decide))
                  refine lv_iload hx hb dX5_whoFirst_91 (lv_at hl 1 rfl) ?_
                  refine lv_istore_n (lv' := [(2, .int (nI i)), (3, .int ((nv_ (fan_ B N9) i) ||| (if (fan_ B N9) i < 0 then (1 : Int32) <<< (nI i &&& 31) else 0))), (4, .int (nI i)), (0, .ref (r 0)), (1, .int q)]) hx hb dX5_whoFirst_93 rfl hl (by decide) rfl (fun ls hl => ?_)
                  refine lv_iinc (v := (nI i) + 1) (lv' := [(4, .int ((nI i) + 1)), (2, .int (nI i)), (3, .int ((nv_ (fan_ B N9) i) ||| (if (fan_ B N9) i < 0 then (1 : Int32) <<< (nI i &&& 31) else 0))), (0, .ref (r 0)), (1, .int q)]) hx hb dX5_whoFirst_94 hl (k := 2) rfl (by first | rfl | decide) (by decide) rfl (fun ls hl => ?_)
                  refine lv_goto (tgt := 31) hx hb dX5_whoFirst_97 (by decide) ?_
                  exact ih_31 (i + 1) (nI i) ((nv_ (fan_ B N9) i) ||| (if (fan_ B N9) i < 0 then (1 : Int32) <<< (nI i &&& 31) else 0)) ((nI i) + 1)  (by first | (rw [wf_d d_68, hL]; rfl) | (rw [wf_a d_68 hL]; rfl) | (rw [wf_b d_68 hL d_88]; rfl) | (rw [wf_c d_68 hL d_88]; rfl)) (rfl) (by first | rfl | exact nI_1 _) (by omega) (by omega) _ _ hP (va_D.adr hD0 (mW_adE rfl)) hS ls (lv_sub hl [0, 2, 1, 3, 4] rfl)
            refine lv_iload_n hx hb dX5_whoFirst_40 rfl (lv_at hl 1 rfl) ?_
            refine lv_aload_n hx hb dX5_whoFirst_41 rfl (lv_at hl 3 rfl) ?_
            refine va_get (ci := 5) (C := RX5) (T := TX5) (N := 33) hx hb hts hinX5 hown hK.1 hP 0 rfl rfl 25 (by decide) (hts _ (List.mem_of_getElem? (i := 2) rfl)) (fun _ h9 => h9) rfl dX5_whoFirst_42 ?_
            refine lv_iload hx hb dX5_whoFirst_45 (lv_at hl 0 rfl) ?_
            refine jald hx hb hK.1 hP 13 0 i rfl rfl rfl (by omega) (Nat.le_of_ble_eq_true rfl) dX5_whoFirst_47 ?_
            refine sti (x := (mfa_ u_4) i) (y := fan_ B N9 i) (congrFun eMFA i) ?_
            refine lv_if_ge (tgt := 58) hx hb dX5_whoFirst_48 (by decide) (fun c_48 => ?_) (fun c_48 => ?_)
            · have d_48 := Int32.not_lt.mpr c_48
              refine lv_iconst (v := 0) hx hb dX5_whoFirst_58 (by decide) ?_
              exact jn_59   0 (by first | exact (if_pos (by first | assumption | exact Int32.not_le.mp (by assumption))).symm | exact (if_neg (by first | assumption | exact Int32.not_lt.mpr (by assumption))).symm)   _ _ hP (va_D.adr hD0 (mW_adE rfl)) hS ls (lv_sub hl [0, 1, 2, 3, 4] rfl)
            · have d_48 := Int32.not_le.mp c_48
              refine lv_iconst (v := 1) hx hb dX5_whoFirst_51 (by decide) ?_
              refine lv_iload hx hb dX5_whoFirst_52 (lv_at hl 0 rfl) ?_
              refine lv_ishl hx hb dX5_whoFirst_54 ?_
              refine lv_goto (tgt := 59) hx hb dX5_whoFirst_55 (by decide) ?_
              exact jn_59   (1 <<< ((nI i) &&& 31)) (by first | exact (if_pos (by first | assumption | exact Int32.not_le.mp (by assumption))).symm | exact (if_neg (by first | assumption | exact Int32.not_lt.mpr (by assumption))).symm)   _ _ hP (va_D.adr hD0 (mW_adE rfl)) hS ls (lv_sub hl [0, 1, 2, 3, 4] rfl)
        · rw [hL] at hl
          replace hl : lv_has ls 5 [(4, .int (nI i)), (3, .int (nv_ (fan_ B N9) i)), (2, .int (nI t)), (0, .ref (r 0)), (1, .int q)] := hl
          have ht := (wf_lt _ _ hL).1
          refine lv_iload hx hb dX5_whoFirst_31 (lv_at hl 0 rfl) ?_
          refine lv_aload_n hx hb dX5_whoFirst_33 rfl (lv_at hl 3 rfl) ?_
          refine va_get (ci := 5) (C := RX5) (T := TX5) (N := 33) hx hb hts hinX5 hown hK.1 hP 0 rfl rfl 6 (by decide) (hts _ (List.mem_of_getElem? (i := 1) rfl)) (fun _ h9 => h9) rfl dX5_whoFirst_34 ?_
          refine lv_icmp_ge (tgt := 100) hx hb dX5_whoFirst_37 (by decide) (fun c_37 => ?_) (fun c_37 => ?_)
          · replace c_37 : nI (sn_ B) ≤ nI i := c_37
            rw [jle (by omega) (by omega)] at c_37
            refine lv_iload_n hx hb dX5_whoFirst_100 rfl (lv_at hl 4 rfl) ?_
            refine lv_if_ne (tgt := 108) hx hb dX5_whoFirst_101 (by decide) (fun c_101 => ?_) (fun c_101 => ?_)
            · skip
              refine lv_iload_n hx hb dX5_whoFirst_108 rfl (lv_at hl 4 rfl) ?_
              refine lv_iconst (v := 1) hx hb dX5_whoFirst_109 (by decide) ?_
              refine lv_icmp_ne (tgt := 117) hx hb dX5_whoFirst_110 (by decide) (fun c_110 => ?_) (fun c_110 => ?_)
              · skip
                refine lv_aload_n hx hb dX5_whoFirst_117 rfl (lv_at hl 3 rfl) ?_
                refine va_get (ci := 5) (C := RX5) (T := TX5) (N := 33) hx hb hts hinX5 hown hK.1 hP 0 rfl rfl 28 (by decide) (hts _ (List.mem_of_getElem? (i := 3) rfl)) (fun _ h9 => h9) rfl dX5_whoFirst_118 ?_
                refine rMi hx hb hr hlk hS u_4 hP ?_ dX5_whoFirst_121
                first | (have hW : uk_ q 2 = -2 := uk_o c_6; rw [hW]; exact ⟨(if_neg (by decide)).symm, oQ_n _ _⟩) | (have hW : uk_ q 2 = 0 := uk_i c_6; have e9 : i = sn_ B := (by omega); rw [e9] at hL; rw [hW]; refine ⟨?_, oQ_0 rfl (oN_mk (by assumption)).m⟩; subst hN9; rw [if_pos rfl]; unfold wfX_; first | (rw [if_pos c_101, ← wf_fo hI, hL]; rfl) | (rw [if_neg c_101, if_pos c_110, e9]; exact nv_eq hI) | (rw [if_neg c_101, if_neg c_110]; exact eMSL.trans (sln_eq B)))
              · skip
                refine lv_iload_n hx hb dX5_whoFirst_113 rfl (lv_at hl 1 rfl) ?_
                refine lv_goto (tgt := 121) hx hb dX5_whoFirst_114 (by decide) ?_
                refine rMi hx hb hr hlk hS u_4 hP ?_ dX5_whoFirst_121
                first | (have hW : uk_ q 2 = -2 := uk_o c_6; rw [hW]; exact ⟨(if_neg (by decide)).symm, oQ_n _ _⟩) | (have hW : uk_ q 2 = 0 := uk_i c_6; have e9 : i = sn_ B := (by omega); rw [e9] at hL; rw [hW]; refine ⟨?_, oQ_0 rfl (oN_mk (by assumption)).m⟩; subst hN9; rw [if_pos rfl]; unfold wfX_; first | (rw [if_pos c_101, ← wf_fo hI, hL]; rfl) | (rw [if_neg c_101, if_pos c_110, e9]; exact nv_eq hI) | (rw [if_neg c_101, if_neg c_110]; exact eMSL.trans (sln_eq B)))
            · skip
              refine lv_iload_n hx hb dX5_whoFirst_104 rfl (lv_at hl 2 rfl) ?_
              refine lv_goto (tgt := 121) hx hb dX5_whoFirst_105 (by decide) ?_
              refine rMi hx hb hr hlk hS u_4 hP ?_ dX5_whoFirst_121
              first | (have hW : uk_ q 2 = -2 := uk_o c_6; rw [hW]; exact ⟨(if_neg (by decide)).symm, oQ_n _ _⟩) | (have hW : uk_ q 2 = 0 := uk_i c_6; have e9 : i = sn_ B := (by omega); rw [e9] at hL; rw [hW]; refine ⟨?_, oQ_0 rfl (oN_mk (by assumption)).m⟩; subst hN9; rw [if_pos rfl]; unfold wfX_; first | (rw [if_pos c_101, ← wf_fo hI, hL]; rfl) | (rw [if_neg c_101, if_pos c_110, e9]; exact nv_eq hI) | (rw [if_neg c_101, if_neg c_110]; exact eMSL.trans (sln_eq B)))
          · replace c_37 : ¬ nI (sn_ B) ≤ nI i := c_37
            rw [jle (by omega) (by omega)] at c_37
            have jn_59 : ∀   (y9 : Int32), (y9 = (if (fan_ B N9) i < 0 then (1 : Int32) <<< (nI i &&& 31) else 0)) → ∀ (H : Heap) (locs : List Loc), va_P D vwCl (mW cI r B u_4) H → va_D A (mW cI r B u_4) → va_S A s.heap H locs → ∀ ls : Array Slot, lv_has ls 5 [(4, .int (nI i)), (3, .int (nv_ (fan_ B N9) i)), (2, .int (nI t)), (0, .ref (r 0)), (1, .int q)] → W p l e (jR 7) s m ([.ref (r 0), .int q] : List Value).toArray below meth c H locs 0 0 (MQ below (va_Qi (S := MT) (fun r u => r = (if uk_ q 2 = 0 then wfX_ B q else uk_ q 2) ∧ oQ_ M u (uk_ q 2)) (fun u t => va_P D vwCl ((fun u => mW cI r B u) u) t.heap) A) ([.ref (r 0), .int q] : List Value).toArray s 0 0 A) (F0 m 59 ls [.int y9, .int (nv_ (fan_ B N9) i)]) := by
                intro y9 hy9 H locs hP hD hS ls hl
                subst y9
                replace hl : lv_has ls 5 [(4, .int (nI i)), (3, .int (nv_ (fan_ B N9) i)), (2, .int (nI t)), (0, .ref (r 0)), (1, .int q)] := hl
                replace hP : va_P D vwCl (mW cI r B u_4) H := hP
                refine lv_ior hx hb dX5_whoFirst_59 ?_
                refine lv_istore_n (lv' := [(3, .int ((nv_ (fan_ B N9) i) ||| (if (fan_ B N9) i < 0 then (1 : Int32) <<< (nI i &&& 31) else 0))), (4, .int (nI i)), (2, .int (nI t)), (0, .ref (r 0)), (1, .int q)]) hx hb dX5_whoFirst_60 rfl hl (by decide) rfl (fun ls hl => ?_)
                refine lv_aload_n hx hb dX5_whoFirst_61 rfl (lv_at hl 3 rfl) ?_
                refine va_get (ci := 5) (C := RX5) (T := TX5) (N := 33) hx hb hts hinX5 hown hK.1 hP 0 rfl rfl 25 (by decide) (hts _ (List.mem_of_getElem? (i := 2) rfl)) (fun _ h9 => h9) rfl dX5_whoFirst_62 ?_
                refine lv_iload hx hb dX5_whoFirst_65 (lv_at hl 1 rfl) ?_
                refine jald hx hb hK.1 hP 13 0 i rfl rfl rfl (by omega) (Nat.le_of_ble_eq_true rfl) dX5_whoFirst_67 ?_
                refine sti (x := (mfa_ u_4) i) (y := fan_ B N9 i) (congrFun eMFA i) ?_
                refine lv_if_lt (tgt := 94) hx hb dX5_whoFirst_68 (by decide) (fun c_68 => ?_) (fun c_68 => ?_)
                · have d_68 := Int32.not_le.mpr c_68
                  refine lv_iinc (v := (nI i) + 1) (lv' := [(4, .int ((nI i) + 1)), (3, .int ((nv_ (fan_ B N9) i) ||| (if (fan_ B N9) i < 0 then (1 : Int32) <<< (nI i &&& 31) else 0))), (2, .int (nI t)), (0, .ref (r 0)), (1, .int q)]) hx hb dX5_whoFirst_94 hl (k := 1) rfl (by first | rfl | decide) (by decide) rfl (fun ls hl => ?_)
                  refine lv_goto (tgt := 31) hx hb dX5_whoFirst_97 (by decide) ?_
                  exact ih_31 (i + 1) (nI t) ((nv_ (fan_ B N9) i) ||| (if (fan_ B N9) i < 0 then (1 : Int32) <<< (nI i &&& 31) else 0)) ((nI i) + 1)  (by first | (rw [wf_d d_68, hL]; rfl) | (rw [wf_a d_68 hL]; rfl) | (rw [wf_b d_68 hL d_88]; rfl) | (rw [wf_c d_68 hL d_88]; rfl)) (rfl) (by first | rfl | exact nI_1 _) (by omega) (by omega) _ _ hP (va_D.adr hD0 (mW_adE rfl)) hS ls (lv_sub hl [0, 1, 2, 3, 4] rfl)
                · have d_68 := Int32.not_lt.mp c_68
                  refine lv_iload_n hx hb dX5_whoFirst_71 rfl (lv_at hl 2 rfl) ?_
                  refine lv_if_lt (tgt := 91) hx hb dX5_whoFirst_72 (by decide) (fun q => absurd q (nI_pos (by omega))) (fun _ => ?_)
                  refine lv_aload_n hx hb dX5_whoFirst_75 rfl (lv_at hl 3 rfl) ?_
                  refine va_get (ci := 5) (C := RX5) (T := TX5) (N := 33) hx hb hts hinX5 hown hK.1 hP 0 rfl rfl 25 (by decide) (hts _ (List.mem_of_getElem? (i := 2) rfl)) (fun _ h9 => h9) rfl dX5_whoFirst_76 ?_
                  refine lv_iload hx hb dX5_whoFirst_79 (lv_at hl 1 rfl) ?_
                  refine jald hx hb hK.1 hP 13 0 i rfl rfl rfl (by omega) (Nat.le_of_ble_eq_true rfl) dX5_whoFirst_81 ?_
                  refine sti (x := (mfa_ u_4) i) (y := fan_ B N9 i) (congrFun eMFA i) ?_
                  refine lv_aload_n hx hb dX5_whoFirst_82 rfl (lv_at hl 3 rfl) ?_
                  refine va_get (ci := 5) (C := RX5) (T := TX5) (N := 33) hx hb hts hinX5 hown hK.1 hP 0 rfl rfl 25 (by decide) (hts _ (List.mem_of_getElem? (i := 2) rfl)) (fun _ h9 => h9) rfl dX5_whoFirst_83 ?_
                  refine lv_iload_n hx hb dX5_whoFirst_86 rfl (lv_at hl 2 rfl) ?_
                  refine jald hx hb hK.1 hP 13 0 t rfl rfl rfl (by omega) (Nat.le_of_ble_eq_true rfl) dX5_whoFirst_87 ?_
                  refine sti (x := (mfa_ u_4) t) (y := fan_ B N9 t) (congrFun eMFA t) ?_
                  refine lv_icmp_ge (tgt := 94) hx hb dX5_whoFirst_88 (by decide) (fun c_88 => ?_) (fun c_88 => ?_)
                  · have d_88 := Int32.not_lt.mpr c_88
                    refine lv_iinc (v := (nI i) + 1) (lv' := [(4, .int ((nI i) + 1)), (3, .int ((nv_ (fan_ B N9) i) ||| (if (fan_ B N9) i < 0 then (1 : Int32) <<< (nI i &&& 31) else 0))), (2, .int (nI t)), (0, .ref (r 0)), (1, .int q)]) hx hb dX5_whoFirst_94 hl (k := 1) rfl (by first | rfl | decide) (by decide) rfl (fun ls hl => ?_)
                    refine lv_goto (tgt := 31) hx hb dX5_whoFirst_97 (by decide) ?_
                    exact ih_31 (i + 1) (nI t) ((nv_ (fan_ B N9) i) ||| (if (fan_ B N9) i < 0 then (1 : Int32) <<< (nI i &&& 31) else 0)) ((nI i) + 1)  (by first | (rw [wf_d d_68, hL]; rfl) | (rw [wf_a d_68 hL]; rfl) | (rw [wf_b d_68 hL d_88]; rfl) | (rw [wf_c d_68 hL d_88]; rfl)) (rfl) (by first | rfl | exact nI_1 _) (by omega) (by omega) _ _ hP (va_D.adr hD0 (mW_adE rfl)) hS ls (lv_sub hl [0, 1, 2, 3, 4] rfl)
                  · have d_88 := Int32.not_le.mp c_88
                    refine lv_iload hx hb dX5_whoFirst_91 (lv_at hl 1 rfl) ?_
                    refine lv_istore_n (lv' := [(2, .int (nI i)), (3, .int ((nv_ (fan_ B N9) i) ||| (if (fan_ B N9) i < 0 then (1 : Int32) <<< (nI i &&& 31) else 0))), (4, .int (nI i)), (0, .ref (r 0)), (1, .int q)]) hx hb dX5_whoFirst_93 rfl hl (by decide) rfl (fun ls hl => ?_)
                    refine lv_iinc (v := (nI i) + 1) (lv' := [(4, .int ((nI i) + 1)), (2, .int (nI i)), (3, .int ((nv_ (fan_ B N9) i) ||| (if (fan_ B N9) i < 0 then (1 : Int32) <<< (nI i &&& 31) else 0))), (0, .ref (r 0)), (1, .int q)]) hx hb dX5_whoFirst_94 hl (k := 2) rfl (by first | rfl | decide) (by decide) rfl (fun ls hl => ?_)
                    refine lv_goto (tgt := 31) hx hb dX5_whoFirst_97 (by decide) ?_
                    exact ih_31 (i + 1) (nI i) ((nv_ (fan_ B N9) i) ||| (if (fan_ B N9) i < 0 then (1 : Int32) <<< (nI i &&& 31) else 0)) ((nI i) + 1)  (by first | (rw [wf_d d_68, hL]; rfl) | (rw [wf_a d_68 hL]; rfl) | (rw [wf_b d_68 hL d_88]; rfl) | (rw [wf_c d_68 hL d_88]; rfl)) (rfl) (by first | rfl | exact nI_1 _) (by omega) (by omega) _ _ hP (va_D.adr hD0 (mW_adE rfl)) hS ls (lv_sub hl [0, 2, 1, 3, 4] rfl)
            refine lv_iload_n hx hb dX5_whoFirst_40 rfl (lv_at hl 1 rfl) ?_
            refine lv_aload_n hx hb dX5_whoFirst_41 rfl (lv_at hl 3 rfl) ?_
            refine va_get (ci := 5) (C := RX5) (T := TX5) (N := 33) hx hb hts hinX5 hown hK.1 hP 0 rfl rfl 25 (by decide) (hts _ (List.mem_of_getElem? (i := 2) rfl)) (fun _ h9 => h9) rfl dX5_whoFirst_42 ?_
            refine lv_iload hx hb dX5_whoFirst_45 (lv_at hl 0 rfl) ?_
            refine jald hx hb hK.1 hP 13 0 i rfl rfl rfl (by omega) (Nat.le_of_ble_eq_true rfl) dX5_whoFirst_47 ?_
            refine sti (x := (mfa_ u_4) i) (y := fan_ B N9 i) (congrFun eMFA i) ?_
            refine lv_if_ge (tgt := 58) hx hb dX5_whoFirst_48 (by decide) (fun c_48 => ?_) (fun c_48 => ?_)
            · have d_48 := Int32.not_lt.mpr c_48
              refine lv_iconst (v := 0) hx hb dX5_whoFirst_58 (by decide) ?_
              exact jn_59   0 (by first | exact (if_pos (by first | assumption | exact Int32.not_le.mp (by assumption))).symm | exact (if_neg (by first | assumption | exact Int32.not_lt.mpr (by assumption))).symm)   _ _ hP (va_D.adr hD0 (mW_adE rfl)) hS ls (lv_sub hl [0, 1, 2, 3, 4] rfl)
            · have d_48 := Int32.not_le.mp c_48
              refine lv_iconst (v := 1) hx hb dX5_whoFirst_51 (by decide) ?_
              refine lv_iload hx hb dX5_whoFirst_52 (lv_at hl 0 rfl) ?_
              refine lv_ishl hx hb dX5_whoFirst_54 ?_
              refine lv_goto (tgt := 59) hx hb dX5_whoFirst_55 (by decide) ?_
              exact jn_59   (1 <<< ((nI i) &&& 31)) (by first | exact (if_pos (by first | assumption | exact Int32.not_le.mp (by assumption))).symm | exact (if_neg (by first | assumption | exact Int32.not_lt.mpr (by assumption))).symm)   _ _ hP (va_D.adr hD0 (mW_adE rfl)) hS ls (lv_sub hl [0, 1, 2, 3, 4] rfl)
    exact lp_31 ((sn_ B) + 1) 0 (-9) 0 0  (rfl) (rfl) (by first | rfl | exact nI_0.symm) (by omega) (by omega) _ _ hP (va_D.adr hD0 (mW_adE rfl)) hS ls (lv_sub hl [0, 1, 2, 3, 4] rfl)
  · replace c_6 := b1_z c_6
    refine lv_aload_n hx hb dX5_whoFirst_9 rfl (lv_at hl 0 rfl) ?_
    refine lv_bipush (v := (-2)) hx hb dX5_whoFirst_10 (by decide) ?_
    refine kMiV hx hb hml hown hts hK hP (va_D.adr hD0 (mW_adE rfl)) hA hS gX5_whoFirst_X5_no okX5_no (qX5_no l D cI cB r B M (-2) (Or.inr (Or.inl rfl))) [0, 1, 2, 3, 4, 5, 6, 7, 8, 9, 10, 11, 12, 13, 14, 15] rfl (by decide) (fun _ => mW_adr _ _ _ _ _ _) rfl rfl rfl (by decide) hl.1 rfl rfl (Nat.le_of_ble_eq_true rfl) dX5_whoFirst_12 (by decide) (fun r_6 u_7 H locs hw_8 hP hD hS => ?_)
    replace hw_8 : r_6 = (-2) ∧ u_7 = (rfm_ M (-2)) := hw_8
    obtain ⟨hw_8a, hw_8b⟩ := hw_8
    subst r_6
    subst u_7
    replace hP : va_P D vwCl ([(r 0, .inr (5, [.ref (r 1), .ref (r 2), .ref (r 3), .ref (r 4), .ref (r 5), .ref (r 6), .int (nI (sn_ B)), .int (qt_ B), .int (il_ B), .int (pa_ B), .int (ho_ B), .int (dy_ B), .ref (r 13), .ref (r 14), .ref (r 15), .ref (r 16), .int (nI (mtn_ M)), .int (nI (mrd_ M)), .int (nI (msm_ M)), .ref (r 20), .int (mhi_ M), .int (mik_ M), .int (nI (mcu_ M)), .int (nI (mbk_ M)), .ref (r 25), .ref (r 26), .int (mlw_ M), .int (mhg_ M), .int (msl_ M), .ref (r 30), .int (nI (mrm_ M)), .ref (r 32), .int (mlo_ M)])), (r 1, .inl (cI, 7, .inl (rfx_ (mrf_ M) (-2)))), (r 2, .inl (cI, 7, .inl (kd_ B))), (r 3, .inl (cI, 7, .inl (fg_ B))), (r 4, .inl (cI, 7, .inl (pl_ B))), (r 5, .inl (cI, 7, .inl (pw_ B))), (r 6, .inl (cI, 7, .inl (jy_ B))), (r 13, .inl (cI, 96, .inl (mtp_ M))), (r 14, .inl (cI, 48, .inl (mlt_ M))), (r 15, .inl (cI, 48, .inl (mla_ M))), (r 16, .inl (cI, 144, .inl (mtd_ M))), (r 20, .inl (cI, 451, .inl (flatK (mkp_ M)))), (r 25, .inl (cI, 7, .inl (mof_ M))), (r 26, .inl (cI, 7, .inl (mfa_ M))), (r 30, .inl (cI, 12, .inl (mrw_ M))), (r 32, .inl (cI, 8, .inl (mhb_ M)))]) H := (va_P.m [true, true, true, true, true, true, true, true, true, true, true, true, true, true, true, true] [] hP)
    refine rMi hx hb hr hlk hS (rfm_ M (-2)) hP ?_ dX5_whoFirst_15
    first | (have hW : uk_ q 2 = -2 := uk_o c_6; rw [hW]; exact ⟨(if_neg (by decide)).symm, oQ_n _ _⟩) | (have hW : uk_ q 2 = 0 := uk_i c_6; have e9 : i = sn_ B := (by omega); rw [e9] at hL; rw [hW]; refine ⟨?_, oQ_0 rfl (oN_mk (by assumption)).m⟩; subst hN9; rw [if_pos rfl]; unfold wfX_; first | (rw [if_pos c_101, ← wf_fo hI, hL]; rfl) | (rw [if_neg c_101, if_pos c_110, e9]; exact nv_eq hI) | (rw [if_neg c_101, if_neg c_110]; exact eMSL.trans (sln_eq B)))

theorem okX5_treaty : jok yX5_treaty wsX5_treaty cX5_treaty 7 (some .int) 3 := ⟨⟨_, rfl⟩, by decide +kernel, by decide +kernel⟩
set_option maxHeartbeats 2000000 in
set_option maxRecDepth 100000 in
theorem qX5_treaty (l : Launch) (D : va_G) (cI cB : ClassId) (r : Nat → Nat) (B : BayT) (M : MT) (a : Int32) (b : Int32) (q : Int32) (hI : bI_ B) : jMi D cI cB l yX5_treaty wsX5_treaty 8 [.ref (r 0), .int a, .int b, .int q] (mW cI r B M) (S := MT) (fun r u => r = (if wTr_ (sn_ B) a b q = 0 then trX_ B (tn_ a) (tn_ b) q else wTr_ (sn_ B) a b q) ∧ oQ_ M u (wTr_ (sn_ B) a b q)) (fun u => mW cI r B u) := by
  refine jMi.of (cc := cX5_treaty) (maxL := 7) (ret := (some .int)) okX5_treaty (Nat.le_of_ble_eq_true rfl) ?_
  intro p e s m below meth c ls A hx hb hr hts hown hlk hml hP hK hD hA hS hl
  replace hown : s.vm.findClass RX5 = some m.cls := hown
  replace hl : lv_has ls 7 [(0, .ref (r 0)), (1, .int a), (2, .int b), (3, .int q)] := hl
  have hD0 := hD
  have hn7 := hI.1
  have hinX5 : ∀ w ∈ wsX50, w ∈ wsX5_treaty := by decide +kernel
  have jn_42 : ∀  (x4_42 : Int32) , (x4_42 = wTr_ (sn_ B) a b q) → ∀ (H : Heap) (locs : List Loc), va_P D vwCl (mW cI r B M) H → va_D A (mW cI r B M) → va_S A s.heap H locs → ∀ ls : Array Slot, lv_has ls 7 [(4, .int x4_42), (0, .ref (r 0)), (1, .int a), (2, .int b), (3, .int q)] → W p l e (jR 8) s m ([.ref (r 0), .int a, .int b, .int q] : List Value).toArray below meth c H locs 0 0 (MQ below (va_Qi (S := MT) (fun r u => r = (if wTr_ (sn_ B) a b q = 0 then trX_ B (tn_ a) (tn_ b) q else wTr_ (sn_ B) a b q) ∧ oQ_ M u (wTr_ (sn_ B) a b q)) (fun u t => va_P D vwCl ((fun u => mW cI r B u) u) t.heap) A) ([.ref (r 0), .int a, .int b, .int q] : List Value).toArray s 0 0 A) (F0 m 42 ls []) := by
      intro x4_42 hx4_42 H locs hP hD hS ls hl
      subst x4_42
      replace hl : lv_has ls 7 [(4, .int (wTr_ (sn_ B) a b q)), (0, .ref (r 0)), (1, .int a), (2, .int b), (3, .int q)] := hl
      replace hP : va_P D vwCl (mW cI r B M) H := hP
      refine lv_iload hx hb dX5_treaty_42 (lv_at hl 0 rfl) ?_
      refine lv_if_eq (tgt := 54) hx hb dX5_treaty_44 (by decide) (fun c_44 => ?_) (fun c_44 => ?_)
      · skip
        have w0 := c_44
        simp only [wS_, wSN_, wSNW_, wNW_, wTh_, wTr_, f2_0, nb_0, ob_0, uk_0, lo_0, hi_0] at w0
        obtain ⟨a_, ha_, rfl⟩ := pl_lt (n := sn_ B) (by omega) w0.1.1
        obtain ⟨b_, hb_, rfl⟩ := pl_lt (n := sn_ B) (by omega) w0.1.2
        replace hl : lv_has ls 7 [(4, .int (wTr_ (sn_ B) (nI a_) (nI b_) q)), (0, .ref (r 0)), (1, .int (nI a_)), (2, .int (nI b_)), (3, .int q)] := hl
        refine lv_aload_n hx hb dX5_treaty_54 rfl (lv_at hl 1 rfl) ?_
        refine lv_iload_n hx hb dX5_treaty_55 rfl (lv_at hl 2 rfl) ?_
        refine lv_iload_n hx hb dX5_treaty_56 rfl (lv_at hl 3 rfl) ?_
        refine kMvV hx hb hml hown hts hK hP (va_D.adr hD0 (mW_adE rfl)) hA hS gX5_treaty_X5_findTreaty okX5_findTreaty (qX5_findTreaty l D cI cB r B M a_ b_ hI ha_ hb_) [0, 1, 2, 3, 4, 5, 6, 7, 8, 9, 10, 11, 12, 13, 14, 15] rfl (by decide) (fun _ => mW_adr _ _ _ _ _ _) rfl rfl rfl (by decide) hl.1 rfl rfl (Nat.le_of_ble_eq_true rfl) dX5_treaty_57 (by decide) (fun u_2 H locs hw_3 hP hD hS => ?_)
        obtain ⟨hNu, hTu⟩ := hw_3
        replace hP : va_P D vwCl (mW cI r B u_2) H := (va_P.m [true, true, true, true, true, true, true, true, true, true, true, true, true, true, true, true] [] hP)
        refine lv_iconst (v := 0) hx hb dX5_treaty_60 (by decide) ?_
        refine lv_istore (lv' := [(5, .int 0), (4, .int (wTr_ (sn_ B) (nI a_) (nI b_) q)), (0, .ref (r 0)), (1, .int (nI a_)), (2, .int (nI b_)), (3, .int q)]) hx hb dX5_treaty_61 hl (by decide) rfl (fun ls hl => ?_)
        have lp_63 : ∀ (fu_63 : Nat) (i : Nat) (x5_63 : Int32) , (x5_63 = nI i) → (i ≤ 4) → (i = 0 ∨ ¬ q = 1) → (fz_ (fun j => tc_ (tt_ B a_ b_ j) a_ 12) (fun j => tc_ (tt_ B a_ b_ j) b_ 12) (4 - i) i = fz_ (fun j => tc_ (tt_ B a_ b_ j) a_ 12) (fun j => tc_ (tt_ B a_ b_ j) b_ 12) 4 0) → 4 - i < fu_63 → ∀ (H : Heap) (locs : List Loc), va_P D vwCl (mW cI r B u_2) H → va_D A (mW cI r B u_2) → va_S A s.heap H locs → ∀ ls : Array Slot, lv_has ls 7 [(5, .int x5_63), (4, .int (wTr_ (sn_ B) (nI a_) (nI b_) q)), (0, .ref (r 0)), (1, .int (nI a_)), (2, .int (nI b_)), (3, .int q)] → W p l e (jR 8) s m ([.ref (r 0), .int (nI a_), .int (nI b_), .int q] : List Value).toArray below meth c H locs 0 0 (MQ below (va_Qi (S := MT) (fun r u => r = (if wTr_ (sn_ B) (nI a_) (nI b_) q = 0 then trX_ B (tn_ (nI a_)) (tn_ (nI b_)) q else wTr_ (sn_ B) (nI a_) (nI b_) q) ∧ oQ_ M u (wTr_ (sn_ B) (nI a_) (nI b_) q)) (fun u t => va_P D vwCl ((fun u => mW cI r B u) u) t.heap) A) ([.ref (r 0), .int (nI a_), .int (nI b_), .int q] : List Value).toArray s 0 0 A) (F0 m 63 ls []) := by
          intro fu_63
          induction fu_63 with
          | zero => intro i x5_63 hx5_63 hi hq1 hre hfu; exact absurd hfu (Nat.not_lt_zero _)
          | succ fu_63 ih_63 =>
            intro i x5_63 hx5_63 hi hq1 hre hfu_63 H locs hP hD hS ls hl
            subst x5_63
            replace hl : lv_has ls 7 [(5, .int (nI i)), (4, .int (wTr_ (sn_ B) (nI a_) (nI b_) q)), (0, .ref (r 0)), (1, .int (nI a_)), (2, .int (nI b_)), (3, .int q)] := hl
            replace hP : va_P D vwCl (mW cI r B u_2) H := hP
            refine lv_iload hx hb dX5_treaty_63 (lv_at hl 0 rfl) ?_
            refine lv_iconst (v := 4) hx hb dX5_treaty_65 (by decide) ?_
            refine lv_icmp_ge (tgt := 166) hx hb dX5_treaty_66 (by decide) (fun c_66 => ?_) (fun c_66 => ?_)
            · replace c_66 : nI 4 ≤ nI i := c_66
              rw [jle (by omega) (by omega)] at c_66
              refine lv_bipush (v := (-9)) hx hb dX5_treaty_166 (by decide) ?_
              refine rMi hx hb hr hlk hS u_2 hP ?_ dX5_treaty_168
              first | exact ⟨(if_neg c_44).symm, oQ_n _ _⟩ | (refine ⟨?_, oQ_0 c_44 hNu.m⟩; rw [if_pos c_44]; simp only [tn_n (show a_ < 2147483648 by omega), tn_n (show b_ < 2147483648 by omega)]; unfold trX_; first | (have e0 : i = 0 := hq1.elim id (fun z => absurd c_128 z); subst e0; rw [if_pos c_128]; first | exact (b1_t c_133).symm | exact (b1_f c_133).symm) | (rw [if_neg c_128, ← hre, fz_s (by omega), if_pos c_144]; rfl) | (rw [if_neg (hq1.elim (fun z => by omega) id), ← hre, fz_0 (by omega)]; rfl))
            · replace c_66 : ¬ nI 4 ≤ nI i := c_66
              rw [jle (by omega) (by omega)] at c_66
              have jn_124 : ∀   (y9 : Int32), (y9 = b1 (tp_ (fun j => tc_ (tt_ B a_ b_ j) a_ 12) (fun j => tc_ (tt_ B a_ b_ j) b_ 12) i)) → ∀ (H : Heap) (locs : List Loc), va_P D vwCl (mW cI r B u_2) H → va_D A (mW cI r B u_2) → va_S A s.heap H locs → ∀ ls : Array Slot, lv_has ls 7 [(5, .int (nI i)), (4, .int (wTr_ (sn_ B) (nI a_) (nI b_) q)), (0, .ref (r 0)), (1, .int (nI a_)), (2, .int (nI b_)), (3, .int q)] → W p l e (jR 8) s m ([.ref (r 0), .int (nI a_), .int (nI b_), .int q] : List Value).toArray below meth c H locs 0 0 (MQ below (va_Qi (S := MT) (fun r u => r = (if wTr_ (sn_ B) (nI a_) (nI b_) q = 0 then trX_ B (tn_ (nI a_)) (tn_ (nI b_)) q else wTr_ (sn_ B) (nI a_) (nI b_) q) ∧ oQ_ M u (wTr_ (sn_ B) (nI a_) (nI b_) q)) (fun u t => va_P D vwCl ((fun u => mW cI r B u) u) t.heap) A) ([.ref (r 0), .int (nI a_), .int (nI b_), .int q] : List Value).toArray s 0 0 A) (F0 m 124 ls [.int y9]) := by
                  intro y9 hy9 H locs hP hD hS ls hl
                  subst y9
                  replace hl : lv_has ls 7 [(5, .int (nI i)), (4, .int (wTr_ (sn_ B) (nI a_) (nI b_) q)), (0, .ref (r 0)), (1, .int (nI a_)), (2, .int (nI b_)), (3, .int q)] := hl
                  replace hP : va_P D vwCl (mW cI r B u_2) H := hP
                  refine lv_istore (lv' := [(6, .int (b1 (tp_ (fun j => tc_ (tt_ B a_ b_ j) a_ 12) (fun j => tc_ (tt_ B a_ b_ j) b_ 12) i))), (5, .int (nI i)), (4, .int (wTr_ (sn_ B) (nI a_) (nI b_) q)), (0, .ref (r 0)), (1, .int (nI a_)), (2, .int (nI b_)), (3, .int q)]) hx hb dX5_treaty_124 hl (by decide) rfl (fun ls hl => ?_)
                  refine lv_iload_n hx hb dX5_treaty_126 rfl (lv_at hl 6 rfl) ?_
                  refine lv_iconst (v := 1) hx hb dX5_treaty_127 (by decide) ?_
                  refine lv_icmp_ne (tgt := 142) hx hb dX5_treaty_128 (by decide) (fun c_128 => ?_) (fun c_128 => ?_)
                  · skip
                    refine lv_iload hx hb dX5_treaty_142 (lv_at hl 0 rfl) ?_
                    refine lv_if_eq (tgt := 160) hx hb dX5_treaty_144 (by decide) (fun c_144 => ?_) (fun c_144 => ?_)
                    · replace c_144 := b1_z c_144
                      refine lv_iinc (v := (nI i) + 1) (lv' := [(5, .int ((nI i) + 1)), (6, .int (b1 (tp_ (fun j => tc_ (tt_ B a_ b_ j) a_ 12) (fun j => tc_ (tt_ B a_ b_ j) b_ 12) i))), (4, .int (wTr_ (sn_ B) (nI a_) (nI b_) q)), (0, .ref (r 0)), (1, .int (nI a_)), (2, .int (nI b_)), (3, .int q)]) hx hb dX5_treaty_160 hl (k := 1) rfl (by first | rfl | decide) (by decide) rfl (fun ls hl => ?_)
                      refine lv_goto (tgt := 63) hx hb dX5_treaty_163 (by decide) ?_
                      exact ih_63 (i + 1) ((nI i) + 1)  (by first | rfl | exact nI_1 _) (by omega) (Or.inr c_128) ((by rw [fz_s (by omega), if_neg c_144] at hre; exact hre)) (by omega) _ _ hP (va_D.adr hD0 (mW_adE rfl)) hS ls (lv_sub hl [0, 2, 3, 4, 5, 6] rfl)
                    · replace c_144 := b1_n c_144
                      refine lv_bipush (v := 10) hx hb dX5_treaty_147 (by decide) ?_
                      refine lv_iload hx hb dX5_treaty_149 (lv_at hl 1 rfl) ?_
                      refine lv_iconst (v := 2) hx hb dX5_treaty_151 (by decide) ?_
                      refine lv_idiv hx hb dX5_treaty_152 (by decide) ?_
                      refine lv_imul hx hb dX5_treaty_153 ?_
                      refine lv_iload hx hb dX5_treaty_154 (lv_at hl 1 rfl) ?_
                      refine lv_iconst (v := 2) hx hb dX5_treaty_156 (by decide) ?_
                      refine lv_irem hx hb dX5_treaty_157 (by decide) ?_
                      refine lv_iadd hx hb dX5_treaty_158 ?_
                      refine rMi hx hb hr hlk hS u_2 hP ?_ dX5_treaty_159
                      first | exact ⟨(if_neg c_44).symm, oQ_n _ _⟩ | (refine ⟨?_, oQ_0 c_44 hNu.m⟩; rw [if_pos c_44]; simp only [tn_n (show a_ < 2147483648 by omega), tn_n (show b_ < 2147483648 by omega)]; unfold trX_; first | (have e0 : i = 0 := hq1.elim id (fun z => absurd c_128 z); subst e0; rw [if_pos c_128]; first | exact (b1_t c_133).symm | exact (b1_f c_133).symm) | (rw [if_neg c_128, ← hre, fz_s (by omega), if_pos c_144]; rfl) | (rw [if_neg (hq1.elim (fun z => by omega) id), ← hre, fz_0 (by omega)]; rfl))
                  · skip
                    refine lv_iload hx hb dX5_treaty_131 (lv_at hl 0 rfl) ?_
                    refine lv_if_eq (tgt := 140) hx hb dX5_treaty_133 (by decide) (fun c_133 => ?_) (fun c_133 => ?_)
                    · replace c_133 := b1_z c_133
                      refine lv_iconst (v := 0) hx hb dX5_treaty_140 (by decide) ?_
                      refine rMi hx hb hr hlk hS u_2 hP ?_ dX5_treaty_141
                      first | exact ⟨(if_neg c_44).symm, oQ_n _ _⟩ | (refine ⟨?_, oQ_0 c_44 hNu.m⟩; rw [if_pos c_44]; simp only [tn_n (show a_ < 2147483648 by omega), tn_n (show b_ < 2147483648 by omega)]; unfold trX_; first | (have e0 : i = 0 := hq1.elim id (fun z => absurd c_128 z); subst e0; rw [if_pos c_128]; first | exact (b1_t c_133).symm | exact (b1_f c_133).symm) | (rw [if_neg c_128, ← hre, fz_s (by omega), if_pos c_144]; rfl) | (rw [if_neg (hq1.elim (fun z => by omega) id), ← hre, fz_0 (by omega)]; rfl))
                    · replace c_133 := b1_n c_133
                      refine lv_iconst (v := 1) hx hb dX5_treaty_136 (by decide) ?_
                      refine lv_goto (tgt := 141) hx hb dX5_treaty_137 (by decide) ?_
                      refine rMi hx hb hr hlk hS u_2 hP ?_ dX5_treaty_141
                      first | exact ⟨(if_neg c_44).symm, oQ_n _ _⟩ | (refine ⟨?_, oQ_0 c_44 hNu.m⟩; rw [if_pos c_44]; simp only [tn_n (show a_ < 2147483648 by omega), tn_n (show b_ < 2147483648 by omega)]; unfold trX_; first | (have e0 : i = 0 := hq1.elim id (fun z => absurd c_128 z); subst e0; rw [if_pos c_128]; first | exact (b1_t c_133).symm | exact (b1_f c_133).symm) | (rw [if_neg c_128, ← hre, fz_s (by omega), if_pos c_144]; rfl) | (rw [if_neg (hq1.elim (fun z => by omega) id), ← hre, fz_0 (by omega)]; rfl))
              refine lv_aload_n hx hb dX5_treaty_69 rfl (lv_at hl 2 rfl) ?_
              refine va_get (ci := 5) (C := RX5) (T := TX5) (N := 33) hx hb hts hinX5 hown hK.1 hP 0 rfl rfl 31 (by decide) (hts _ (List.mem_of_getElem? (i := 1) rfl)) (fun _ h9 => h9) rfl dX5_treaty_70 ?_
              refine lv_iconst (v := 2) hx hb dX5_treaty_73 (by decide) ?_
              refine lv_iload hx hb dX5_treaty_74 (lv_at hl 0 rfl) ?_
              refine lv_iconst (v := 2) hx hb dX5_treaty_76 (by decide) ?_
              refine lv_ixor hx hb dX5_treaty_77 ?_
              refine lv_imul hx hb dX5_treaty_78 ?_
              refine jald hx hb hK.1 hP 15 0 (2 * (i ^^^ 2)) rfl rfl (by rw [(jx_ (by omega)).1.1]; exact pk_mul 2 _) (by have := (jx_ (j := i) (by omega)).1.2; omega) (Nat.le_of_ble_eq_true rfl) dX5_treaty_79 ?_
              refine sti (x := (mhb_ u_2) (2 * (i ^^^ 2))) (y := tc_ (tt_ B a_ b_ (i ^^^ 2)) a_ 12) ((hTu (i ^^^ 2) (jx_ (by omega)).1.2).1) ?_
              refine lv_aload_n hx hb dX5_treaty_80 rfl (lv_at hl 2 rfl) ?_
              refine va_get (ci := 5) (C := RX5) (T := TX5) (N := 33) hx hb hts hinX5 hown hK.1 hP 0 rfl rfl 31 (by decide) (hts _ (List.mem_of_getElem? (i := 1) rfl)) (fun _ h9 => h9) rfl dX5_treaty_81 ?_
              refine lv_iconst (v := 2) hx hb dX5_treaty_84 (by decide) ?_
              refine lv_iload hx hb dX5_treaty_85 (lv_at hl 0 rfl) ?_
              refine lv_imul hx hb dX5_treaty_87 ?_
              refine jald hx hb hK.1 hP 15 0 (2 * i) rfl rfl (pk_mul 2 i) (by omega) (Nat.le_of_ble_eq_true rfl) dX5_treaty_88 ?_
              refine sti (x := (mhb_ u_2) (2 * i)) (y := tc_ (tt_ B a_ b_ i) a_ 12) ((hTu i (by omega)).1) ?_
              refine lv_icmp_gt (tgt := 123) hx hb dX5_treaty_89 (by decide) (fun c_89 => ?_) (fun c_89 => ?_)
              · have d_89 := Int32.not_le.mpr c_89
                refine lv_iconst (v := 0) hx hb dX5_treaty_123 (by decide) ?_
                exact jn_124   0 (by first | exact (b1_t ⟨Int32.not_lt.mp c_89, Int32.not_lt.mp c_116⟩).symm | exact (b1_f (fun z => absurd c_89 (Int32.not_lt.mpr z.1))).symm | exact (b1_f (fun z => absurd c_116 (Int32.not_lt.mpr z.2))).symm)   _ _ hP (va_D.adr hD0 (mW_adE rfl)) hS ls (lv_sub hl [0, 1, 2, 3, 4, 5] rfl)
              · have d_89 := Int32.not_lt.mp c_89
                refine lv_aload_n hx hb dX5_treaty_92 rfl (lv_at hl 2 rfl) ?_
                refine va_get (ci := 5) (C := RX5) (T := TX5) (N := 33) hx hb hts hinX5 hown hK.1 hP 0 rfl rfl 31 (by decide) (hts _ (List.mem_of_getElem? (i := 1) rfl)) (fun _ h9 => h9) rfl dX5_treaty_93 ?_
                refine lv_iconst (v := 2) hx hb dX5_treaty_96 (by decide) ?_
                refine lv_iload hx hb dX5_treaty_97 (lv_at hl 0 rfl) ?_
                refine lv_iconst (v := 1) hx hb dX5_treaty_99 (by decide) ?_
                refine lv_ixor hx hb dX5_treaty_100 ?_
                refine lv_imul hx hb dX5_treaty_101 ?_
                refine lv_iconst (v := 1) hx hb dX5_treaty_102 (by decide) ?_
                refine lv_iadd hx hb dX5_treaty_103 ?_
                refine jald hx hb hK.1 hP 15 0 (2 * (i ^^^ 1) + 1) rfl rfl (by rw [(jx_ (by omega)).2.1, show (2 : Int32) * nI (i ^^^ 1) = nI (2 * (i ^^^ 1)) from pk_mul 2 _]; exact nI_1 _) (by have := (jx_ (j := i) (by omega)).2.2; omega) (Nat.le_of_ble_eq_true rfl) dX5_treaty_104 ?_
                refine sti (x := (mhb_ u_2) (2 * (i ^^^ 1) + 1)) (y := tc_ (tt_ B a_ b_ (i ^^^ 1)) b_ 12) ((hTu (i ^^^ 1) (jx_ (by omega)).2.2).2) ?_
                refine lv_aload_n hx hb dX5_treaty_105 rfl (lv_at hl 2 rfl) ?_
                refine va_get (ci := 5) (C := RX5) (T := TX5) (N := 33) hx hb hts hinX5 hown hK.1 hP 0 rfl rfl 31 (by decide) (hts _ (List.mem_of_getElem? (i := 1) rfl)) (fun _ h9 => h9) rfl dX5_treaty_106 ?_
                refine lv_iconst (v := 2) hx hb dX5_treaty_109 (by decide) ?_
                refine lv_iload hx hb dX5_treaty_110 (lv_at hl 0 rfl) ?_
                refine lv_imul hx hb dX5_treaty_112 ?_
                refine lv_iconst (v := 1) hx hb dX5_treaty_113 (by decide) ?_
                refine lv_iadd hx hb dX5_treaty_114 ?_
                refine jald hx hb hK.1 hP 15 0 (2 * i + 1) rfl rfl (by rw [show (2 : Int32) * nI i = nI (2 * i) from pk_mul 2 i]; exact nI_1 _) (by omega) (Nat.le_of_ble_eq_true rfl) dX5_treaty_115 ?_
                refine sti (x := (mhb_ u_2) (2 * i + 1)) (y := tc_ (tt_ B a_ b_ i) b_ 12) ((hTu i (by omega)).2) ?_
                refine lv_icmp_gt (tgt := 123) hx hb dX5_treaty_116 (by decide) (fun c_116 => ?_) (fun c_116 => ?_)
                · have d_116 := Int32.not_le.mpr c_116
                  refine lv_iconst (v := 0) hx hb dX5_treaty_123 (by decide) ?_
                  exact jn_124   0 (by first | exact (b1_t ⟨Int32.not_lt.mp c_89, Int32.not_lt.mp c_116⟩).symm | exact (b1_f (fun z => absurd c_89 (Int32.not_lt.mpr z.1))).symm | exact (b1_f (fun z => absurd c_116 (Int32.not_lt.mpr z.2))).symm)   _ _ hP (va_D.adr hD0 (mW_adE rfl)) hS ls (lv_sub hl [0, 1, 2, 3, 4, 5] rfl)
                · have d_116 := Int32.not_lt.mp c_116
                  refine lv_iconst (v := 1) hx hb dX5_treaty_119 (by decide) ?_
                  refine lv_goto (tgt := 124) hx hb dX5_treaty_120 (by decide) ?_
                  exact jn_124   1 (by first | exact (b1_t ⟨Int32.not_lt.mp c_89, Int32.not_lt.mp c_116⟩).symm | exact (b1_f (fun z => absurd c_89 (Int32.not_lt.mpr z.1))).symm | exact (b1_f (fun z => absurd c_116 (Int32.not_lt.mpr z.2))).symm)   _ _ hP (va_D.adr hD0 (mW_adE rfl)) hS ls (lv_sub hl [0, 1, 2, 3, 4, 5] rfl)
        exact lp_63 (4 + 1) 0 0  (by first | rfl | exact nI_0.symm) (by omega) (Or.inl rfl) (rfl) (by omega) _ _ hP (va_D.adr hD0 (mW_adE rfl)) hS ls (lv_sub hl [0, 1, 2, 3, 4, 5] rfl)
      · skip
        refine lv_aload_n hx hb dX5_treaty_47 rfl (lv_at hl 1 rfl) ?_
        refine lv_iload hx hb dX5_treaty_48 (lv_at hl 0 rfl) ?_
        refine kMiV hx hb hml hown hts hK hP (va_D.adr hD0 (mW_adE rfl)) hA hS gX5_treaty_X5_no okX5_no (qX5_no l D cI cB r B M (wTr_ (sn_ B) a b q) (rc0_n (by first | exact rc0_wS _ _ | exact rc0_wSN _ _ _ | exact rc0_wSNW _ _ _ _ | exact rc0_wNW _ _ | exact rc0_wTh _ _ _ _ _ | exact rc0_wTr _ _ _ _ | exact rc0_nb _ _ | exact rc0_uk _ _ | exact rc0_ob _ _ _ | exact rc0_f2 (rc0_nb _ _) (rc0_nb _ _) | exact rc0_f2 (rc0_nb _ _) (rc0_uk _ _) | exact rc0_f2 (rc0_ob _ _ _) (rc0_uk _ _) | exact rc0_f2 (rc0_uk _ _) (rc0_f2 (rc0_uk _ _) (rc0_ob _ _ _))) c_44)) [0, 1, 2, 3, 4, 5, 6, 7, 8, 9, 10, 11, 12, 13, 14, 15] rfl (by decide) (fun _ => mW_adr _ _ _ _ _ _) rfl rfl rfl (by decide) hl.1 rfl rfl (Nat.le_of_ble_eq_true rfl) dX5_treaty_50 (by decide) (fun r_4 u_5 H locs hw_6 hP hD hS => ?_)
        replace hw_6 : r_4 = wTr_ (sn_ B) a b q ∧ u_5 = (rfm_ M (wTr_ (sn_ B) a b q)) := hw_6
        obtain ⟨hw_6a, hw_6b⟩ := hw_6
        subst r_4
        subst u_5
        replace hP : va_P D vwCl ([(r 0, .inr (5, [.ref (r 1), .ref (r 2), .ref (r 3), .ref (r 4), .ref (r 5), .ref (r 6), .int (nI (sn_ B)), .int (qt_ B), .int (il_ B), .int (pa_ B), .int (ho_ B), .int (dy_ B), .ref (r 13), .ref (r 14), .ref (r 15), .ref (r 16), .int (nI (mtn_ M)), .int (nI (mrd_ M)), .int (nI (msm_ M)), .ref (r 20), .int (mhi_ M), .int (mik_ M), .int (nI (mcu_ M)), .int (nI (mbk_ M)), .ref (r 25), .ref (r 26), .int (mlw_ M), .int (mhg_ M), .int (msl_ M), .ref (r 30), .int (nI (mrm_ M)), .ref (r 32), .int (mlo_ M)])), (r 1, .inl (cI, 7, .inl (rfx_ (mrf_ M) (wTr_ (sn_ B) a b q)))), (r 2, .inl (cI, 7, .inl (kd_ B))), (r 3, .inl (cI, 7, .inl (fg_ B))), (r 4, .inl (cI, 7, .inl (pl_ B))), (r 5, .inl (cI, 7, .inl (pw_ B))), (r 6, .inl (cI, 7, .inl (jy_ B))), (r 13, .inl (cI, 96, .inl (mtp_ M))), (r 14, .inl (cI, 48, .inl (mlt_ M))), (r 15, .inl (cI, 48, .inl (mla_ M))), (r 16, .inl (cI, 144, .inl (mtd_ M))), (r 20, .inl (cI, 451, .inl (flatK (mkp_ M)))), (r 25, .inl (cI, 7, .inl (mof_ M))), (r 26, .inl (cI, 7, .inl (mfa_ M))), (r 30, .inl (cI, 12, .inl (mrw_ M))), (r 32, .inl (cI, 8, .inl (mhb_ M)))]) H := (va_P.m [true, true, true, true, true, true, true, true, true, true, true, true, true, true, true, true] [] hP)
        refine rMi hx hb hr hlk hS (rfm_ M (wTr_ (sn_ B) a b q)) hP ?_ dX5_treaty_53
        first | exact ⟨(if_neg c_44).symm, oQ_n _ _⟩ | (refine ⟨?_, oQ_0 c_44 hNu.m⟩; rw [if_pos c_44]; simp only [tn_n (show a_ < 2147483648 by omega), tn_n (show b_ < 2147483648 by omega)]; unfold trX_; first | (have e0 : i = 0 := hq1.elim id (fun z => absurd c_128 z); subst e0; rw [if_pos c_128]; first | exact (b1_t c_133).symm | exact (b1_f c_133).symm) | (rw [if_neg c_128, ← hre, fz_s (by omega), if_pos c_144]; rfl) | (rw [if_neg (hq1.elim (fun z => by omega) id), ← hre, fz_0 (by omega)]; rfl))
  refine lv_aload_n hx hb dX5_treaty_0 rfl (lv_at hl 0 rfl) ?_
  refine lv_iload_n hx hb dX5_treaty_1 rfl (lv_at hl 1 rfl) ?_
  refine kSiV hx hb hml hown hts hK hP gX5_treaty_X5_isShore okX5_isShore (qX5_isShore l D cI cB r B M a (by show sn_ B ≤ 7; omega)) [0, 1, 2, 3, 4, 5, 6, 7, 8, 9, 10, 11, 12, 13, 14, 15] rfl rfl rfl rfl (by decide) hl.1 rfl rfl (Nat.le_of_ble_eq_true rfl) dX5_treaty_2 (by decide) (fun r_7 hr_8 => ?_)
  replace hr_8 : r_7 = b1 (0 ≤ a ∧ a < nI (sn_ B)) := hr_8
  subst r_7
  refine lv_if_eq (tgt := 21) hx hb dX5_treaty_5 (by decide) (fun c_5 => ?_) (fun c_5 => ?_)
  · replace c_5 := b1_z c_5
    refine lv_iconst (v := (-1)) hx hb dX5_treaty_21 (by decide) ?_
    refine lv_goto (tgt := 40) hx hb dX5_treaty_22 (by decide) ?_
    refine lv_istore (lv' := [(4, .int (-1)), (0, .ref (r 0)), (1, .int a), (2, .int b), (3, .int q)]) hx hb dX5_treaty_40 hl (by decide) rfl (fun ls hl => ?_)
    exact jn_42  (-1)  (by first | exact (tr_1 c_5).symm | exact (tr_2 c_5 c_13).symm | exact (tr_3 c_5 c_13 c_18).symm | exact (tr_4 c_5 c_13 c_18 c_31).symm | exact (tr_5 c_5 c_13 c_18 c_31).symm)   _ _ hP (va_D.adr hD0 (mW_adE rfl)) hS ls (lv_sub hl [0, 1, 2, 3, 4] rfl)
  · replace c_5 := b1_n c_5
    refine lv_aload_n hx hb dX5_treaty_8 rfl (lv_at hl 0 rfl) ?_
    refine lv_iload_n hx hb dX5_treaty_9 rfl (lv_at hl 2 rfl) ?_
    refine kSiV hx hb hml hown hts hK hP gX5_treaty_X5_isShore okX5_isShore (qX5_isShore l D cI cB r B M b (by show sn_ B ≤ 7; omega)) [0, 1, 2, 3, 4, 5, 6, 7, 8, 9, 10, 11, 12, 13, 14, 15] rfl rfl rfl rfl (by decide) hl.1 rfl rfl (Nat.le_of_ble_eq_true rfl) dX5_treaty_10 (by decide) (fun r_9 hr_10 => ?_)
    replace hr_10 : r_9 = b1 (0 ≤ b ∧ b < nI (sn_ B)) := hr_10
    subst r_9
    refine lv_if_eq (tgt := 21) hx hb dX5_treaty_13 (by decide) (fun c_13 => ?_) (fun c_13 => ?_)
    · replace c_13 := b1_z c_13
      refine lv_iconst (v := (-1)) hx hb dX5_treaty_21 (by decide) ?_
      refine lv_goto (tgt := 40) hx hb dX5_treaty_22 (by decide) ?_
      refine lv_istore (lv' := [(4, .int (-1)), (0, .ref (r 0)), (1, .int a), (2, .int b), (3, .int q)]) hx hb dX5_treaty_40 hl (by decide) rfl (fun ls hl => ?_)
      exact jn_42  (-1)  (by first | exact (tr_1 c_5).symm | exact (tr_2 c_5 c_13).symm | exact (tr_3 c_5 c_13 c_18).symm | exact (tr_4 c_5 c_13 c_18 c_31).symm | exact (tr_5 c_5 c_13 c_18 c_31).symm)   _ _ hP (va_D.adr hD0 (mW_adE rfl)) hS ls (lv_sub hl [0, 1, 2, 3, 4] rfl)
    · replace c_13 := b1_n c_13
      refine lv_iload_n hx hb dX5_treaty_16 rfl (lv_at hl 1 rfl) ?_
      refine lv_iload_n hx hb dX5_treaty_17 rfl (lv_at hl 2 rfl) ?_
      refine lv_icmp_ne (tgt := 25) hx hb dX5_treaty_18 (by decide) (fun c_18 => ?_) (fun c_18 => ?_)
      · skip
        refine lv_iload_n hx hb dX5_treaty_25 rfl (lv_at hl 3 rfl) ?_
        refine lv_iconst (v := 0) hx hb dX5_treaty_26 (by decide) ?_
        refine lv_iconst (v := 1) hx hb dX5_treaty_27 (by decide) ?_
        refine kSiS hx hb hml hown hts hK hP gX5_treaty_X5_isIn okX5_isIn (qX5_isIn l D cI cB q 0 1 ) [] rfl (by decide) hl.1 rfl rfl (Nat.le_of_ble_eq_true rfl) dX5_treaty_28 (by decide) (fun r_11 hr_12 => ?_)
        replace hr_12 : r_11 = b1 (0 ≤ q ∧ q ≤ 1) := hr_12
        subst r_11
        refine lv_if_ne (tgt := 39) hx hb dX5_treaty_31 (by decide) (fun c_31 => ?_) (fun c_31 => ?_)
        · replace c_31 := b1_n c_31
          refine lv_iconst (v := 0) hx hb dX5_treaty_39 (by decide) ?_
          refine lv_istore (lv' := [(4, .int 0), (0, .ref (r 0)), (1, .int a), (2, .int b), (3, .int q)]) hx hb dX5_treaty_40 hl (by decide) rfl (fun ls hl => ?_)
          exact jn_42  0  (by first | exact (tr_1 c_5).symm | exact (tr_2 c_5 c_13).symm | exact (tr_3 c_5 c_13 c_18).symm | exact (tr_4 c_5 c_13 c_18 c_31).symm | exact (tr_5 c_5 c_13 c_18 c_31).symm)   _ _ hP (va_D.adr hD0 (mW_adE rfl)) hS ls (lv_sub hl [0, 1, 2, 3, 4] rfl)
        · replace c_31 := b1_z c_31
          refine lv_bipush (v := (-2)) hx hb dX5_treaty_34 (by decide) ?_
          refine lv_goto (tgt := 40) hx hb dX5_treaty_36 (by decide) ?_
          refine lv_istore (lv' := [(4, .int (-2)), (0, .ref (r 0)), (1, .int a), (2, .int b), (3, .int q)]) hx hb dX5_treaty_40 hl (by decide) rfl (fun ls hl => ?_)
          exact jn_42  (-2)  (by first | exact (tr_1 c_5).symm | exact (tr_2 c_5 c_13).symm | exact (tr_3 c_5 c_13 c_18).symm | exact (tr_4 c_5 c_13 c_18 c_31).symm | exact (tr_5 c_5 c_13 c_18 c_31).symm)   _ _ hP (va_D.adr hD0 (mW_adE rfl)) hS ls (lv_sub hl [0, 1, 2, 3, 4] rfl)
      · skip
        refine lv_iconst (v := (-1)) hx hb dX5_treaty_21 (by decide) ?_
        refine lv_goto (tgt := 40) hx hb dX5_treaty_22 (by decide) ?_
        refine lv_istore (lv' := [(4, .int (-1)), (0, .ref (r 0)), (1, .int a), (2, .int b), (3, .int q)]) hx hb dX5_treaty_40 hl (by decide) rfl (fun ls hl => ?_)
        exact jn_42  (-1)  (by first | exact (tr_1 c_5).symm | exact (tr_2 c_5 c_13).symm | exact (tr_3 c_5 c_13 c_18).symm | exact (tr_4 c_5 c_13 c_18 c_31).symm | exact (tr_5 c_5 c_13 c_18 c_31).symm)   _ _ hP (va_D.adr hD0 (mW_adE rfl)) hS ls (lv_sub hl [0, 1, 2, 3, 4] rfl)

theorem okX5_loudHour : jok yX5_loudHour wsX5_loudHour cX5_loudHour 5 (some .int) 1 := ⟨⟨_, rfl⟩, by decide +kernel, by decide +kernel⟩
set_option maxHeartbeats 2000000 in
set_option maxRecDepth 100000 in
theorem qX5_loudHour (l : Launch) (D : va_G) (cI cB : ClassId) (r : Nat → Nat) (B : BayT) (M : MT) (q : Int32) (hI : bI_ B) : jMi D cI cB l yX5_loudHour wsX5_loudHour 4 [.ref (r 0), .int q] (mW cI r B M) (S := MT) (fun r u => r = (if uk_ q 1 = 0 then lhX_ B q else uk_ q 1) ∧ oQ_ M u (uk_ q 1)) (fun u => mW cI r B u) := by
  refine jMi.of (cc := cX5_loudHour) (maxL := 5) (ret := (some .int)) okX5_loudHour (Nat.le_of_ble_eq_true rfl) ?_
  intro p e s m below meth c ls A hx hb hr hts hown hlk hml hP hK hD hA hS hl
  replace hown : s.vm.findClass RX5 = some m.cls := hown
  replace hl : lv_has ls 5 [(0, .ref (r 0)), (1, .int q)] := hl
  have hD0 := hD
  have hn7 := hI.1
  refine lv_iload_n hx hb dX5_loudHour_0 rfl (lv_at hl 1 rfl) ?_
  refine lv_iconst (v := 0) hx hb dX5_loudHour_1 (by decide) ?_
  refine lv_iconst (v := 1) hx hb dX5_loudHour_2 (by decide) ?_
  refine kSiS hx hb hml hown hts hK hP gX5_loudHour_X5_isIn okX5_isIn (qX5_isIn l D cI cB q 0 1 ) [] rfl (by decide) hl.1 rfl rfl (Nat.le_of_ble_eq_true rfl) dX5_loudHour_3 (by decide) (fun r_1 hr_2 => ?_)
  replace hr_2 : r_1 = b1 (0 ≤ q ∧ q ≤ 1) := hr_2
  subst r_1
  refine lv_if_ne (tgt := 16) hx hb dX5_loudHour_6 (by decide) (fun c_6 => ?_) (fun c_6 => ?_)
  · replace c_6 := b1_n c_6
    refine lv_iconst (v := 0) hx hb dX5_loudHour_16 (by decide) ?_
    refine lv_istore_n (lv' := [(2, .int 0), (0, .ref (r 0)), (1, .int q)]) hx hb dX5_loudHour_17 rfl hl (by decide) rfl (fun ls hl => ?_)
    refine lv_iconst (v := 0) hx hb dX5_loudHour_18 (by decide) ?_
    refine lv_istore_n (lv' := [(3, .int 0), (2, .int 0), (0, .ref (r 0)), (1, .int q)]) hx hb dX5_loudHour_19 rfl hl (by decide) rfl (fun ls hl => ?_)
    refine lv_iconst (v := 0) hx hb dX5_loudHour_20 (by decide) ?_
    refine lv_istore (lv' := [(4, .int 0), (3, .int 0), (2, .int 0), (0, .ref (r 0)), (1, .int q)]) hx hb dX5_loudHour_21 hl (by decide) rfl (fun ls hl => ?_)
    have lp_23 : ∀ (fu_23 : Nat) (i : Nat) (x2_23 : Int32) (x3_23 : Int32) (x4_23 : Int32) , (x2_23 = nI (lh0_ B i)) → (x3_23 = bi_ (fun j => an_ B (nI j)) 0 i) → (x4_23 = nI i) → (i ≤ 24) → 24 - i < fu_23 → ∀ (H : Heap) (locs : List Loc), va_P D vwCl (mW cI r B M) H → va_D A (mW cI r B M) → va_S A s.heap H locs → ∀ ls : Array Slot, lv_has ls 5 [(4, .int x4_23), (3, .int x3_23), (2, .int x2_23), (0, .ref (r 0)), (1, .int q)] → W p l e (jR 4) s m ([.ref (r 0), .int q] : List Value).toArray below meth c H locs 0 0 (MQ below (va_Qi (S := MT) (fun r u => r = (if uk_ q 1 = 0 then lhX_ B q else uk_ q 1) ∧ oQ_ M u (uk_ q 1)) (fun u t => va_P D vwCl ((fun u => mW cI r B u) u) t.heap) A) ([.ref (r 0), .int q] : List Value).toArray s 0 0 A) (F0 m 23 ls []) := by
      intro fu_23
      induction fu_23 with
      | zero => intro i x2_23 x3_23 x4_23 hx2_23 hx3_23 hx4_23 hi hfu; exact absurd hfu (Nat.not_lt_zero _)
      | succ fu_23 ih_23 =>
        intro i x2_23 x3_23 x4_23 hx2_23 hx3_23 hx4_23 hi hfu_23 H locs hP hD hS ls hl
        subst x2_23
        subst x3_23
        subst x4_23
        replace hl : lv_has ls 5 [(4, .int (nI i)), (3, .int (bi_ (fun j => an_ B (nI j)) 0 i)), (2, .int (nI (lh0_ B i))), (0, .ref (r 0)), (1, .int q)] := hl
        replace hP : va_P D vwCl (mW cI r B M) H := hP
        refine lv_iload hx hb dX5_loudHour_23 (lv_at hl 0 rfl) ?_
        refine lv_bipush (v := 24) hx hb dX5_loudHour_25 (by decide) ?_
        refine lv_icmp_ge (tgt := 77) hx hb dX5_loudHour_27 (by decide) (fun c_27 => ?_) (fun c_27 => ?_)
        · replace c_27 : nI 24 ≤ nI i := c_27
          rw [jle (by omega) (by omega)] at c_27
          refine lv_iload_n hx hb dX5_loudHour_77 rfl (lv_at hl 4 rfl) ?_
          refine lv_if_ne (tgt := 85) hx hb dX5_loudHour_78 (by decide) (fun c_78 => ?_) (fun c_78 => ?_)
          · skip
            refine lv_iload_n hx hb dX5_loudHour_85 rfl (lv_at hl 1 rfl) ?_
            refine rMi hx hb hr hlk hS M hP ?_ dX5_loudHour_86
            first | (have hW : uk_ q 1 = -2 := uk_o c_6; rw [hW]; exact ⟨(if_neg (by decide)).symm, oQ_n _ _⟩) | (have hW : uk_ q 1 = 0 := uk_i c_6; rw [hW]; exact ⟨by (rw [if_pos rfl]; have e9 : i = 24 := (by omega); subst e9; unfold lhX_; first | (rw [if_pos c_78]; rfl) | (rw [if_neg c_78]; done)), oQ_0 rfl (by (first | exact (oN_mk (by assumption)).m | exact oM_.rf _ | exact (oN_pp _ _).m | exact (oN_fo _ _ _ _).m | assumption | (apply oN_.m; assumption) | exact oM_.tr (by assumption) (by assumption)))⟩)
          · skip
            refine lv_iload_n hx hb dX5_loudHour_81 rfl (lv_at hl 2 rfl) ?_
            refine lv_goto (tgt := 86) hx hb dX5_loudHour_82 (by decide) ?_
            refine rMi hx hb hr hlk hS M hP ?_ dX5_loudHour_86
            first | (have hW : uk_ q 1 = -2 := uk_o c_6; rw [hW]; exact ⟨(if_neg (by decide)).symm, oQ_n _ _⟩) | (have hW : uk_ q 1 = 0 := uk_i c_6; rw [hW]; exact ⟨by (rw [if_pos rfl]; have e9 : i = 24 := (by omega); subst e9; unfold lhX_; first | (rw [if_pos c_78]; rfl) | (rw [if_neg c_78]; done)), oQ_0 rfl (by (first | exact (oN_mk (by assumption)).m | exact oM_.rf _ | exact (oN_pp _ _).m | exact (oN_fo _ _ _ _).m | assumption | (apply oN_.m; assumption) | exact oM_.tr (by assumption) (by assumption)))⟩)
        · replace c_27 : ¬ nI 24 ≤ nI i := c_27
          rw [jle (by omega) (by omega)] at c_27
          refine lv_aload_n hx hb dX5_loudHour_30 rfl (lv_at hl 3 rfl) ?_
          refine lv_iload hx hb dX5_loudHour_31 (lv_at hl 0 rfl) ?_
          refine kSiV hx hb hml hown hts hK hP gX5_loudHour_X5_allNoise okX5_allNoise (qX5_allNoise l D cI cB r B M (nI i) hI) [0, 1, 2, 3, 4, 5, 6, 7, 8, 9, 10, 11, 12, 13, 14, 15] rfl rfl rfl rfl (by decide) hl.1 rfl rfl (Nat.le_of_ble_eq_true rfl) dX5_loudHour_33 (by decide) (fun r_3 hr_4 => ?_)
          replace hr_4 : r_3 = an_ B (nI i) := hr_4
          subst r_3
          refine lv_aload_n hx hb dX5_loudHour_36 rfl (lv_at hl 3 rfl) ?_
          refine lv_iload_n hx hb dX5_loudHour_37 rfl (lv_at hl 2 rfl) ?_
          refine kSiV hx hb hml hown hts hK hP gX5_loudHour_X5_allNoise okX5_allNoise (qX5_allNoise l D cI cB r B M (nI (lh0_ B i)) hI) [0, 1, 2, 3, 4, 5, 6, 7, 8, 9, 10, 11, 12, 13, 14, 15] rfl rfl rfl rfl (by decide) hl.1 rfl rfl (Nat.le_of_ble_eq_true rfl) dX5_loudHour_38 (by decide) (fun r_5 hr_6 => ?_)
          replace hr_6 : r_5 = an_ B (nI (lh0_ B i)) := hr_6
          subst r_5
          refine lv_icmp_le (tgt := 49) hx hb dX5_loudHour_41 (by decide) (fun c_41 => ?_) (fun c_41 => ?_)
          · have d_41 := Int32.not_lt.mpr c_41
            refine lv_iload_n hx hb dX5_loudHour_49 rfl (lv_at hl 2 rfl) ?_
            refine lv_istore_n (lv' := [(2, .int (nI (lh0_ B i))), (4, .int (nI i)), (3, .int (bi_ (fun j => an_ B (nI j)) 0 i)), (0, .ref (r 0)), (1, .int q)]) hx hb dX5_loudHour_50 rfl hl (by decide) rfl (fun ls hl => ?_)
            refine lv_iload_n hx hb dX5_loudHour_51 rfl (lv_at hl 2 rfl) ?_
            refine lv_aload_n hx hb dX5_loudHour_52 rfl (lv_at hl 3 rfl) ?_
            refine lv_iload hx hb dX5_loudHour_53 (lv_at hl 1 rfl) ?_
            refine kSiV hx hb hml hown hts hK hP gX5_loudHour_X5_allNoise okX5_allNoise (qX5_allNoise l D cI cB r B M (nI i) hI) [0, 1, 2, 3, 4, 5, 6, 7, 8, 9, 10, 11, 12, 13, 14, 15] rfl rfl rfl rfl (by decide) hl.1 rfl rfl (Nat.le_of_ble_eq_true rfl) dX5_loudHour_55 (by decide) (fun r_7 hr_8 => ?_)
            replace hr_8 : r_7 = an_ B (nI i) := hr_8
            subst r_7
            refine lv_if_ne (tgt := 68) hx hb dX5_loudHour_58 (by decide) (fun c_58 => ?_) (fun c_58 => ?_)
            · skip
              refine lv_iconst (v := 0) hx hb dX5_loudHour_68 (by decide) ?_
              refine lv_ior hx hb dX5_loudHour_69 ?_
              refine lv_istore_n (lv' := [(3, .int ((bi_ (fun j => an_ B (nI j)) 0 i) ||| 0)), (2, .int (nI (lh0_ B i))), (4, .int (nI i)), (0, .ref (r 0)), (1, .int q)]) hx hb dX5_loudHour_70 rfl hl (by decide) rfl (fun ls hl => ?_)
              refine lv_iinc (v := (nI i) + 1) (lv' := [(4, .int ((nI i) + 1)), (3, .int ((bi_ (fun j => an_ B (nI j)) 0 i) ||| 0)), (2, .int (nI (lh0_ B i))), (0, .ref (r 0)), (1, .int q)]) hx hb dX5_loudHour_71 hl (k := 2) rfl (by first | rfl | decide) (by decide) rfl (fun ls hl => ?_)
              refine lv_goto (tgt := 23) hx hb dX5_loudHour_74 (by decide) ?_
              exact ih_23 (i + 1) (nI (lh0_ B i)) ((bi_ (fun j => an_ B (nI j)) 0 i) ||| 0) ((nI i) + 1)  (by first | exact congrArg nI (lh0_y (Int32.not_le.mp c_41)) | exact congrArg nI (lh0_n (Int32.not_lt.mpr c_41))) (by first | exact bi_y (f := fun j => an_ B (nI j)) c_58 | exact bi_n (f := fun j => an_ B (nI j)) c_58) (by first | rfl | exact nI_1 _) (by omega) (by omega) _ _ hP (va_D.adr hD0 (mW_adE rfl)) hS ls (lv_sub hl [0, 1, 2, 3, 4] rfl)
            · skip
              refine lv_iconst (v := 1) hx hb dX5_loudHour_61 (by decide) ?_
              refine lv_iload hx hb dX5_loudHour_62 (lv_at hl 1 rfl) ?_
              refine lv_ishl hx hb dX5_loudHour_64 ?_
              refine lv_goto (tgt := 69) hx hb dX5_loudHour_65 (by decide) ?_
              refine lv_ior hx hb dX5_loudHour_69 ?_
              refine lv_istore_n (lv' := [(3, .int ((bi_ (fun j => an_ B (nI j)) 0 i) ||| (1 <<< ((nI i) &&& 31)))), (2, .int (nI (lh0_ B i))), (4, .int (nI i)), (0, .ref (r 0)), (1, .int q)]) hx hb dX5_loudHour_70 rfl hl (by decide) rfl (fun ls hl => ?_)
              refine lv_iinc (v := (nI i) + 1) (lv' := [(4, .int ((nI i) + 1)), (3, .int ((bi_ (fun j => an_ B (nI j)) 0 i) ||| (1 <<< ((nI i) &&& 31)))), (2, .int (nI (lh0_ B i))), (0, .ref (r 0)), (1, .int q)]) hx hb dX5_loudHour_71 hl (k := 2) rfl (by first | rfl | decide) (by decide) rfl (fun ls hl => ?_)
              refine lv_goto (tgt := 23) hx hb dX5_loudHour_74 (by decide) ?_
              exact ih_23 (i + 1) (nI (lh0_ B i)) ((bi_ (fun j => an_ B (nI j)) 0 i) ||| (1 <<< ((nI i) &&& 31))) ((nI i) + 1)  (by first | exact congrArg nI (lh0_y (Int32.not_le.mp c_41)) | exact congrArg nI (lh0_n (Int32.not_lt.mpr c_41))) (by first | exact bi_y (f := fun j => an_ B (nI j)) c_58 | exact bi_n (f := fun j => an_ B (nI j)) c_58) (by first | rfl | exact nI_1 _) (by omega) (by omega) _ _ hP (va_D.adr hD0 (mW_adE rfl)) hS ls (lv_sub hl [0, 1, 2, 3, 4] rfl)
          · have d_41 := Int32.not_le.mp c_41
            refine lv_iload hx hb dX5_loudHour_44 (lv_at hl 0 rfl) ?_
            refine lv_goto (tgt := 50) hx hb dX5_loudHour_46 (by decide) ?_
            refine lv_istore_n (lv' := [(2, .int (nI i)), (4, .int (nI i)), (3, .int (bi_ (fun j => an_ B (nI j)) 0 i)), (0, .ref (r 0)), (1, .int q)]) hx hb dX5_loudHour_50 rfl hl (by decide) rfl (fun ls hl => ?_)
            refine lv_iload_n hx hb dX5_loudHour_51 rfl (lv_at hl 2 rfl) ?_
            refine lv_aload_n hx hb dX5_loudHour_52 rfl (lv_at hl 3 rfl) ?_
            refine lv_iload hx hb dX5_loudHour_53 (lv_at hl 1 rfl) ?_
            refine kSiV hx hb hml hown hts hK hP gX5_loudHour_X5_allNoise okX5_allNoise (qX5_allNoise l D cI cB r B M (nI i) hI) [0, 1, 2, 3, 4, 5, 6, 7, 8, 9, 10, 11, 12, 13, 14, 15] rfl rfl rfl rfl (by decide) hl.1 rfl rfl (Nat.le_of_ble_eq_true rfl) dX5_loudHour_55 (by decide) (fun r_9 hr_10 => ?_)
            replace hr_10 : r_9 = an_ B (nI i) := hr_10
            subst r_9
            refine lv_if_ne (tgt := 68) hx hb dX5_loudHour_58 (by decide) (fun c_58 => ?_) (fun c_58 => ?_)
            · skip
              refine lv_iconst (v := 0) hx hb dX5_loudHour_68 (by decide) ?_
              refine lv_ior hx hb dX5_loudHour_69 ?_
              refine lv_istore_n (lv' := [(3, .int ((bi_ (fun j => an_ B (nI j)) 0 i) ||| 0)), (2, .int (nI i)), (4, .int (nI i)), (0, .ref (r 0)), (1, .int q)]) hx hb dX5_loudHour_70 rfl hl (by decide) rfl (fun ls hl => ?_)
              refine lv_iinc (v := (nI i) + 1) (lv' := [(4, .int ((nI i) + 1)), (3, .int ((bi_ (fun j => an_ B (nI j)) 0 i) ||| 0)), (2, .int (nI i)), (0, .ref (r 0)), (1, .int q)]) hx hb dX5_loudHour_71 hl (k := 2) rfl (by first | rfl | decide) (by decide) rfl (fun ls hl => ?_)
              refine lv_goto (tgt := 23) hx hb dX5_loudHour_74 (by decide) ?_
              exact ih_23 (i + 1) (nI i) ((bi_ (fun j => an_ B (nI j)) 0 i) ||| 0) ((nI i) + 1)  (by first | exact congrArg nI (lh0_y (Int32.not_le.mp c_41)) | exact congrArg nI (lh0_n (Int32.not_lt.mpr c_41))) (by first | exact bi_y (f := fun j => an_ B (nI j)) c_58 | exact bi_n (f := fun j => an_ B (nI j)) c_58) (by first | rfl | exact nI_1 _) (by omega) (by omega) _ _ hP (va_D.adr hD0 (mW_adE rfl)) hS ls (lv_sub hl [0, 1, 2, 3, 4] rfl)
            · skip
              refine lv_iconst (v := 1) hx hb dX5_loudHour_61 (by decide) ?_
              refine lv_iload hx hb dX5_loudHour_62 (lv_at hl 1 rfl) ?_
              refine lv_ishl hx hb dX5_loudHour_64 ?_
              refine lv_goto (tgt := 69) hx hb dX5_loudHour_65 (by decide) ?_
              refine lv_ior hx hb dX5_loudHour_69 ?_
              refine lv_istore_n (lv' := [(3, .int ((bi_ (fun j => an_ B (nI j)) 0 i) ||| (1 <<< ((nI i) &&& 31)))), (2, .int (nI i)), (4, .int (nI i)), (0, .ref (r 0)), (1, .int q)]) hx hb dX5_loudHour_70 rfl hl (by decide) rfl (fun ls hl => ?_)
              refine lv_iinc (v := (nI i) + 1) (lv' := [(4, .int ((nI i) + 1)), (3, .int ((bi_ (fun j => an_ B (nI j)) 0 i) ||| (1 <<< ((nI i) &&& 31)))), (2, .int (nI i)), (0, .ref (r 0)), (1, .int q)]) hx hb dX5_loudHour_71 hl (k := 2) rfl (by first | rfl | decide) (by decide) rfl (fun ls hl => ?_)
              refine lv_goto (tgt := 23) hx hb dX5_loudHour_74 (by decide) ?_
              exact ih_23 (i + 1) (nI i) ((bi_ (fun j => an_ B (nI j)) 0 i) ||| (1 <<< ((nI i) &&& 31))) ((nI i) + 1)  (by first | exact congrArg nI (lh0_y (Int32.not_le.mp c_41)) | exact congrArg nI (lh0_n (Int32.not_lt.mpr c_41))) (by first | exact bi_y (f := fun j => an_ B (nI j)) c_58 | exact bi_n (f := fun j => an_ B (nI j)) c_58) (by first | rfl | exact nI_1 _) (by omega) (by omega) _ _ hP (va_D.adr hD0 (mW_adE rfl)) hS ls (lv_sub hl [0, 1, 2, 3, 4] rfl)
    exact lp_23 (24 + 1) 0 0 0 0  (rfl) (rfl) (by first | rfl | exact nI_0.symm) (by omega) (by omega) _ _ hP (va_D.adr hD0 (mW_adE rfl)) hS ls (lv_sub hl [0, 1, 2, 3, 4] rfl)
  · replace c_6 := b1_z c_6
    refine lv_aload_n hx hb dX5_loudHour_9 rfl (lv_at hl 0 rfl) ?_
    refine lv_bipush (v := (-2)) hx hb dX5_loudHour_10 (by decide) ?_
    refine kMiV hx hb hml hown hts hK hP (va_D.adr hD0 (mW_adE rfl)) hA hS gX5_loudHour_X5_no okX5_no (qX5_no l D cI cB r B M (-2) (Or.inr (Or.inl rfl))) [0, 1, 2, 3, 4, 5, 6, 7, 8, 9, 10, 11, 12, 13, 14, 15] rfl (by decide) (fun _ => mW_adr _ _ _ _ _ _) rfl rfl rfl (by decide) hl.1 rfl rfl (Nat.le_of_ble_eq_true rfl) dX5_loudHour_12 (by decide) (fun r_11 u_12 H locs hw_13 hP hD hS => ?_)
    replace hw_13 : r_11 = (-2) ∧ u_12 = (rfm_ M (-2)) := hw_13
    obtain ⟨hw_13a, hw_13b⟩ := hw_13
    subst r_11
    subst u_12
    replace hP : va_P D vwCl ([(r 0, .inr (5, [.ref (r 1), .ref (r 2), .ref (r 3), .ref (r 4), .ref (r 5), .ref (r 6), .int (nI (sn_ B)), .int (qt_ B), .int (il_ B), .int (pa_ B), .int (ho_ B), .int (dy_ B), .ref (r 13), .ref (r 14), .ref (r 15), .ref (r 16), .int (nI (mtn_ M)), .int (nI (mrd_ M)), .int (nI (msm_ M)), .ref (r 20), .int (mhi_ M), .int (mik_ M), .int (nI (mcu_ M)), .int (nI (mbk_ M)), .ref (r 25), .ref (r 26), .int (mlw_ M), .int (mhg_ M), .int (msl_ M), .ref (r 30), .int (nI (mrm_ M)), .ref (r 32), .int (mlo_ M)])), (r 1, .inl (cI, 7, .inl (rfx_ (mrf_ M) (-2)))), (r 2, .inl (cI, 7, .inl (kd_ B))), (r 3, .inl (cI, 7, .inl (fg_ B))), (r 4, .inl (cI, 7, .inl (pl_ B))), (r 5, .inl (cI, 7, .inl (pw_ B))), (r 6, .inl (cI, 7, .inl (jy_ B))), (r 13, .inl (cI, 96, .inl (mtp_ M))), (r 14, .inl (cI, 48, .inl (mlt_ M))), (r 15, .inl (cI, 48, .inl (mla_ M))), (r 16, .inl (cI, 144, .inl (mtd_ M))), (r 20, .inl (cI, 451, .inl (flatK (mkp_ M)))), (r 25, .inl (cI, 7, .inl (mof_ M))), (r 26, .inl (cI, 7, .inl (mfa_ M))), (r 30, .inl (cI, 12, .inl (mrw_ M))), (r 32, .inl (cI, 8, .inl (mhb_ M)))]) H := (va_P.m [true, true, true, true, true, true, true, true, true, true, true, true, true, true, true, true] [] hP)
    refine rMi hx hb hr hlk hS (rfm_ M (-2)) hP ?_ dX5_loudHour_15
    first | (have hW : uk_ q 1 = -2 := uk_o c_6; rw [hW]; exact ⟨(if_neg (by decide)).symm, oQ_n _ _⟩) | (have hW : uk_ q 1 = 0 := uk_i c_6; rw [hW]; exact ⟨by (rw [if_pos rfl]; have e9 : i = 24 := (by omega); subst e9; unfold lhX_; first | (rw [if_pos c_78]; rfl) | (rw [if_neg c_78]; done)), oQ_0 rfl (by (first | exact (oN_mk (by assumption)).m | exact oM_.rf _ | exact (oN_pp _ _).m | exact (oN_fo _ _ _ _).m | assumption | (apply oN_.m; assumption) | exact oM_.tr (by assumption) (by assumption)))⟩)

theorem okX5_mean : jok yX5_mean wsX5_mean cX5_mean 5 (some .long) 1 := ⟨⟨_, rfl⟩, by decide +kernel, by decide +kernel⟩
set_option maxHeartbeats 2000000 in
set_option maxRecDepth 100000 in
theorem qX5_mean (l : Launch) (D : va_G) (cI cB : ClassId) (r : Nat → Nat) (B : BayT) (M : MT) (p_9 : Int32) (hI : bI_ B) : jMl D cI cB l yX5_mean wsX5_mean 2 [.ref (r 0), .int p_9] (mW cI r B M) (S := MT) (fun r u => r = (if uk_ p_9 1 = 0 then it_ ((su_ (pl_ B) (sn_ B) : Int32).toInt64) ((mx1_ (sn_ B) : Int32).toInt64) p_9 else lref_ (uk_ p_9 1)) ∧ oQ_ M u (uk_ p_9 1)) (fun u => mW cI r B u) := by
  refine jMl.of (cc := cX5_mean) (maxL := 5) (ret := (some .long)) okX5_mean (Nat.le_of_ble_eq_true rfl) ?_
  intro p e s m below meth c ls A hx hb hr hts hown hlk hml hP hK hD hA hS hl
  replace hown : s.vm.findClass RX5 = some m.cls := hown
  replace hl : lv_has ls 5 [(0, .ref (r 0)), (1, .int p_9)] := hl
  have hD0 := hD
  have hn7 := hI.1
  have hinX5 : ∀ w ∈ wsX50, w ∈ wsX5_mean := by decide +kernel
  refine lv_iload_n hx hb dX5_mean_0 rfl (lv_at hl 1 rfl) ?_
  refine lv_iconst (v := 0) hx hb dX5_mean_1 (by decide) ?_
  refine lv_iconst (v := 1) hx hb dX5_mean_2 (by decide) ?_
  refine kSiS hx hb hml hown hts hK hP gX5_mean_X5_isIn okX5_isIn (qX5_isIn l D cI cB p_9 0 1 ) [] rfl (by decide) hl.1 rfl rfl (Nat.le_of_ble_eq_true rfl) dX5_mean_3 (by decide) (fun r_1 hr_2 => ?_)
  replace hr_2 : r_1 = b1 (0 ≤ p_9 ∧ p_9 ≤ 1) := hr_2
  subst r_1
  refine lv_if_ne (tgt := 16) hx hb dX5_mean_6 (by decide) (fun c_6 => ?_) (fun c_6 => ?_)
  · replace c_6 := b1_n c_6
    refine lv_lconst (v := 0) hx hb dX5_mean_16 rfl ?_
    refine lv_lstore_n (lv' := [(2, .long 0), (0, .ref (r 0)), (1, .int p_9)]) hx hb dX5_mean_17 rfl hl (by decide) rfl (fun ls hl => ?_)
    refine lv_iconst (v := 0) hx hb dX5_mean_18 (by decide) ?_
    refine lv_istore (lv' := [(4, .int 0), (2, .long 0), (0, .ref (r 0)), (1, .int p_9)]) hx hb dX5_mean_19 hl (by decide) rfl (fun ls hl => ?_)
    have lp_21 : ∀ (fu_21 : Nat) (i : Nat) (x2_21 : Int64) (x4_21 : Int32) , (x2_21 = (su_ (pl_ B) i).toInt64) → (x4_21 = nI i) → (i ≤ sn_ B) → sn_ B - i < fu_21 → ∀ (H : Heap) (locs : List Loc), va_P D vwCl (mW cI r B M) H → va_D A (mW cI r B M) → va_S A s.heap H locs → ∀ ls : Array Slot, lv_has ls 5 [(4, .int x4_21), (2, .long x2_21), (0, .ref (r 0)), (1, .int p_9)] → W p l e (jR 2) s m ([.ref (r 0), .int p_9] : List Value).toArray below meth c H locs 0 0 (MQ below (va_Ql (S := MT) (fun r u => r = (if uk_ p_9 1 = 0 then it_ ((su_ (pl_ B) (sn_ B) : Int32).toInt64) ((mx1_ (sn_ B) : Int32).toInt64) p_9 else lref_ (uk_ p_9 1)) ∧ oQ_ M u (uk_ p_9 1)) (fun u t => va_P D vwCl ((fun u => mW cI r B u) u) t.heap) A) ([.ref (r 0), .int p_9] : List Value).toArray s 0 0 A) (F0 m 21 ls []) := by
      intro fu_21
      induction fu_21 with
      | zero => intro i x2_21 x4_21 hx2_21 hx4_21 hi hfu; exact absurd hfu (Nat.not_lt_zero _)
      | succ fu_21 ih_21 =>
        intro i x2_21 x4_21 hx2_21 hx4_21 hi hfu_21 H locs hP hD hS ls hl
        subst x2_21
        subst x4_21
        replace hl : lv_has ls 5 [(4, .int (nI i)), (2, .long ((su_ (pl_ B) i).toInt64)), (0, .ref (r 0)), (1, .int p_9)] := hl
        replace hP : va_P D vwCl (mW cI r B M) H := hP
        refine lv_iload hx hb dX5_mean_21 (lv_at hl 0 rfl) ?_
        refine lv_aload_n hx hb dX5_mean_23 rfl (lv_at hl 2 rfl) ?_
        refine va_get (ci := 5) (C := RX5) (T := TX5) (N := 33) hx hb hts hinX5 hown hK.1 hP 0 rfl rfl 6 (by decide) (hts _ (List.mem_of_getElem? (i := 1) rfl)) (fun _ h9 => h9) rfl dX5_mean_24 ?_
        refine lv_icmp_ge (tgt := 47) hx hb dX5_mean_27 (by decide) (fun c_27 => ?_) (fun c_27 => ?_)
        · replace c_27 : nI (sn_ B) ≤ nI i := c_27
          rw [jle (by omega) (by omega)] at c_27
          refine lv_aload_n hx hb dX5_mean_47 rfl (lv_at hl 2 rfl) ?_
          refine va_get (ci := 5) (C := RX5) (T := TX5) (N := 33) hx hb hts hinX5 hown hK.1 hP 0 rfl rfl 6 (by decide) (hts _ (List.mem_of_getElem? (i := 1) rfl)) (fun _ h9 => h9) rfl dX5_mean_48 ?_
          refine lv_if_ne (tgt := 59) hx hb dX5_mean_51 (by decide) (fun c_51 => ?_) (fun c_51 => ?_)
          · replace c_51 : ¬ nI (sn_ B) = nI 0 := c_51
            rw [jeq (by omega) (by omega)] at c_51
            refine lv_lload_n hx hb dX5_mean_59 rfl (lv_at hl 1 rfl) ?_
            refine lv_aload_n hx hb dX5_mean_60 rfl (lv_at hl 2 rfl) ?_
            refine va_get (ci := 5) (C := RX5) (T := TX5) (N := 33) hx hb hts hinX5 hown hK.1 hP 0 rfl rfl 6 (by decide) (hts _ (List.mem_of_getElem? (i := 1) rfl)) (fun _ h9 => h9) rfl dX5_mean_61 ?_
            refine lv_i2l (v := (nI (sn_ B) : Int32).toInt64) hx hb dX5_mean_64 rfl ?_
            refine lv_iload_n hx hb dX5_mean_65 rfl (lv_at hl 3 rfl) ?_
            refine kSlS hx hb hml hown hts hK hP gX5_mean_X5_partOf okX5_partOf (qX5_partOf l D cI cB ((su_ (pl_ B) i).toInt64) ((nI (sn_ B) : Int32).toInt64) p_9 (by rw [show i = sn_ B by omega]; exact su_N hI) ⟨sn_ B, Nat.pos_of_ne_zero c_51, by omega, nI_l (by omega)⟩) [] rfl (by decide) hl.1 rfl rfl (Nat.le_of_ble_eq_true rfl) dX5_mean_66 (by decide) (fun r_3 hr_4 => ?_)
            replace hr_4 : r_3 = it_ ((su_ (pl_ B) i).toInt64) ((nI (sn_ B) : Int32).toInt64) p_9 := hr_4
            subst r_3
            refine rMl hx hb hr hlk hS M hP ?_ dX5_mean_69
            first | (have hW : uk_ p_9 1 = -2 := uk_o c_6; rw [hW]; exact ⟨(if_neg (by decide)).symm, oQ_n _ _⟩) | (have hW : uk_ p_9 1 = 0 := uk_i c_6; rw [hW]; exact ⟨by (rw [if_pos rfl]; have e9 : i = sn_ B := (by omega); subst e9; first | (rw [mx_n (Nat.pos_of_ne_zero c_51) hn7]; done) | exact mean_0 c_51 (uk_0.mp hW)), oQ_0 rfl (by (first | exact (oN_mk (by assumption)).m | exact oM_.rf _ | exact (oN_pp _ _).m | exact (oN_fo _ _ _ _).m | assumption | (apply oN_.m; assumption) | exact oM_.tr (by assumption) (by assumption)))⟩)
          · replace c_51 : nI (sn_ B) = nI 0 := c_51
            rw [jeq (by omega) (by omega)] at c_51
            refine lv_iload_n hx hb dX5_mean_54 rfl (lv_at hl 3 rfl) ?_
            refine lv_i2l (v := (p_9 : Int32).toInt64) hx hb dX5_mean_55 rfl ?_
            refine lv_goto (tgt := 69) hx hb dX5_mean_56 (by decide) ?_
            refine rMl hx hb hr hlk hS M hP ?_ dX5_mean_69
            first | (have hW : uk_ p_9 1 = -2 := uk_o c_6; rw [hW]; exact ⟨(if_neg (by decide)).symm, oQ_n _ _⟩) | (have hW : uk_ p_9 1 = 0 := uk_i c_6; rw [hW]; exact ⟨by (rw [if_pos rfl]; have e9 : i = sn_ B := (by omega); subst e9; first | (rw [mx_n (Nat.pos_of_ne_zero c_51) hn7]; done) | exact mean_0 c_51 (uk_0.mp hW)), oQ_0 rfl (by (first | exact (oN_mk (by assumption)).m | exact oM_.rf _ | exact (oN_pp _ _).m | exact (oN_fo _ _ _ _).m | assumption | (apply oN_.m; assumption) | exact oM_.tr (by assumption) (by assumption)))⟩)
        · replace c_27 : ¬ nI (sn_ B) ≤ nI i := c_27
          rw [jle (by omega) (by omega)] at c_27
          refine lv_lload_n hx hb dX5_mean_30 rfl (lv_at hl 1 rfl) ?_
          refine lv_aload_n hx hb dX5_mean_31 rfl (lv_at hl 2 rfl) ?_
          refine va_get (ci := 5) (C := RX5) (T := TX5) (N := 33) hx hb hts hinX5 hown hK.1 hP 0 rfl rfl 3 (by decide) (hts _ (List.mem_of_getElem? (i := 2) rfl)) (fun _ h9 => h9) rfl dX5_mean_32 ?_
          refine lv_iload hx hb dX5_mean_35 (lv_at hl 0 rfl) ?_
          refine jald hx hb hK.1 hP 4 0 i rfl rfl rfl (by omega) (Nat.le_of_ble_eq_true rfl) dX5_mean_37 ?_
          refine lv_i2l (v := ((pl_ B) i : Int32).toInt64) hx hb dX5_mean_38 rfl ?_
          refine lv_ladd hx hb dX5_mean_39 ?_
          refine lv_lstore_n (lv' := [(2, .long (((su_ (pl_ B) i).toInt64) + (((pl_ B) i : Int32).toInt64))), (4, .int (nI i)), (0, .ref (r 0)), (1, .int p_9)]) hx hb dX5_mean_40 rfl hl (by decide) rfl (fun ls hl => ?_)
          refine lv_iinc (v := (nI i) + 1) (lv' := [(4, .int ((nI i) + 1)), (2, .long (((su_ (pl_ B) i).toInt64) + (((pl_ B) i : Int32).toInt64))), (0, .ref (r 0)), (1, .int p_9)]) hx hb dX5_mean_41 hl (k := 1) rfl (by first | rfl | decide) (by decide) rfl (fun ls hl => ?_)
          refine lv_goto (tgt := 21) hx hb dX5_mean_44 (by decide) ?_
          exact ih_21 (i + 1) (((su_ (pl_ B) i).toInt64) + (((pl_ B) i : Int32).toInt64)) ((nI i) + 1)  (su_l hI (by omega)) (by first | rfl | exact nI_1 _) (by omega) (by omega) _ _ hP (va_D.adr hD0 (mW_adE rfl)) hS ls (lv_sub hl [0, 1, 2, 3] rfl)
    exact lp_21 ((sn_ B) + 1) 0 0 0  (rfl) (by first | rfl | exact nI_0.symm) (by omega) (by omega) _ _ hP (va_D.adr hD0 (mW_adE rfl)) hS ls (lv_sub hl [0, 1, 2, 3] rfl)
  · replace c_6 := b1_z c_6
    refine lv_aload_n hx hb dX5_mean_9 rfl (lv_at hl 0 rfl) ?_
    refine lv_bipush (v := (-2)) hx hb dX5_mean_10 (by decide) ?_
    refine kMlV hx hb hml hown hts hK hP (va_D.adr hD0 (mW_adE rfl)) hA hS gX5_mean_X5_lowestOf okX5_lowestOf (qX5_lowestOf l D cI cB r B M (-2) (Or.inr (Or.inl rfl))) [0, 1, 2, 3, 4, 5, 6, 7, 8, 9, 10, 11, 12, 13, 14, 15] rfl (by decide) (fun _ => mW_adr _ _ _ _ _ _) rfl rfl rfl (by decide) hl.1 rfl rfl (Nat.le_of_ble_eq_true rfl) dX5_mean_12 (by decide) (fun r_5 u_6 H locs hw_7 hP hD hS => ?_)
    replace hw_7 : r_5 = lref_ (-2) ∧ u_6 = (rfm_ M (-2)) := hw_7
    obtain ⟨hw_7a, hw_7b⟩ := hw_7
    subst r_5
    subst u_6
    replace hP : va_P D vwCl ([(r 0, .inr (5, [.ref (r 1), .ref (r 2), .ref (r 3), .ref (r 4), .ref (r 5), .ref (r 6), .int (nI (sn_ B)), .int (qt_ B), .int (il_ B), .int (pa_ B), .int (ho_ B), .int (dy_ B), .ref (r 13), .ref (r 14), .ref (r 15), .ref (r 16), .int (nI (mtn_ M)), .int (nI (mrd_ M)), .int (nI (msm_ M)), .ref (r 20), .int (mhi_ M), .int (mik_ M), .int (nI (mcu_ M)), .int (nI (mbk_ M)), .ref (r 25), .ref (r 26), .int (mlw_ M), .int (mhg_ M), .int (msl_ M), .ref (r 30), .int (nI (mrm_ M)), .ref (r 32), .int (mlo_ M)])), (r 1, .inl (cI, 7, .inl (rfx_ (mrf_ M) (-2)))), (r 2, .inl (cI, 7, .inl (kd_ B))), (r 3, .inl (cI, 7, .inl (fg_ B))), (r 4, .inl (cI, 7, .inl (pl_ B))), (r 5, .inl (cI, 7, .inl (pw_ B))), (r 6, .inl (cI, 7, .inl (jy_ B))), (r 13, .inl (cI, 96, .inl (mtp_ M))), (r 14, .inl (cI, 48, .inl (mlt_ M))), (r 15, .inl (cI, 48, .inl (mla_ M))), (r 16, .inl (cI, 144, .inl (mtd_ M))), (r 20, .inl (cI, 451, .inl (flatK (mkp_ M)))), (r 25, .inl (cI, 7, .inl (mof_ M))), (r 26, .inl (cI, 7, .inl (mfa_ M))), (r 30, .inl (cI, 12, .inl (mrw_ M))), (r 32, .inl (cI, 8, .inl (mhb_ M)))]) H := (va_P.m [true, true, true, true, true, true, true, true, true, true, true, true, true, true, true, true] [] hP)
    refine rMl hx hb hr hlk hS (rfm_ M (-2)) hP ?_ dX5_mean_15
    first | (have hW : uk_ p_9 1 = -2 := uk_o c_6; rw [hW]; exact ⟨(if_neg (by decide)).symm, oQ_n _ _⟩) | (have hW : uk_ p_9 1 = 0 := uk_i c_6; rw [hW]; exact ⟨by (rw [if_pos rfl]; have e9 : i = sn_ B := (by omega); subst e9; first | (rw [mx_n (Nat.pos_of_ne_zero c_51) hn7]; done) | exact mean_0 c_51 (uk_0.mp hW)), oQ_0 rfl (by (first | exact (oN_mk (by assumption)).m | exact oM_.rf _ | exact (oN_pp _ _).m | exact (oN_fo _ _ _ _).m | assumption | (apply oN_.m; assumption) | exact oM_.tr (by assumption) (by assumption)))⟩)

theorem okX5_gap : jok yX5_gap wsX5_gap cX5_gap 6 (some .int) 1 := ⟨⟨_, rfl⟩, by decide +kernel, by decide +kernel⟩
set_option maxHeartbeats 2000000 in
set_option maxRecDepth 100000 in
theorem qX5_gap (l : Launch) (D : va_G) (cI cB : ClassId) (r : Nat → Nat) (B : BayT) (M : MT) (q : Int32) (hI : bI_ B) : jMi D cI cB l yX5_gap wsX5_gap 1 [.ref (r 0), .int q] (mW cI r B M) (S := MT) (fun r u => r = (if uk_ q 1 = 0 then (if q = 1 then oI_ (wg_ B 31).1 else gWg_ B) else uk_ q 1) ∧ oQ_ M u (uk_ q 1)) (fun u => mW cI r B u) := by
  refine jMi.of (cc := cX5_gap) (maxL := 6) (ret := (some .int)) okX5_gap (Nat.le_of_ble_eq_true rfl) ?_
  intro p e s m below meth c ls A hx hb hr hts hown hlk hml hP hK hD hA hS hl
  replace hown : s.vm.findClass RX5 = some m.cls := hown
  replace hl : lv_has ls 6 [(0, .ref (r 0)), (1, .int q)] := hl
  have hD0 := hD
  have hn7 := hI.1
  refine lv_iload_n hx hb dX5_gap_0 rfl (lv_at hl 1 rfl) ?_
  refine lv_iconst (v := 0) hx hb dX5_gap_1 (by decide) ?_
  refine lv_iconst (v := 1) hx hb dX5_gap_2 (by decide) ?_
  refine kSiS hx hb hml hown hts hK hP gX5_gap_X5_isIn okX5_isIn (qX5_isIn l D cI cB q 0 1 ) [] rfl (by decide) hl.1 rfl rfl (Nat.le_of_ble_eq_true rfl) dX5_gap_3 (by decide) (fun r_1 hr_2 => ?_)
  replace hr_2 : r_1 = b1 (0 ≤ q ∧ q ≤ 1) := hr_2
  subst r_1
  refine lv_if_ne (tgt := 16) hx hb dX5_gap_6 (by decide) (fun c_6 => ?_) (fun c_6 => ?_)
  · replace c_6 := b1_n c_6
    refine lv_bipush (v := (-9)) hx hb dX5_gap_16 (by decide) ?_
    refine lv_istore_n (lv' := [(2, .int (-9)), (0, .ref (r 0)), (1, .int q)]) hx hb dX5_gap_18 rfl hl (by decide) rfl (fun ls hl => ?_)
    refine lv_bipush (v := (-9)) hx hb dX5_gap_19 (by decide) ?_
    refine lv_istore_n (lv' := [(3, .int (-9)), (2, .int (-9)), (0, .ref (r 0)), (1, .int q)]) hx hb dX5_gap_21 rfl hl (by decide) rfl (fun ls hl => ?_)
    refine lv_bipush (v := (-9)) hx hb dX5_gap_22 (by decide) ?_
    refine lv_istore (lv' := [(4, .int (-9)), (3, .int (-9)), (2, .int (-9)), (0, .ref (r 0)), (1, .int q)]) hx hb dX5_gap_24 hl (by decide) rfl (fun ls hl => ?_)
    refine lv_iconst (v := 0) hx hb dX5_gap_26 (by decide) ?_
    refine lv_istore (lv' := [(5, .int 0), (4, .int (-9)), (3, .int (-9)), (2, .int (-9)), (0, .ref (r 0)), (1, .int q)]) hx hb dX5_gap_27 hl (by decide) rfl (fun ls hl => ?_)
    have lp_29 : ∀ (fu_29 : Nat) (i : Nat) (x2_29 : Int32) (x3_29 : Int32) (x4_29 : Int32) (x5_29 : Int32) , (x2_29 = oI_ (g3_ B i).1) → (x3_29 = (g3_ B i).2.2) → (x4_29 = oI_ (g3_ B i).2.1) → (x5_29 = nI i) → (i ≤ 31) → 31 - i < fu_29 → ∀ (H : Heap) (locs : List Loc), va_P D vwCl (mW cI r B M) H → va_D A (mW cI r B M) → va_S A s.heap H locs → ∀ ls : Array Slot, lv_has ls 6 [(5, .int x5_29), (4, .int x4_29), (3, .int x3_29), (2, .int x2_29), (0, .ref (r 0)), (1, .int q)] → W p l e (jR 1) s m ([.ref (r 0), .int q] : List Value).toArray below meth c H locs 0 0 (MQ below (va_Qi (S := MT) (fun r u => r = (if uk_ q 1 = 0 then (if q = 1 then oI_ (wg_ B 31).1 else gWg_ B) else uk_ q 1) ∧ oQ_ M u (uk_ q 1)) (fun u t => va_P D vwCl ((fun u => mW cI r B u) u) t.heap) A) ([.ref (r 0), .int q] : List Value).toArray s 0 0 A) (F0 m 29 ls []) := by
      intro fu_29
      induction fu_29 with
      | zero => intro i x2_29 x3_29 x4_29 x5_29 hx2_29 hx3_29 hx4_29 hx5_29 hi hfu; exact absurd hfu (Nat.not_lt_zero _)
      | succ fu_29 ih_29 =>
        intro i x2_29 x3_29 x4_29 x5_29 hx2_29 hx3_29 hx4_29 hx5_29 hi hfu_29 H locs hP hD hS ls hl
        subst x2_29
        subst x3_29
        subst x4_29
        subst x5_29
        replace hl : lv_has ls 6 [(5, .int (nI i)), (4, .int (oI_ (g3_ B i).2.1)), (3, .int ((g3_ B i).2.2)), (2, .int (oI_ (g3_ B i).1)), (0, .ref (r 0)), (1, .int q)] := hl
        replace hP : va_P D vwCl (mW cI r B M) H := hP
        rcases hL : (g3_ B i).1 with _ | t
        · rw [hL] at hl
          replace hl : lv_has ls 6 [(5, .int (nI i)), (4, .int (oI_ (g3_ B i).2.1)), (3, .int ((g3_ B i).2.2)), (2, .int (-9)), (0, .ref (r 0)), (1, .int q)] := hl
          refine lv_iload hx hb dX5_gap_29 (lv_at hl 0 rfl) ?_
          refine lv_bipush (v := 30) hx hb dX5_gap_31 (by decide) ?_
          refine lv_icmp_gt (tgt := 77) hx hb dX5_gap_33 (by decide) (fun c_33 => ?_) (fun c_33 => ?_)
          · replace c_33 : nI 30 < nI i := c_33
            rw [jlt (by omega) (by omega)] at c_33
            refine lv_iload_n hx hb dX5_gap_77 rfl (lv_at hl 5 rfl) ?_
            refine lv_if_ne (tgt := 85) hx hb dX5_gap_78 (by decide) (fun c_78 => ?_) (fun c_78 => ?_)
            · skip
              refine lv_iload hx hb dX5_gap_85 (lv_at hl 1 rfl) ?_
              refine rMi hx hb hr hlk hS M hP ?_ dX5_gap_87
              first | (have hW : uk_ q 1 = -2 := uk_o c_6; rw [hW]; exact ⟨(if_neg (by decide)).symm, oQ_n _ _⟩) | (have hW : uk_ q 1 = 0 := uk_i c_6; rw [hW]; exact ⟨by (rw [if_pos rfl]; have e9 : i = 31 := (by omega); subst e9; first | (rw [if_neg (by rw [c_78]; decide)]; exact (g3_wg B).2) | (rw [if_pos (q1n_ c_6 c_78)]; exact (g3_wg B).1)), oQ_0 rfl (by (first | exact (oN_mk (by assumption)).m | exact oM_.rf _ | exact (oN_pp _ _).m | exact (oN_fo _ _ _ _).m | assumption | (apply oN_.m; assumption) | exact oM_.tr (by assumption) (by assumption)))⟩)
            · skip
              refine lv_iload_n hx hb dX5_gap_81 rfl (lv_at hl 2 rfl) ?_
              refine lv_goto (tgt := 87) hx hb dX5_gap_82 (by decide) ?_
              refine rMi hx hb hr hlk hS M hP ?_ dX5_gap_87
              first | (have hW : uk_ q 1 = -2 := uk_o c_6; rw [hW]; exact ⟨(if_neg (by decide)).symm, oQ_n _ _⟩) | (have hW : uk_ q 1 = 0 := uk_i c_6; rw [hW]; exact ⟨by (rw [if_pos rfl]; have e9 : i = 31 := (by omega); subst e9; first | (rw [if_neg (by rw [c_78]; decide)]; exact (g3_wg B).2) | (rw [if_pos (q1n_ c_6 c_78)]; exact (g3_wg B).1)), oQ_0 rfl (by (first | exact (oN_mk (by assumption)).m | exact oM_.rf _ | exact (oN_pp _ _).m | exact (oN_fo _ _ _ _).m | assumption | (apply oN_.m; assumption) | exact oM_.tr (by assumption) (by assumption)))⟩)
          · replace c_33 : ¬ nI 30 < nI i := c_33
            rw [jlt (by omega) (by omega)] at c_33
            refine lv_aload_n hx hb dX5_gap_36 rfl (lv_at hl 4 rfl) ?_
            refine lv_iload hx hb dX5_gap_37 (lv_at hl 0 rfl) ?_
            refine kSiV hx hb hml hown hts hK hP gX5_gap_X5_shoreAt okX5_shoreAt (qX5_shoreAt l D cI cB r B M (nI i) (by show sn_ B ≤ 7; omega)) [0, 1, 2, 3, 4, 5, 6, 7, 8, 9, 10, 11, 12, 13, 14, 15] rfl rfl rfl rfl (by decide) hl.1 rfl rfl (Nat.le_of_ble_eq_true rfl) dX5_gap_39 (by decide) (fun r_3 hr_4 => ?_)
            replace hr_4 : r_3 = oI_ (sa_ B (nI i)) := hr_4
            subst r_3
            refine lv_if_ge (tgt := 48) hx hb dX5_gap_42 (by decide) (fun c_42 => ?_) (fun c_42 => ?_)
            · replace c_42 : ¬ sa_ B (nI i) = none := fun z => absurd c_42 (Int32.not_le.mpr ((oI_lt0 (sa_b hn7)).mpr z))
              refine lv_iload_n hx hb dX5_gap_48 rfl (lv_at hl 3 rfl) ?_
              refine lv_if_lt (tgt := 68) hx hb dX5_gap_49 (by decide) (fun _ => ?_) (fun q => absurd q (by decide))
              refine lv_iload hx hb dX5_gap_68 (lv_at hl 0 rfl) ?_
              refine lv_istore_n (lv' := [(2, .int (nI i)), (5, .int (nI i)), (4, .int (oI_ (g3_ B i).2.1)), (3, .int ((g3_ B i).2.2)), (0, .ref (r 0)), (1, .int q)]) hx hb dX5_gap_70 rfl hl (by decide) rfl (fun ls hl => ?_)
              refine lv_iinc (v := (nI i) + 1) (lv' := [(5, .int ((nI i) + 1)), (2, .int (nI i)), (4, .int (oI_ (g3_ B i).2.1)), (3, .int ((g3_ B i).2.2)), (0, .ref (r 0)), (1, .int q)]) hx hb dX5_gap_71 hl (k := 1) rfl (by first | rfl | decide) (by decide) rfl (fun ls hl => ?_)
              refine lv_goto (tgt := 29) hx hb dX5_gap_74 (by decide) ?_
              exact ih_29 (i + 1) (nI i) ((g3_ B i).2.2) (oI_ (g3_ B i).2.1) ((nI i) + 1)  (by first | exact (g3_a2 c_42 hL).symm | exact (g3_b2 c_42).symm) (by first | exact (congrArg (fun x => x.2.2) (g3_a c_42)).symm | exact (congrArg (fun x => x.2) (g3_b c_42 hL)).symm | exact (congrArg (fun x => x.2) (g3_c c_42 hL (Int32.not_le.mp c_57))).symm | exact (congrArg (fun x => x.2) (g3_d c_42 hL (Int32.not_lt.mpr c_57))).symm) (by first | exact (congrArg (fun x => oI_ x.2.1) (g3_a c_42)).symm | exact (congrArg (fun x => oI_ x.1) (g3_b c_42 hL)).symm | exact (congrArg (fun x => oI_ x.1) (g3_c c_42 hL (Int32.not_le.mp c_57))).symm | exact (congrArg (fun x => oI_ x.1) (g3_d c_42 hL (Int32.not_lt.mpr c_57))).symm) (by first | rfl | exact nI_1 _) (by omega) (by omega) _ _ hP (va_D.adr hD0 (mW_adE rfl)) hS ls (lv_sub hl [0, 2, 3, 1, 4, 5] rfl)
            · replace c_42 : sa_ B (nI i) = none := (oI_lt0 (sa_b hn7)).mp (Int32.not_le.mp c_42)
              refine lv_goto (tgt := 71) hx hb dX5_gap_45 (by decide) ?_
              refine lv_iinc (v := (nI i) + 1) (lv' := [(5, .int ((nI i) + 1)), (4, .int (oI_ (g3_ B i).2.1)), (3, .int ((g3_ B i).2.2)), (2, .int (-9)), (0, .ref (r 0)), (1, .int q)]) hx hb dX5_gap_71 hl (k := 0) rfl (by first | rfl | decide) (by decide) rfl (fun ls hl => ?_)
              refine lv_goto (tgt := 29) hx hb dX5_gap_74 (by decide) ?_
              exact ih_29 (i + 1) (-9) ((g3_ B i).2.2) (oI_ (g3_ B i).2.1) ((nI i) + 1)  (by first | exact (g3_a2 c_42 hL).symm | exact (g3_b2 c_42).symm) (by first | exact (congrArg (fun x => x.2.2) (g3_a c_42)).symm | exact (congrArg (fun x => x.2) (g3_b c_42 hL)).symm | exact (congrArg (fun x => x.2) (g3_c c_42 hL (Int32.not_le.mp c_57))).symm | exact (congrArg (fun x => x.2) (g3_d c_42 hL (Int32.not_lt.mpr c_57))).symm) (by first | exact (congrArg (fun x => oI_ x.2.1) (g3_a c_42)).symm | exact (congrArg (fun x => oI_ x.1) (g3_b c_42 hL)).symm | exact (congrArg (fun x => oI_ x.1) (g3_c c_42 hL (Int32.not_le.mp c_57))).symm | exact (congrArg (fun x => oI_ x.1) (g3_d c_42 hL (Int32.not_lt.mpr c_57))).symm) (by first | rfl | exact nI_1 _) (by omega) (by omega) _ _ hP (va_D.adr hD0 (mW_adE rfl)) hS ls (lv_sub hl [0, 1, 2, 3, 4, 5] rfl)
        · rw [hL] at hl
          replace hl : lv_has ls 6 [(5, .int (nI i)), (4, .int (oI_ (g3_ B i).2.1)), (3, .int ((g3_ B i).2.2)), (2, .int (nI t)), (0, .ref (r 0)), (1, .int q)] := hl
          have ht := g3_lt _ _ hL
          refine lv_iload hx hb dX5_gap_29 (lv_at hl 0 rfl) ?_
          refine lv_bipush (v := 30) hx hb dX5_gap_31 (by decide) ?_
          refine lv_icmp_gt (tgt := 77) hx hb dX5_gap_33 (by decide) (fun c_33 => ?_) (fun c_33 => ?_)
          · replace c_33 : nI 30 < nI i := c_33
            rw [jlt (by omega) (by omega)] at c_33
            refine lv_iload_n hx hb dX5_gap_77 rfl (lv_at hl 5 rfl) ?_
            refine lv_if_ne (tgt := 85) hx hb dX5_gap_78 (by decide) (fun c_78 => ?_) (fun c_78 => ?_)
            · skip
              refine lv_iload hx hb dX5_gap_85 (lv_at hl 1 rfl) ?_
              refine rMi hx hb hr hlk hS M hP ?_ dX5_gap_87
              first | (have hW : uk_ q 1 = -2 := uk_o c_6; rw [hW]; exact ⟨(if_neg (by decide)).symm, oQ_n _ _⟩) | (have hW : uk_ q 1 = 0 := uk_i c_6; rw [hW]; exact ⟨by (rw [if_pos rfl]; have e9 : i = 31 := (by omega); subst e9; first | (rw [if_neg (by rw [c_78]; decide)]; exact (g3_wg B).2) | (rw [if_pos (q1n_ c_6 c_78)]; exact (g3_wg B).1)), oQ_0 rfl (by (first | exact (oN_mk (by assumption)).m | exact oM_.rf _ | exact (oN_pp _ _).m | exact (oN_fo _ _ _ _).m | assumption | (apply oN_.m; assumption) | exact oM_.tr (by assumption) (by assumption)))⟩)
            · skip
              refine lv_iload_n hx hb dX5_gap_81 rfl (lv_at hl 2 rfl) ?_
              refine lv_goto (tgt := 87) hx hb dX5_gap_82 (by decide) ?_
              refine rMi hx hb hr hlk hS M hP ?_ dX5_gap_87
              first | (have hW : uk_ q 1 = -2 := uk_o c_6; rw [hW]; exact ⟨(if_neg (by decide)).symm, oQ_n _ _⟩) | (have hW : uk_ q 1 = 0 := uk_i c_6; rw [hW]; exact ⟨by (rw [if_pos rfl]; have e9 : i = 31 := (by omega); subst e9; first | (rw [if_neg (by rw [c_78]; decide)]; exact (g3_wg B).2) | (rw [if_pos (q1n_ c_6 c_78)]; exact (g3_wg B).1)), oQ_0 rfl (by (first | exact (oN_mk (by assumption)).m | exact oM_.rf _ | exact (oN_pp _ _).m | exact (oN_fo _ _ _ _).m | assumption | (apply oN_.m; assumption) | exact oM_.tr (by assumption) (by assumption)))⟩)
          · replace c_33 : ¬ nI 30 < nI i := c_33
            rw [jlt (by omega) (by omega)] at c_33
            refine lv_aload_n hx hb dX5_gap_36 rfl (lv_at hl 4 rfl) ?_
            refine lv_iload hx hb dX5_gap_37 (lv_at hl 0 rfl) ?_
            refine kSiV hx hb hml hown hts hK hP gX5_gap_X5_shoreAt okX5_shoreAt (qX5_shoreAt l D cI cB r B M (nI i) (by show sn_ B ≤ 7; omega)) [0, 1, 2, 3, 4, 5, 6, 7, 8, 9, 10, 11, 12, 13, 14, 15] rfl rfl rfl rfl (by decide) hl.1 rfl rfl (Nat.le_of_ble_eq_true rfl) dX5_gap_39 (by decide) (fun r_5 hr_6 => ?_)
            replace hr_6 : r_5 = oI_ (sa_ B (nI i)) := hr_6
            subst r_5
            refine lv_if_ge (tgt := 48) hx hb dX5_gap_42 (by decide) (fun c_42 => ?_) (fun c_42 => ?_)
            · replace c_42 : ¬ sa_ B (nI i) = none := fun z => absurd c_42 (Int32.not_le.mpr ((oI_lt0 (sa_b hn7)).mpr z))
              refine lv_iload_n hx hb dX5_gap_48 rfl (lv_at hl 3 rfl) ?_
              refine lv_if_lt (tgt := 68) hx hb dX5_gap_49 (by decide) (fun q => absurd q (nI_pos (by omega))) (fun _ => ?_)
              refine lv_iload hx hb dX5_gap_52 (lv_at hl 0 rfl) ?_
              refine lv_iload_n hx hb dX5_gap_54 rfl (lv_at hl 3 rfl) ?_
              refine lv_isub hx hb dX5_gap_55 ?_
              refine lv_iload_n hx hb dX5_gap_56 rfl (lv_at hl 2 rfl) ?_
              refine lv_icmp_le (tgt := 68) hx hb dX5_gap_57 (by decide) (fun c_57 => ?_) (fun c_57 => ?_)
              · have d_57 := Int32.not_lt.mpr c_57
                refine lv_iload hx hb dX5_gap_68 (lv_at hl 0 rfl) ?_
                refine lv_istore_n (lv' := [(2, .int (nI i)), (5, .int (nI i)), (4, .int (oI_ (g3_ B i).2.1)), (3, .int ((g3_ B i).2.2)), (0, .ref (r 0)), (1, .int q)]) hx hb dX5_gap_70 rfl hl (by decide) rfl (fun ls hl => ?_)
                refine lv_iinc (v := (nI i) + 1) (lv' := [(5, .int ((nI i) + 1)), (2, .int (nI i)), (4, .int (oI_ (g3_ B i).2.1)), (3, .int ((g3_ B i).2.2)), (0, .ref (r 0)), (1, .int q)]) hx hb dX5_gap_71 hl (k := 1) rfl (by first | rfl | decide) (by decide) rfl (fun ls hl => ?_)
                refine lv_goto (tgt := 29) hx hb dX5_gap_74 (by decide) ?_
                exact ih_29 (i + 1) (nI i) ((g3_ B i).2.2) (oI_ (g3_ B i).2.1) ((nI i) + 1)  (by first | exact (g3_a2 c_42 hL).symm | exact (g3_b2 c_42).symm) (by first | exact (congrArg (fun x => x.2.2) (g3_a c_42)).symm | exact (congrArg (fun x => x.2) (g3_b c_42 hL)).symm | exact (congrArg (fun x => x.2) (g3_c c_42 hL (Int32.not_le.mp c_57))).symm | exact (congrArg (fun x => x.2) (g3_d c_42 hL (Int32.not_lt.mpr c_57))).symm) (by first | exact (congrArg (fun x => oI_ x.2.1) (g3_a c_42)).symm | exact (congrArg (fun x => oI_ x.1) (g3_b c_42 hL)).symm | exact (congrArg (fun x => oI_ x.1) (g3_c c_42 hL (Int32.not_le.mp c_57))).symm | exact (congrArg (fun x => oI_ x.1) (g3_d c_42 hL (Int32.not_lt.mpr c_57))).symm) (by first | rfl | exact nI_1 _) (by omega) (by omega) _ _ hP (va_D.adr hD0 (mW_adE rfl)) hS ls (lv_sub hl [0, 2, 3, 1, 4, 5] rfl)
              · have d_57 := Int32.not_le.mp c_57
                refine lv_iload hx hb dX5_gap_60 (lv_at hl 0 rfl) ?_
                refine lv_iload_n hx hb dX5_gap_62 rfl (lv_at hl 3 rfl) ?_
                refine lv_isub hx hb dX5_gap_63 ?_
                refine lv_istore_n (lv' := [(3, .int ((nI i) - (nI t))), (5, .int (nI i)), (4, .int (oI_ (g3_ B i).2.1)), (2, .int (nI t)), (0, .ref (r 0)), (1, .int q)]) hx hb dX5_gap_64 rfl hl (by decide) rfl (fun ls hl => ?_)
                refine lv_iload_n hx hb dX5_gap_65 rfl (lv_at hl 3 rfl) ?_
                refine lv_istore (lv' := [(4, .int (nI t)), (3, .int ((nI i) - (nI t))), (5, .int (nI i)), (2, .int (nI t)), (0, .ref (r 0)), (1, .int q)]) hx hb dX5_gap_66 hl (by decide) rfl (fun ls hl => ?_)
                refine lv_iload hx hb dX5_gap_68 (lv_at hl 2 rfl) ?_
                refine lv_istore_n (lv' := [(2, .int (nI i)), (4, .int (nI t)), (3, .int ((nI i) - (nI t))), (5, .int (nI i)), (0, .ref (r 0)), (1, .int q)]) hx hb dX5_gap_70 rfl hl (by decide) rfl (fun ls hl => ?_)
                refine lv_iinc (v := (nI i) + 1) (lv' := [(5, .int ((nI i) + 1)), (2, .int (nI i)), (4, .int (nI t)), (3, .int ((nI i) - (nI t))), (0, .ref (r 0)), (1, .int q)]) hx hb dX5_gap_71 hl (k := 3) rfl (by first | rfl | decide) (by decide) rfl (fun ls hl => ?_)
                refine lv_goto (tgt := 29) hx hb dX5_gap_74 (by decide) ?_
                exact ih_29 (i + 1) (nI i) ((nI i) - (nI t)) (nI t) ((nI i) + 1)  (by first | exact (g3_a2 c_42 hL).symm | exact (g3_b2 c_42).symm) (by first | exact (congrArg (fun x => x.2.2) (g3_a c_42)).symm | exact (congrArg (fun x => x.2) (g3_b c_42 hL)).symm | exact (congrArg (fun x => x.2) (g3_c c_42 hL (Int32.not_le.mp c_57))).symm | exact (congrArg (fun x => x.2) (g3_d c_42 hL (Int32.not_lt.mpr c_57))).symm) (by first | exact (congrArg (fun x => oI_ x.2.1) (g3_a c_42)).symm | exact (congrArg (fun x => oI_ x.1) (g3_b c_42 hL)).symm | exact (congrArg (fun x => oI_ x.1) (g3_c c_42 hL (Int32.not_le.mp c_57))).symm | exact (congrArg (fun x => oI_ x.1) (g3_d c_42 hL (Int32.not_lt.mpr c_57))).symm) (by first | rfl | exact nI_1 _) (by omega) (by omega) _ _ hP (va_D.adr hD0 (mW_adE rfl)) hS ls (lv_sub hl [0, 2, 3, 1, 4, 5] rfl)
            · replace c_42 : sa_ B (nI i) = none := (oI_lt0 (sa_b hn7)).mp (Int32.not_le.mp c_42)
              refine lv_goto (tgt := 71) hx hb dX5_gap_45 (by decide) ?_
              refine lv_iinc (v := (nI i) + 1) (lv' := [(5, .int ((nI i) + 1)), (4, .int (oI_ (g3_ B i).2.1)), (3, .int ((g3_ B i).2.2)), (2, .int (nI t)), (0, .ref (r 0)), (1, .int q)]) hx hb dX5_gap_71 hl (k := 0) rfl (by first | rfl | decide) (by decide) rfl (fun ls hl => ?_)
              refine lv_goto (tgt := 29) hx hb dX5_gap_74 (by decide) ?_
              exact ih_29 (i + 1) (nI t) ((g3_ B i).2.2) (oI_ (g3_ B i).2.1) ((nI i) + 1)  (by first | exact (g3_a2 c_42 hL).symm | exact (g3_b2 c_42).symm) (by first | exact (congrArg (fun x => x.2.2) (g3_a c_42)).symm | exact (congrArg (fun x => x.2) (g3_b c_42 hL)).symm | exact (congrArg (fun x => x.2) (g3_c c_42 hL (Int32.not_le.mp c_57))).symm | exact (congrArg (fun x => x.2) (g3_d c_42 hL (Int32.not_lt.mpr c_57))).symm) (by first | exact (congrArg (fun x => oI_ x.2.1) (g3_a c_42)).symm | exact (congrArg (fun x => oI_ x.1) (g3_b c_42 hL)).symm | exact (congrArg (fun x => oI_ x.1) (g3_c c_42 hL (Int32.not_le.mp c_57))).symm | exact (congrArg (fun x => oI_ x.1) (g3_d c_42 hL (Int32.not_lt.mpr c_57))).symm) (by first | rfl | exact nI_1 _) (by omega) (by omega) _ _ hP (va_D.adr hD0 (mW_adE rfl)) hS ls (lv_sub hl [0, 1, 2, 3, 4, 5] rfl)
    exact lp_29 (31 + 1) 0 (-9) (-9) (-9) 0  (rfl) (rfl) (rfl) (by first | rfl | exact nI_0.symm) (by omega) (by omega) _ _ hP (va_D.adr hD0 (mW_adE rfl)) hS ls (lv_sub hl [0, 1, 2, 3, 4, 5] rfl)
  · replace c_6 := b1_z c_6
    refine lv_aload_n hx hb dX5_gap_9 rfl (lv_at hl 0 rfl) ?_
    refine lv_bipush (v := (-2)) hx hb dX5_gap_10 (by decide) ?_
    refine kMiV hx hb hml hown hts hK hP (va_D.adr hD0 (mW_adE rfl)) hA hS gX5_gap_X5_no okX5_no (qX5_no l D cI cB r B M (-2) (Or.inr (Or.inl rfl))) [0, 1, 2, 3, 4, 5, 6, 7, 8, 9, 10, 11, 12, 13, 14, 15] rfl (by decide) (fun _ => mW_adr _ _ _ _ _ _) rfl rfl rfl (by decide) hl.1 rfl rfl (Nat.le_of_ble_eq_true rfl) dX5_gap_12 (by decide) (fun r_7 u_8 H locs hw_9 hP hD hS => ?_)
    replace hw_9 : r_7 = (-2) ∧ u_8 = (rfm_ M (-2)) := hw_9
    obtain ⟨hw_9a, hw_9b⟩ := hw_9
    subst r_7
    subst u_8
    replace hP : va_P D vwCl ([(r 0, .inr (5, [.ref (r 1), .ref (r 2), .ref (r 3), .ref (r 4), .ref (r 5), .ref (r 6), .int (nI (sn_ B)), .int (qt_ B), .int (il_ B), .int (pa_ B), .int (ho_ B), .int (dy_ B), .ref (r 13), .ref (r 14), .ref (r 15), .ref (r 16), .int (nI (mtn_ M)), .int (nI (mrd_ M)), .int (nI (msm_ M)), .ref (r 20), .int (mhi_ M), .int (mik_ M), .int (nI (mcu_ M)), .int (nI (mbk_ M)), .ref (r 25), .ref (r 26), .int (mlw_ M), .int (mhg_ M), .int (msl_ M), .ref (r 30), .int (nI (mrm_ M)), .ref (r 32), .int (mlo_ M)])), (r 1, .inl (cI, 7, .inl (rfx_ (mrf_ M) (-2)))), (r 2, .inl (cI, 7, .inl (kd_ B))), (r 3, .inl (cI, 7, .inl (fg_ B))), (r 4, .inl (cI, 7, .inl (pl_ B))), (r 5, .inl (cI, 7, .inl (pw_ B))), (r 6, .inl (cI, 7, .inl (jy_ B))), (r 13, .inl (cI, 96, .inl (mtp_ M))), (r 14, .inl (cI, 48, .inl (mlt_ M))), (r 15, .inl (cI, 48, .inl (mla_ M))), (r 16, .inl (cI, 144, .inl (mtd_ M))), (r 20, .inl (cI, 451, .inl (flatK (mkp_ M)))), (r 25, .inl (cI, 7, .inl (mof_ M))), (r 26, .inl (cI, 7, .inl (mfa_ M))), (r 30, .inl (cI, 12, .inl (mrw_ M))), (r 32, .inl (cI, 8, .inl (mhb_ M)))]) H := (va_P.m [true, true, true, true, true, true, true, true, true, true, true, true, true, true, true, true] [] hP)
    refine rMi hx hb hr hlk hS (rfm_ M (-2)) hP ?_ dX5_gap_15
    first | (have hW : uk_ q 1 = -2 := uk_o c_6; rw [hW]; exact ⟨(if_neg (by decide)).symm, oQ_n _ _⟩) | (have hW : uk_ q 1 = 0 := uk_i c_6; rw [hW]; exact ⟨by (rw [if_pos rfl]; have e9 : i = 31 := (by omega); subst e9; first | (rw [if_neg (by rw [c_78]; decide)]; exact (g3_wg B).2) | (rw [if_pos (q1n_ c_6 c_78)]; exact (g3_wg B).1)), oQ_0 rfl (by (first | exact (oN_mk (by assumption)).m | exact oM_.rf _ | exact (oN_pp _ _).m | exact (oN_fo _ _ _ _).m | assumption | (apply oN_.m; assumption) | exact oM_.tr (by assumption) (by assumption)))⟩)

