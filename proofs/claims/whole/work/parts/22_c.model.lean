theorem okX5_loudestAt : jok yX5_loudestAt wsX5_loudestAt cX5_loudestAt 4 (some .int) 1 := ⟨⟨_, rfl⟩, by decide +kernel, by decide +kernel⟩
set_option maxHeartbeats 1000000 in
set_option maxRecDepth 100000 in
theorem qX5_loudestAt (l : Launch) (D : va_G) (cI cB : ClassId) (r : Nat → Nat) (B : BayT) (M : MT) (h : Int32) (hI : bI_ B) : jSi D cI cB l yX5_loudestAt wsX5_loudestAt 4 [.ref (r 0), .int h] (mW cI r B M) (fun r => r = oI_ (lt_ B h)) := by
  refine jSi.of (cc := cX5_loudestAt) (maxL := 4) (ret := (some .int)) okX5_loudestAt (Nat.le_of_ble_eq_true rfl) ?_
  intro p e s m below meth c ls hx hb hr hts hown hlk hml hP hK hl
  replace hown : s.vm.findClass RX5 = some m.cls := hown
  replace hl : lv_has ls 4 [(0, .ref (r 0)), (1, .int h)] := hl
  have hn7 := hI.1
  have hinX5 : ∀ w ∈ wsX50, w ∈ wsX5_loudestAt := by decide +kernel
  refine lv_bipush (v := (-9)) hx hb dX5_loudestAt_0 (by decide) ?_
  refine lv_istore_n (lv' := [(2, .int (-9)), (0, .ref (r 0)), (1, .int h)]) hx hb dX5_loudestAt_2 rfl hl (by decide) rfl (fun ls hl => ?_)
  refine lv_iconst (v := 0) hx hb dX5_loudestAt_3 (by decide) ?_
  refine lv_istore_n (lv' := [(3, .int 0), (2, .int (-9)), (0, .ref (r 0)), (1, .int h)]) hx hb dX5_loudestAt_4 rfl hl (by decide) rfl (fun ls hl => ?_)
  have lp_5 : ∀ (fu_5 : Nat) (i : Nat) (x2_5 : Int32) (x3_5 : Int32) , (x2_5 = oI_ (lo_ B h i)) → (x3_5 = nI i) → (i ≤ sn_ B) → sn_ B - i < fu_5 → ∀ ls : Array Slot, lv_has ls 4 [(3, .int x3_5), (2, .int x2_5), (0, .ref (r 0)), (1, .int h)] → W p l e (jR 4) s m ([.ref (r 0), .int h] : List Value).toArray below meth c s.heap [] 0 0 (MQ below (vp_Si (fun r => r = oI_ (lt_ B h))) ([.ref (r 0), .int h] : List Value).toArray s 0 0 (fun _ => False)) (F0 m 5 ls []) := by
    intro fu_5
    induction fu_5 with
    | zero => intro i x2_5 x3_5 hx2_5 hx3_5 hi hfu; exact absurd hfu (Nat.not_lt_zero _)
    | succ fu_5 ih_5 =>
      intro i x2_5 x3_5 hx2_5 hx3_5 hi hfu_5 ls hl
      subst x2_5
      subst x3_5
      replace hl : lv_has ls 4 [(3, .int (nI i)), (2, .int (oI_ (lo_ B h i))), (0, .ref (r 0)), (1, .int h)] := hl
      rcases hL : lo_ B h i with _ | t
      · rw [hL] at hl
        replace hl : lv_has ls 4 [(3, .int (nI i)), (2, .int (-9)), (0, .ref (r 0)), (1, .int h)] := hl
        refine lv_iload_n hx hb dX5_loudestAt_5 rfl (lv_at hl 0 rfl) ?_
        refine lv_aload_n hx hb dX5_loudestAt_6 rfl (lv_at hl 2 rfl) ?_
        refine va_get (ci := 5) (C := RX5) (T := TX5) (N := 33) hx hb hts hinX5 hown hK.1 hP 0 rfl rfl 6 (by decide) (hts _ (List.mem_of_getElem? (i := 1) rfl)) (fun _ h9 => h9) rfl dX5_loudestAt_7 ?_
        refine lv_icmp_ge (tgt := 44) hx hb dX5_loudestAt_10 (by decide) (fun c_10 => ?_) (fun c_10 => ?_)
        · replace c_10 : nI (sn_ B) ≤ nI i := c_10
          rw [jle (by omega) (by omega)] at c_10
          refine lv_iload_n hx hb dX5_loudestAt_44 rfl (lv_at hl 1 rfl) ?_
          refine rSi hx hb hr hlk ?_ dX5_loudestAt_45
          show (-9) = _
          have e9 : i = sn_ B := by omega
          rw [e9] at hL; unfold lt_; rw [hL]; rfl
        · replace c_10 : ¬ nI (sn_ B) ≤ nI i := c_10
          rw [jle (by omega) (by omega)] at c_10
          refine lv_aload_n hx hb dX5_loudestAt_13 rfl (lv_at hl 2 rfl) ?_
          refine lv_iload_n hx hb dX5_loudestAt_14 rfl (lv_at hl 0 rfl) ?_
          refine lv_iload_n hx hb dX5_loudestAt_15 rfl (lv_at hl 3 rfl) ?_
          refine kSiV hx hb hml hown hts hK hP gX5_loudestAt_X5_noiseOf okX5_noiseOf (qX5_noiseOf l D cI cB r B M i h (by omega) (hI.2.1 i (by omega)).1) [0, 1, 2, 3, 4, 5, 6, 7, 8, 9, 10, 11, 12, 13, 14, 15] rfl rfl rfl rfl (by decide) hl.1 rfl rfl (Nat.le_of_ble_eq_true rfl) dX5_loudestAt_16 (by decide) (fun r_1 hr_2 => ?_)
          replace hr_2 : r_1 = no_ B i h := hr_2
          subst r_1
          refine lv_if_le (tgt := 38) hx hb dX5_loudestAt_19 (by decide) (fun c_19 => ?_) (fun c_19 => ?_)
          · have d_19 := Int32.not_lt.mpr c_19
            refine lv_iinc (v := (nI i) + 1) (lv' := [(3, .int ((nI i) + 1)), (2, .int (-9)), (0, .ref (r 0)), (1, .int h)]) hx hb dX5_loudestAt_38 hl (k := 0) rfl (by first | rfl | decide) (by decide) rfl (fun ls hl => ?_)
            refine lv_goto (tgt := 5) hx hb dX5_loudestAt_41 (by decide) ?_
            exact ih_5 (i + 1) (-9) ((nI i) + 1)  (by first | (simp [lo_, hL, oI_, Int32.not_le.mp c_19]; done) | (simp only [lo_, hL]; rw [if_neg c_19]; rfl) | (simp only [lo_, hL]; rw [if_pos c_33]; rfl) | (simp only [lo_, hL]; rw [if_neg c_33]; rfl) | (simp only [lo_, hL]; rw [if_neg (lo_no c_19 ht.2)]; rfl) | (simp only [lo_, hL]; rw [if_neg (Int32.not_lt.mpr c_19)]; rfl)) (by first | rfl | exact nI_1 _) (by omega) (by omega) ls (lv_sub hl [0, 1, 2, 3] rfl)
          · have d_19 := Int32.not_le.mp c_19
            refine lv_iload_n hx hb dX5_loudestAt_22 rfl (lv_at hl 1 rfl) ?_
            refine lv_if_lt (tgt := 36) hx hb dX5_loudestAt_23 (by decide) (fun _ => ?_) (fun q => absurd q (by decide))
            refine lv_iload_n hx hb dX5_loudestAt_36 rfl (lv_at hl 0 rfl) ?_
            refine lv_istore_n (lv' := [(2, .int (nI i)), (3, .int (nI i)), (0, .ref (r 0)), (1, .int h)]) hx hb dX5_loudestAt_37 rfl hl (by decide) rfl (fun ls hl => ?_)
            refine lv_iinc (v := (nI i) + 1) (lv' := [(3, .int ((nI i) + 1)), (2, .int (nI i)), (0, .ref (r 0)), (1, .int h)]) hx hb dX5_loudestAt_38 hl (k := 1) rfl (by first | rfl | decide) (by decide) rfl (fun ls hl => ?_)
            refine lv_goto (tgt := 5) hx hb dX5_loudestAt_41 (by decide) ?_
            exact ih_5 (i + 1) (nI i) ((nI i) + 1)  (by first | (simp [lo_, hL, oI_, Int32.not_le.mp c_19]; done) | (simp only [lo_, hL]; rw [if_neg c_19]; rfl) | (simp only [lo_, hL]; rw [if_pos c_33]; rfl) | (simp only [lo_, hL]; rw [if_neg c_33]; rfl) | (simp only [lo_, hL]; rw [if_neg (lo_no c_19 ht.2)]; rfl) | (simp only [lo_, hL]; rw [if_neg (Int32.not_lt.mpr c_19)]; rfl)) (by first | rfl | exact nI_1 _) (by omega) (by omega) ls (lv_sub hl [0, 1, 2, 3] rfl)
      · rw [hL] at hl
        replace hl : lv_has ls 4 [(3, .int (nI i)), (2, .int (nI t)), (0, .ref (r 0)), (1, .int h)] := hl
        have ht := lo_lt _ _ hL
        have ht1 := ht.1
        refine lv_iload_n hx hb dX5_loudestAt_5 rfl (lv_at hl 0 rfl) ?_
        refine lv_aload_n hx hb dX5_loudestAt_6 rfl (lv_at hl 2 rfl) ?_
        refine va_get (ci := 5) (C := RX5) (T := TX5) (N := 33) hx hb hts hinX5 hown hK.1 hP 0 rfl rfl 6 (by decide) (hts _ (List.mem_of_getElem? (i := 1) rfl)) (fun _ h9 => h9) rfl dX5_loudestAt_7 ?_
        refine lv_icmp_ge (tgt := 44) hx hb dX5_loudestAt_10 (by decide) (fun c_10 => ?_) (fun c_10 => ?_)
        · replace c_10 : nI (sn_ B) ≤ nI i := c_10
          rw [jle (by omega) (by omega)] at c_10
          refine lv_iload_n hx hb dX5_loudestAt_44 rfl (lv_at hl 1 rfl) ?_
          refine rSi hx hb hr hlk ?_ dX5_loudestAt_45
          show (nI t) = _
          have e9 : i = sn_ B := by omega
          rw [e9] at hL; unfold lt_; rw [hL]; rfl
        · replace c_10 : ¬ nI (sn_ B) ≤ nI i := c_10
          rw [jle (by omega) (by omega)] at c_10
          refine lv_aload_n hx hb dX5_loudestAt_13 rfl (lv_at hl 2 rfl) ?_
          refine lv_iload_n hx hb dX5_loudestAt_14 rfl (lv_at hl 0 rfl) ?_
          refine lv_iload_n hx hb dX5_loudestAt_15 rfl (lv_at hl 3 rfl) ?_
          refine kSiV hx hb hml hown hts hK hP gX5_loudestAt_X5_noiseOf okX5_noiseOf (qX5_noiseOf l D cI cB r B M i h (by omega) (hI.2.1 i (by omega)).1) [0, 1, 2, 3, 4, 5, 6, 7, 8, 9, 10, 11, 12, 13, 14, 15] rfl rfl rfl rfl (by decide) hl.1 rfl rfl (Nat.le_of_ble_eq_true rfl) dX5_loudestAt_16 (by decide) (fun r_3 hr_4 => ?_)
          replace hr_4 : r_3 = no_ B i h := hr_4
          subst r_3
          refine lv_if_le (tgt := 38) hx hb dX5_loudestAt_19 (by decide) (fun c_19 => ?_) (fun c_19 => ?_)
          · have d_19 := Int32.not_lt.mpr c_19
            refine lv_iinc (v := (nI i) + 1) (lv' := [(3, .int ((nI i) + 1)), (2, .int (nI t)), (0, .ref (r 0)), (1, .int h)]) hx hb dX5_loudestAt_38 hl (k := 0) rfl (by first | rfl | decide) (by decide) rfl (fun ls hl => ?_)
            refine lv_goto (tgt := 5) hx hb dX5_loudestAt_41 (by decide) ?_
            exact ih_5 (i + 1) (nI t) ((nI i) + 1)  (by first | (simp [lo_, hL, oI_, Int32.not_le.mp c_19]; done) | (simp only [lo_, hL]; rw [if_neg c_19]; rfl) | (simp only [lo_, hL]; rw [if_pos c_33]; rfl) | (simp only [lo_, hL]; rw [if_neg c_33]; rfl) | (simp only [lo_, hL]; rw [if_neg (lo_no c_19 ht.2)]; rfl) | (simp only [lo_, hL]; rw [if_neg (Int32.not_lt.mpr c_19)]; rfl)) (by first | rfl | exact nI_1 _) (by omega) (by omega) ls (lv_sub hl [0, 1, 2, 3] rfl)
          · have d_19 := Int32.not_le.mp c_19
            refine lv_iload_n hx hb dX5_loudestAt_22 rfl (lv_at hl 1 rfl) ?_
            refine lv_if_lt (tgt := 36) hx hb dX5_loudestAt_23 (by decide) (fun q => absurd q (nI_pos (by omega))) (fun _ => ?_)
            refine lv_aload_n hx hb dX5_loudestAt_26 rfl (lv_at hl 2 rfl) ?_
            refine lv_iload_n hx hb dX5_loudestAt_27 rfl (lv_at hl 0 rfl) ?_
            refine lv_iload_n hx hb dX5_loudestAt_28 rfl (lv_at hl 1 rfl) ?_
            refine lv_iload_n hx hb dX5_loudestAt_29 rfl (lv_at hl 3 rfl) ?_
            refine kSiV hx hb hml hown hts hK hP gX5_loudestAt_X5_isLouder okX5_isLouder (qX5_isLouder l D cI cB r B M i t h hI (by omega) (by omega)) [0, 1, 2, 3, 4, 5, 6, 7, 8, 9, 10, 11, 12, 13, 14, 15] rfl rfl rfl rfl (by decide) hl.1 rfl rfl (Nat.le_of_ble_eq_true rfl) dX5_loudestAt_30 (by decide) (fun r_5 hr_6 => ?_)
            replace hr_6 : r_5 = b1 (no_ B t h < no_ B i h ∨ (no_ B i h = no_ B t h ∧ di_ B i < di_ B t)) := hr_6
            subst r_5
            refine lv_if_eq (tgt := 38) hx hb dX5_loudestAt_33 (by decide) (fun c_33 => ?_) (fun c_33 => ?_)
            · replace c_33 := b1_z c_33
              refine lv_iinc (v := (nI i) + 1) (lv' := [(3, .int ((nI i) + 1)), (2, .int (nI t)), (0, .ref (r 0)), (1, .int h)]) hx hb dX5_loudestAt_38 hl (k := 0) rfl (by first | rfl | decide) (by decide) rfl (fun ls hl => ?_)
              refine lv_goto (tgt := 5) hx hb dX5_loudestAt_41 (by decide) ?_
              exact ih_5 (i + 1) (nI t) ((nI i) + 1)  (by first | (simp [lo_, hL, oI_, Int32.not_le.mp c_19]; done) | (simp only [lo_, hL]; rw [if_neg c_19]; rfl) | (simp only [lo_, hL]; rw [if_pos c_33]; rfl) | (simp only [lo_, hL]; rw [if_neg c_33]; rfl) | (simp only [lo_, hL]; rw [if_neg (lo_no c_19 ht.2)]; rfl) | (simp only [lo_, hL]; rw [if_neg (Int32.not_lt.mpr c_19)]; rfl)) (by first | rfl | exact nI_1 _) (by omega) (by omega) ls (lv_sub hl [0, 1, 2, 3] rfl)
            · replace c_33 := b1_n c_33
              refine lv_iload_n hx hb dX5_loudestAt_36 rfl (lv_at hl 0 rfl) ?_
              refine lv_istore_n (lv' := [(2, .int (nI i)), (3, .int (nI i)), (0, .ref (r 0)), (1, .int h)]) hx hb dX5_loudestAt_37 rfl hl (by decide) rfl (fun ls hl => ?_)
              refine lv_iinc (v := (nI i) + 1) (lv' := [(3, .int ((nI i) + 1)), (2, .int (nI i)), (0, .ref (r 0)), (1, .int h)]) hx hb dX5_loudestAt_38 hl (k := 1) rfl (by first | rfl | decide) (by decide) rfl (fun ls hl => ?_)
              refine lv_goto (tgt := 5) hx hb dX5_loudestAt_41 (by decide) ?_
              exact ih_5 (i + 1) (nI i) ((nI i) + 1)  (by first | (simp [lo_, hL, oI_, Int32.not_le.mp c_19]; done) | (simp only [lo_, hL]; rw [if_neg c_19]; rfl) | (simp only [lo_, hL]; rw [if_pos c_33]; rfl) | (simp only [lo_, hL]; rw [if_neg c_33]; rfl) | (simp only [lo_, hL]; rw [if_neg (lo_no c_19 ht.2)]; rfl) | (simp only [lo_, hL]; rw [if_neg (Int32.not_lt.mpr c_19)]; rfl)) (by first | rfl | exact nI_1 _) (by omega) (by omega) ls (lv_sub hl [0, 1, 2, 3] rfl)
  exact lp_5 ((sn_ B) + 1) 0 (-9) 0  (by first | rfl | exact nI_0.symm) (by first | rfl | exact nI_0.symm) (by omega) (by omega) ls (lv_sub hl [0, 1, 2, 3] rfl)

theorem okX5_allNoise : jok yX5_allNoise wsX5_allNoise cX5_allNoise 4 (some .int) 1 := ⟨⟨_, rfl⟩, by decide +kernel, by decide +kernel⟩
set_option maxHeartbeats 1000000 in
set_option maxRecDepth 100000 in
theorem qX5_allNoise (l : Launch) (D : va_G) (cI cB : ClassId) (r : Nat → Nat) (B : BayT) (M : MT) (h : Int32) (hI : bI_ B) : jSi D cI cB l yX5_allNoise wsX5_allNoise 3 [.ref (r 0), .int h] (mW cI r B M) (fun r => r = an_ B h) := by
  refine jSi.of (cc := cX5_allNoise) (maxL := 4) (ret := (some .int)) okX5_allNoise (Nat.le_of_ble_eq_true rfl) ?_
  intro p e s m below meth c ls hx hb hr hts hown hlk hml hP hK hl
  replace hown : s.vm.findClass RX5 = some m.cls := hown
  replace hl : lv_has ls 4 [(0, .ref (r 0)), (1, .int h)] := hl
  have hn7 := hI.1
  have hinX5 : ∀ w ∈ wsX50, w ∈ wsX5_allNoise := by decide +kernel
  refine lv_iconst (v := 0) hx hb dX5_allNoise_0 (by decide) ?_
  refine lv_istore_n (lv' := [(2, .int 0), (0, .ref (r 0)), (1, .int h)]) hx hb dX5_allNoise_1 rfl hl (by decide) rfl (fun ls hl => ?_)
  refine lv_iconst (v := 0) hx hb dX5_allNoise_2 (by decide) ?_
  refine lv_istore_n (lv' := [(3, .int 0), (2, .int 0), (0, .ref (r 0)), (1, .int h)]) hx hb dX5_allNoise_3 rfl hl (by decide) rfl (fun ls hl => ?_)
  have lp_4 : ∀ (fu_4 : Nat) (i : Nat) (x2_4 : Int32) (x3_4 : Int32) , (x2_4 = su_ (fun j => no_ B j h) i) → (x3_4 = nI i) → (i ≤ sn_ B) → sn_ B - i < fu_4 → ∀ ls : Array Slot, lv_has ls 4 [(3, .int x3_4), (2, .int x2_4), (0, .ref (r 0)), (1, .int h)] → W p l e (jR 3) s m ([.ref (r 0), .int h] : List Value).toArray below meth c s.heap [] 0 0 (MQ below (vp_Si (fun r => r = an_ B h)) ([.ref (r 0), .int h] : List Value).toArray s 0 0 (fun _ => False)) (F0 m 4 ls []) := by
    intro fu_4
    induction fu_4 with
    | zero => intro i x2_4 x3_4 hx2_4 hx3_4 hi hfu; exact absurd hfu (Nat.not_lt_zero _)
    | succ fu_4 ih_4 =>
      intro i x2_4 x3_4 hx2_4 hx3_4 hi hfu_4 ls hl
      subst x2_4
      subst x3_4
      replace hl : lv_has ls 4 [(3, .int (nI i)), (2, .int (su_ (fun j => no_ B j h) i)), (0, .ref (r 0)), (1, .int h)] := hl
      refine lv_iload_n hx hb dX5_allNoise_4 rfl (lv_at hl 0 rfl) ?_
      refine lv_aload_n hx hb dX5_allNoise_5 rfl (lv_at hl 2 rfl) ?_
      refine va_get (ci := 5) (C := RX5) (T := TX5) (N := 33) hx hb hts hinX5 hown hK.1 hP 0 rfl rfl 6 (by decide) (hts _ (List.mem_of_getElem? (i := 1) rfl)) (fun _ h9 => h9) rfl dX5_allNoise_6 ?_
      refine lv_icmp_ge (tgt := 27) hx hb dX5_allNoise_9 (by decide) (fun c_9 => ?_) (fun c_9 => ?_)
      · replace c_9 : nI (sn_ B) ≤ nI i := c_9
        rw [jle (by omega) (by omega)] at c_9
        refine lv_iload_n hx hb dX5_allNoise_27 rfl (lv_at hl 1 rfl) ?_
        refine rSi hx hb hr hlk ?_ dX5_allNoise_28
        show (su_ (fun j => no_ B j h) i) = _
        have e9 : i = sn_ B := by omega
        rw [e9]; rfl
      · replace c_9 : ¬ nI (sn_ B) ≤ nI i := c_9
        rw [jle (by omega) (by omega)] at c_9
        refine lv_iload_n hx hb dX5_allNoise_12 rfl (lv_at hl 1 rfl) ?_
        refine lv_aload_n hx hb dX5_allNoise_13 rfl (lv_at hl 2 rfl) ?_
        refine lv_iload_n hx hb dX5_allNoise_14 rfl (lv_at hl 0 rfl) ?_
        refine lv_iload_n hx hb dX5_allNoise_15 rfl (lv_at hl 3 rfl) ?_
        refine kSiV hx hb hml hown hts hK hP gX5_allNoise_X5_noiseOf okX5_noiseOf (qX5_noiseOf l D cI cB r B M i h (by omega) (hI.2.1 i (by omega)).1) [0, 1, 2, 3, 4, 5, 6, 7, 8, 9, 10, 11, 12, 13, 14, 15] rfl rfl rfl rfl (by decide) hl.1 rfl rfl (Nat.le_of_ble_eq_true rfl) dX5_allNoise_16 (by decide) (fun r_1 hr_2 => ?_)
        replace hr_2 : r_1 = no_ B i h := hr_2
        subst r_1
        refine lv_iadd hx hb dX5_allNoise_19 ?_
        refine lv_istore_n (lv' := [(2, .int ((su_ (fun j => no_ B j h) i) + (no_ B i h))), (3, .int (nI i)), (0, .ref (r 0)), (1, .int h)]) hx hb dX5_allNoise_20 rfl hl (by decide) rfl (fun ls hl => ?_)
        refine lv_iinc (v := (nI i) + 1) (lv' := [(3, .int ((nI i) + 1)), (2, .int ((su_ (fun j => no_ B j h) i) + (no_ B i h))), (0, .ref (r 0)), (1, .int h)]) hx hb dX5_allNoise_21 hl (k := 1) rfl (by first | rfl | decide) (by decide) rfl (fun ls hl => ?_)
        refine lv_goto (tgt := 4) hx hb dX5_allNoise_24 (by decide) ?_
        exact ih_4 (i + 1) ((su_ (fun j => no_ B j h) i) + (no_ B i h)) ((nI i) + 1)  (by first | rfl | exact nI_1 _) (by first | rfl | exact nI_1 _) (by omega) (by omega) ls (lv_sub hl [0, 1, 2, 3] rfl)
  exact lp_4 ((sn_ B) + 1) 0 0 0  (by first | rfl | exact nI_0.symm) (by first | rfl | exact nI_0.symm) (by omega) (by omega) ls (lv_sub hl [0, 1, 2, 3] rfl)

