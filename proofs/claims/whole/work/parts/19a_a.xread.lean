theorem okX4_refuse : jok yX4_refuse wsX4_refuse cX4_refuse 2 (some .int) 1 := ⟨⟨_, rfl⟩, by decide +kernel, by decide +kernel⟩
set_option maxHeartbeats 1000000 in
set_option maxRecDepth 100000 in
theorem qX4_refuse (l : Launch) (D : va_G) (cI cB : ClassId) (g : Nat → Nat) (hi : Int32) (tc : Nat) (rf : Nat → Int32) (w : Int32) (hw : rc_ w) : jMi D cI cB l yX4_refuse wsX4_refuse 0 [.ref (g 0), .int w] (xO g hi tc ++ rW cI g rf) (S := Nat → Int32) (fun r u => r = w ∧ u = rfx_ rf w) (fun u => xO g hi tc ++ rW cI g u) := by
  refine jMi.of (cc := cX4_refuse) (maxL := 2) (ret := (some .int)) okX4_refuse (Nat.le_of_ble_eq_true rfl) ?_
  intro p e s m below meth c ls A hx hb hr hts hown hlk hml hP hK hD hA hS hl
  replace hown : s.vm.findClass RX4 = some m.cls := hown
  replace hl : lv_has ls 2 [(0, .ref (g 0)), (1, .int w)] := hl
  have hwn := rc_n hw
  have hwi := rc_i hw
  have hinX4 : ∀ w ∈ wsX40, w ∈ wsX4_refuse := by decide +kernel
  refine lv_iload_n hx hb dX4_refuse_0 rfl (lv_at hl 1 rfl) ?_
  refine lv_if_ge (tgt := 25) hx hb dX4_refuse_1 (by decide) (fun c_1 => ?_) (fun c_1 => ?_)
  · exact absurd hwn.2.1 (Int32.not_lt.mpr c_1)
  · refine lv_iload_n hx hb dX4_refuse_4 rfl (lv_at hl 1 rfl) ?_
    refine lv_ineg hx hb dX4_refuse_5 ?_
    refine lv_aload_n hx hb dX4_refuse_6 rfl (lv_at hl 0 rfl) ?_
    refine va_get (ci := 4) (C := RX4) (T := TX4) (N := 9) hx hb hts hinX4 hown hK.1 hP 0 rfl rfl 8 (by decide) (hts _ (List.mem_of_getElem? (i := 1) rfl)) (fun _ h9 => h9) rfl dX4_refuse_7 ?_
    refine va_alen (v := 7) hx hb hK.1 hP 1 0 rfl rfl rfl dX4_refuse_10 ?_
    refine lv_icmp_ge (tgt := 25) hx hb dX4_refuse_11 (by decide) (fun c_11 => ?_) (fun c_11 => ?_)
    · exact absurd hwn.2.2 (Int32.not_lt.mpr c_11)
    · refine lv_aload_n hx hb dX4_refuse_14 rfl (lv_at hl 0 rfl) ?_
      refine va_get (ci := 4) (C := RX4) (T := TX4) (N := 9) hx hb hts hinX4 hown hK.1 hP 0 rfl rfl 8 (by decide) (hts _ (List.mem_of_getElem? (i := 1) rfl)) (fun _ h9 => h9) rfl dX4_refuse_15 ?_
      refine lv_iload_n hx hb dX4_refuse_18 rfl (lv_at hl 1 rfl) ?_
      refine lv_ineg hx hb dX4_refuse_19 ?_
      refine lv_dup2_11 hx hb dX4_refuse_20 rfl rfl ?_
      refine jald hx hb hK.1 hP 1 0 (ri_ w) rfl rfl hwi.1 hwi.2 (Nat.le_of_ble_eq_true rfl) dX4_refuse_21 ?_
      refine lv_iconst (v := 1) hx hb dX4_refuse_22 (by decide) ?_
      refine lv_iadd hx hb dX4_refuse_23 ?_
      refine jast hx hb hK.1 hP hD hS 1 0 (ri_ w) rfl rfl hwi.1 hwi.2 (Nat.le_of_ble_eq_true rfl) dX4_refuse_24 (fun f_1 ef_1 H locs hP hD hS => ?_)
      replace ef_1 : f_1 = upd rf (ri_ w) ((rf (ri_ w)) + 1) := ef_1
      replace hP : va_P D vwCl (xO g hi tc ++ rW cI g f_1) H := hP
      replace hD : va_D A (xO g hi tc ++ rW cI g f_1) := hD
      refine lv_iload_n hx hb dX4_refuse_25 rfl (lv_at hl 1 rfl) ?_
      (try rw [ef_1] at hP); (try rw [ef_1] at hD); (try rw [ef_1] at hl); (try rw [ef_1] at c_1); (try rw [ef_1] at c_11); (try rw [ef_1])
      refine rMi hx hb hr hlk hS (upd rf (ri_ w) ((rf (ri_ w)) + 1)) hP ?_ dX4_refuse_26
      exact ⟨rfl, by unfold rfx_; rw [if_neg hwn.1]⟩

theorem okX4_refusalInMind : jok yX4_refusalInMind wsX4_refusalInMind cX4_refusalInMind 2 (some .int) 2 := ⟨⟨_, rfl⟩, by decide +kernel, by decide +kernel⟩
set_option maxHeartbeats 1000000 in
set_option maxRecDepth 100000 in
theorem qX4_refusalInMind (l : Launch) (D : va_G) (cI cB : ClassId) (v : Int32) (q : Int32)  : jSi D cI cB l yX4_refusalInMind wsX4_refusalInMind 2 [.int v, .int q] ([] : va_W) (fun r => r = wNW_ v q) := by
  refine jSi.of (cc := cX4_refusalInMind) (maxL := 2) (ret := (some .int)) okX4_refusalInMind (Nat.le_of_ble_eq_true rfl) ?_
  intro p e s m below meth c ls hx hb hr hts hown hlk hml hP hK hl
  replace hown : s.vm.findClass RX4 = some m.cls := hown
  replace hl : lv_has ls 2 [(0, .int v), (1, .int q)] := hl
  refine lv_iload_n hx hb dX4_refusalInMind_0 rfl (lv_at hl 0 rfl) ?_
  refine lv_iconst (v := 0) hx hb dX4_refusalInMind_1 (by decide) ?_
  refine lv_bipush (v := 99) hx hb dX4_refusalInMind_2 (by decide) ?_
  refine kSiS hx hb hml hown hts hK hP gX4_refusalInMind_X4_outside okX4_outside (qX4_outside l D cI cB v 0 99 ) [] rfl (by decide) hl.1 rfl rfl (Nat.le_of_ble_eq_true rfl) dX4_refusalInMind_4 (by decide) (fun r_1 hr_2 => ?_)
  replace hr_2 : r_1 = ob_ v 0 99 := hr_2
  subst r_1
  refine lv_iload_n hx hb dX4_refusalInMind_7 rfl (lv_at hl 1 rfl) ?_
  refine lv_iconst (v := 1) hx hb dX4_refusalInMind_8 (by decide) ?_
  refine kSiS hx hb hml hown hts hK hP gX4_refusalInMind_X4_unknown okX4_unknown (qX4_unknown l D cI cB q 1 ) [] rfl (by decide) hl.1 rfl rfl (Nat.le_of_ble_eq_true rfl) dX4_refusalInMind_9 (by decide) (fun r_3 hr_4 => ?_)
  replace hr_4 : r_3 = uk_ q 1 := hr_4
  subst r_3
  refine kSiS hx hb hml hown hts hK hP gX4_refusalInMind_X4_firstOf okX4_firstOf (qX4_firstOf l D cI cB (ob_ v 0 99) (uk_ q 1) ) [] rfl (by decide) hl.1 rfl rfl (Nat.le_of_ble_eq_true rfl) dX4_refusalInMind_12 (by decide) (fun r_5 hr_6 => ?_)
  replace hr_6 : r_5 = f2_ (ob_ v 0 99) (uk_ q 1) := hr_6
  subst r_5
  refine rSi hx hb hr hlk ?_ dX4_refusalInMind_15
  show (f2_ (ob_ v 0 99) (uk_ q 1)) = _
  rfl

theorem okX4_refusalOf : jok yX4_refusalOf wsX4_refusalOf cX4_refusalOf 3 (some .int) 2 := ⟨⟨_, rfl⟩, by decide +kernel, by decide +kernel⟩
set_option maxHeartbeats 1000000 in
set_option maxRecDepth 100000 in
theorem qX4_refusalOf (l : Launch) (D : va_G) (cI cB : ClassId) (g : Nat → Nat) (hi : Int32) (tc : Nat) (B : BayT) (a : Int32) (v : Int32) (hn7 : sn_ B ≤ 7) : jSi D cI cB l yX4_refusalOf wsX4_refusalOf 2 [.ref (g 0), .int a, .int v] (xO g hi tc ++ bW cI g 4 B) (fun r => r = wSN_ (sn_ B) a v) := by
  refine jSi.of (cc := cX4_refusalOf) (maxL := 3) (ret := (some .int)) okX4_refusalOf (Nat.le_of_ble_eq_true rfl) ?_
  intro p e s m below meth c ls hx hb hr hts hown hlk hml hP hK hl
  replace hown : s.vm.findClass RX4 = some m.cls := hown
  replace hl : lv_has ls 3 [(0, .ref (g 0)), (1, .int a), (2, .int v)] := hl
  have hinX0 : ∀ w ∈ wsX00, w ∈ wsX4_refusalOf := by decide +kernel
  have hinX4 : ∀ w ∈ wsX40, w ∈ wsX4_refusalOf := by decide +kernel
  refine lv_iload_n hx hb dX4_refusalOf_0 rfl (lv_at hl 1 rfl) ?_
  refine lv_aload_n hx hb dX4_refusalOf_1 rfl (lv_at hl 0 rfl) ?_
  refine va_get (ci := 4) (C := RX4) (T := TX4) (N := 9) hx hb hts hinX4 hown hK.1 hP 0 rfl rfl 1 (by decide) (hts _ (List.mem_of_getElem? (i := 1) rfl)) (fun _ h9 => h9) rfl dX4_refusalOf_2 ?_
  refine va_getN (ci := 0) (C := RX0) (T := TX0) (N := 11) hx hb hts hinX0 hown hK.1 hP 1 rfl rfl 6 (by decide) (va_Nw.use rfl (hK.2 _ (List.mem_of_getElem? (i := 13) rfl))) (fun _ h9 => h9) rfl dX4_refusalOf_5 ?_
  refine kSiS hx hb hml hown hts hK hP gX4_refusalOf_X4_nobody okX4_nobody (qX4_nobody l D cI cB a (nI (sn_ B)) ) [] rfl (by decide) hl.1 rfl rfl (Nat.le_of_ble_eq_true rfl) dX4_refusalOf_8 (by decide) (fun r_1 hr_2 => ?_)
  replace hr_2 : r_1 = nb_ a (nI (sn_ B)) := hr_2
  subst r_1
  refine lv_iload_n hx hb dX4_refusalOf_11 rfl (lv_at hl 2 rfl) ?_
  refine lv_iconst (v := 0) hx hb dX4_refusalOf_12 (by decide) ?_
  refine lv_bipush (v := 99) hx hb dX4_refusalOf_13 (by decide) ?_
  refine kSiS hx hb hml hown hts hK hP gX4_refusalOf_X4_outside okX4_outside (qX4_outside l D cI cB v 0 99 ) [] rfl (by decide) hl.1 rfl rfl (Nat.le_of_ble_eq_true rfl) dX4_refusalOf_15 (by decide) (fun r_3 hr_4 => ?_)
  replace hr_4 : r_3 = ob_ v 0 99 := hr_4
  subst r_3
  refine kSiS hx hb hml hown hts hK hP gX4_refusalOf_X4_firstOf okX4_firstOf (qX4_firstOf l D cI cB (nb_ a (nI (sn_ B))) (ob_ v 0 99) ) [] rfl (by decide) hl.1 rfl rfl (Nat.le_of_ble_eq_true rfl) dX4_refusalOf_18 (by decide) (fun r_5 hr_6 => ?_)
  replace hr_6 : r_5 = f2_ (nb_ a (nI (sn_ B))) (ob_ v 0 99) := hr_6
  subst r_5
  refine rSi hx hb hr hlk ?_ dX4_refusalOf_21
  show (f2_ (nb_ a (nI (sn_ B))) (ob_ v 0 99)) = _
  rfl

theorem okX4_refusalOf_ : jok yX4_refusalOf_ wsX4_refusalOf_ cX4_refusalOf_ 4 (some .int) 3 := ⟨⟨_, rfl⟩, by decide +kernel, by decide +kernel⟩
set_option maxHeartbeats 1000000 in
set_option maxRecDepth 100000 in
theorem qX4_refusalOf_ (l : Launch) (D : va_G) (cI cB : ClassId) (g : Nat → Nat) (hi : Int32) (tc : Nat) (B : BayT) (a : Int32) (v : Int32) (q : Int32) (hn7 : sn_ B ≤ 7) : jSi D cI cB l yX4_refusalOf_ wsX4_refusalOf_ 3 [.ref (g 0), .int a, .int v, .int q] (xO g hi tc ++ bW cI g 4 B) (fun r => r = wSNW_ (sn_ B) a v q) := by
  refine jSi.of (cc := cX4_refusalOf_) (maxL := 4) (ret := (some .int)) okX4_refusalOf_ (Nat.le_of_ble_eq_true rfl) ?_
  intro p e s m below meth c ls hx hb hr hts hown hlk hml hP hK hl
  replace hown : s.vm.findClass RX4 = some m.cls := hown
  replace hl : lv_has ls 4 [(0, .ref (g 0)), (1, .int a), (2, .int v), (3, .int q)] := hl
  refine lv_aload_n hx hb dX4_refusalOf__0 rfl (lv_at hl 0 rfl) ?_
  refine lv_iload_n hx hb dX4_refusalOf__1 rfl (lv_at hl 1 rfl) ?_
  refine lv_iload_n hx hb dX4_refusalOf__2 rfl (lv_at hl 2 rfl) ?_
  refine kSiV hx hb hml hown hts hK hP gX4_refusalOf__X4_refusalOf okX4_refusalOf (qX4_refusalOf l D cI cB g hi tc B a v (by show sn_ B ≤ 7; omega)) [0, 1, 2, 3, 4, 5, 6] rfl rfl rfl rfl (by decide) hl.1 rfl rfl (Nat.le_of_ble_eq_true rfl) dX4_refusalOf__3 (by decide) (fun r_1 hr_2 => ?_)
  replace hr_2 : r_1 = wSN_ (sn_ B) a v := hr_2
  subst r_1
  refine lv_iload_n hx hb dX4_refusalOf__6 rfl (lv_at hl 3 rfl) ?_
  refine lv_iconst (v := 1) hx hb dX4_refusalOf__7 (by decide) ?_
  refine kSiS hx hb hml hown hts hK hP gX4_refusalOf__X4_unknown okX4_unknown (qX4_unknown l D cI cB q 1 ) [] rfl (by decide) hl.1 rfl rfl (Nat.le_of_ble_eq_true rfl) dX4_refusalOf__8 (by decide) (fun r_3 hr_4 => ?_)
  replace hr_4 : r_3 = uk_ q 1 := hr_4
  subst r_3
  refine kSiS hx hb hml hown hts hK hP gX4_refusalOf__X4_firstOf okX4_firstOf (qX4_firstOf l D cI cB (wSN_ (sn_ B) a v) (uk_ q 1) ) [] rfl (by decide) hl.1 rfl rfl (Nat.le_of_ble_eq_true rfl) dX4_refusalOf__11 (by decide) (fun r_5 hr_6 => ?_)
  replace hr_6 : r_5 = f2_ (wSN_ (sn_ B) a v) (uk_ q 1) := hr_6
  subst r_5
  refine rSi hx hb hr hlk ?_ dX4_refusalOf__14
  show (f2_ (wSN_ (sn_ B) a v) (uk_ q 1)) = _
  rfl

theorem okX4_commonDivisor : jok yX4_commonDivisor wsX4_commonDivisor cX4_commonDivisor 7 (some .long) 2 := ⟨⟨_, rfl⟩, by decide +kernel, by decide +kernel⟩
set_option maxHeartbeats 1000000 in
set_option maxRecDepth 100000 in
theorem qX4_commonDivisor (l : Launch) (D : va_G) (cI cB : ClassId) (a : Int64) (b : Int64)  : jSl D cI cB l yX4_commonDivisor wsX4_commonDivisor 0 [.long a, .long b] ([] : va_W) (fun r => r = gc_ 128 a b) := by
  refine jSl.of (cc := cX4_commonDivisor) (maxL := 7) (ret := (some .long)) okX4_commonDivisor (Nat.le_of_ble_eq_true rfl) ?_
  intro p e s m below meth c ls hx hb hr hts hown hlk hml hP hK hl
  replace hown : s.vm.findClass RX4 = some m.cls := hown
  replace hl : lv_has ls 7 [(0, .long a), (2, .long b)] := hl
  refine lv_iconst (v := 0) hx hb dX4_commonDivisor_0 (by decide) ?_
  refine lv_istore (lv' := [(4, .int 0), (0, .long a), (2, .long b)]) hx hb dX4_commonDivisor_1 hl (by decide) rfl (fun ls hl => ?_)
  have lp_3 : ∀ (fu_3 : Nat) (i : Nat) (x0_3 : Int64) (x2_3 : Int64) (x4_3 : Int32) , (x4_3 = nI i) → (i ≤ 128) → (gc_ (128 - i) x0_3 x2_3 = gc_ 128 a b) → 128 - i < fu_3 → ∀ ls : Array Slot, lv_has ls 7 [(4, .int x4_3), (0, .long x0_3), (2, .long x2_3)] → W p l e (jR 0) s m ([.long a, .long b] : List Value).toArray below meth c s.heap [] 0 0 (MQ below (vp_Sl (fun r => r = gc_ 128 a b)) ([.long a, .long b] : List Value).toArray s 0 0 (fun _ => False)) (F0 m 3 ls []) := by
    intro fu_3
    induction fu_3 with
    | zero => intro i x0_3 x2_3 x4_3 hx4_3 hi hre hfu; exact absurd hfu (Nat.not_lt_zero _)
    | succ fu_3 ih_3 =>
      intro i x0_3 x2_3 x4_3 hx4_3 hi hre hfu_3 ls hl
      subst x4_3
      replace hl : lv_has ls 7 [(4, .int (nI i)), (0, .long x0_3), (2, .long x2_3)] := hl
      refine lv_iload hx hb dX4_commonDivisor_3 (lv_at hl 0 rfl) ?_
      refine lv_sipush (v := 128) hx hb dX4_commonDivisor_5 (by decide) ?_
      refine lv_icmp_ge (tgt := 33) hx hb dX4_commonDivisor_8 (by decide) (fun c_8 => ?_) (fun c_8 => ?_)
      · replace c_8 : nI 128 ≤ nI i := c_8
        rw [jle (by omega) (by omega)] at c_8
        refine lv_lload_n hx hb dX4_commonDivisor_33 rfl (lv_at hl 1 rfl) ?_
        refine rSl hx hb hr hlk ?_ dX4_commonDivisor_34
        show x0_3 = _
        first | (rw [gc_0 (by omega)] at hre; exact hre) | (rw [gc_z (by omega) c_14] at hre; exact hre)
      · replace c_8 : ¬ nI 128 ≤ nI i := c_8
        rw [jle (by omega) (by omega)] at c_8
        refine lv_lload_n hx hb dX4_commonDivisor_11 rfl (lv_at hl 2 rfl) ?_
        refine lv_lconst (v := 0) hx hb dX4_commonDivisor_12 rfl ?_
        refine W.lcmp hx hb dX4_commonDivisor_13 ?_
        refine lv_if_eq (tgt := 33) hx hb dX4_commonDivisor_14 (by decide) (fun c_14 => ?_) (fun c_14 => ?_)
        · rw [lg_cmp_eq] at c_14
          refine lv_lload_n hx hb dX4_commonDivisor_33 rfl (lv_at hl 1 rfl) ?_
          refine rSl hx hb hr hlk ?_ dX4_commonDivisor_34
          show x0_3 = _
          first | (rw [gc_0 (by omega)] at hre; exact hre) | (rw [gc_z (by omega) c_14] at hre; exact hre)
        · rw [lg_cmp_eq] at c_14
          refine lv_lload_n hx hb dX4_commonDivisor_17 rfl (lv_at hl 1 rfl) ?_
          refine lv_lload_n hx hb dX4_commonDivisor_18 rfl (lv_at hl 2 rfl) ?_
          refine lv_lrem hx hb dX4_commonDivisor_19 (c_14) ?_
          refine lv_lstore (lv' := [(5, .long (x0_3 - x0_3 / x2_3 * x2_3)), (4, .int (nI i)), (0, .long x0_3), (2, .long x2_3)]) hx hb dX4_commonDivisor_20 hl (by decide) rfl (fun ls hl => ?_)
          refine lv_lload_n hx hb dX4_commonDivisor_22 rfl (lv_at hl 3 rfl) ?_
          refine lv_lstore_n (lv' := [(0, .long x2_3), (5, .long (x0_3 - x0_3 / x2_3 * x2_3)), (4, .int (nI i)), (2, .long x2_3)]) hx hb dX4_commonDivisor_23 rfl hl (by decide) rfl (fun ls hl => ?_)
          refine lv_lload hx hb dX4_commonDivisor_24 (lv_at hl 1 rfl) ?_
          refine lv_lstore_n (lv' := [(2, .long (x0_3 - x0_3 / x2_3 * x2_3)), (0, .long x2_3), (5, .long (x0_3 - x0_3 / x2_3 * x2_3)), (4, .int (nI i))]) hx hb dX4_commonDivisor_26 rfl hl (by decide) rfl (fun ls hl => ?_)
          refine lv_iinc (v := (nI i) + 1) (lv' := [(4, .int ((nI i) + 1)), (2, .long (x0_3 - x0_3 / x2_3 * x2_3)), (0, .long x2_3), (5, .long (x0_3 - x0_3 / x2_3 * x2_3))]) hx hb dX4_commonDivisor_27 hl (k := 3) rfl (by first | rfl | decide) (by decide) rfl (fun ls hl => ?_)
          refine lv_goto (tgt := 3) hx hb dX4_commonDivisor_30 (by decide) ?_
          exact ih_3 (i + 1) x2_3 (x0_3 - x0_3 / x2_3 * x2_3) ((nI i) + 1)  (by first | rfl | exact nI_1 _) (by omega) (by rw [gc_s (by omega) c_14] at hre; exact hre) (by omega) ls (lv_sub hl [0, 2, 1] rfl)
  exact lp_3 (128 + 1) 0 a b 0  (by first | rfl | exact nI_0.symm) (by omega) (rfl) (by omega) ls (lv_sub hl [0, 1, 2] rfl)

theorem okX4_inLowestTerms : jok yX4_inLowestTerms wsX4_inLowestTerms cX4_inLowestTerms 7 (some .long) 3 := ⟨⟨_, rfl⟩, by decide +kernel, by decide +kernel⟩
set_option maxHeartbeats 1000000 in
set_option maxRecDepth 100000 in
theorem qX4_inLowestTerms (l : Launch) (D : va_G) (cI cB : ClassId) (a : Int64) (b : Int64) (p_9 : Int32)  : jSl D cI cB l yX4_inLowestTerms wsX4_inLowestTerms 1 [.long a, .long b, .int p_9] ([] : va_W) (fun r => r = it_ a b p_9) := by
  refine jSl.of (cc := cX4_inLowestTerms) (maxL := 7) (ret := (some .long)) okX4_inLowestTerms (Nat.le_of_ble_eq_true rfl) ?_
  intro p e s m below meth c ls hx hb hr hts hown hlk hml hP hK hl
  replace hown : s.vm.findClass RX4 = some m.cls := hown
  replace hl : lv_has ls 7 [(0, .long a), (2, .long b), (4, .int p_9)] := hl
  refine lv_lload_n hx hb dX4_inLowestTerms_0 rfl (lv_at hl 0 rfl) ?_
  refine lv_lload_n hx hb dX4_inLowestTerms_1 rfl (lv_at hl 1 rfl) ?_
  refine kSlS hx hb hml hown hts hK hP gX4_inLowestTerms_X4_commonDivisor okX4_commonDivisor (qX4_commonDivisor l D cI cB a b ) [] rfl (by decide) hl.1 rfl rfl (Nat.le_of_ble_eq_true rfl) dX4_inLowestTerms_2 (by decide) (fun r_1 hr_2 => ?_)
  replace hr_2 : r_1 = gc_ 128 a b := hr_2
  subst r_1
  refine lv_lstore (lv' := [(5, .long (gc_ 128 a b)), (0, .long a), (2, .long b), (4, .int p_9)]) hx hb dX4_inLowestTerms_5 hl (by decide) rfl (fun ls hl => ?_)
  refine lv_lload hx hb dX4_inLowestTerms_7 (lv_at hl 0 rfl) ?_
  refine lv_lconst (v := 1) hx hb dX4_inLowestTerms_9 rfl ?_
  refine W.lcmp hx hb dX4_inLowestTerms_10 ?_
  refine lv_if_ge (tgt := 18) hx hb dX4_inLowestTerms_11 (by decide) (fun c_11 => ?_) (fun c_11 => ?_)
  · rw [lg_cmp_ge] at c_11
    refine lv_iload hx hb dX4_inLowestTerms_18 (lv_at hl 3 rfl) ?_
    refine lv_if_ne (tgt := 27) hx hb dX4_inLowestTerms_20 (by decide) (fun c_20 => ?_) (fun c_20 => ?_)
    · skip
      refine lv_lload_n hx hb dX4_inLowestTerms_27 rfl (lv_at hl 2 rfl) ?_
      refine lv_lload hx hb dX4_inLowestTerms_28 (lv_at hl 0 rfl) ?_
      refine lv_ldiv hx hb dX4_inLowestTerms_30 (fun q => by rw [q] at c_11; exact absurd c_11 (by decide)) ?_
      refine rSl hx hb hr hlk ?_ dX4_inLowestTerms_31
      show (b / (gc_ 128 a b)) = _
      unfold it_
      first | (rw [if_pos (Int64.not_le.mp c_11)]; done) | (rw [if_pos c_11]; done) | (rw [if_neg (Int64.not_lt.mpr c_11)]; first | rw [if_pos c_20] | rw [if_neg c_20])
    · skip
      refine lv_lload_n hx hb dX4_inLowestTerms_23 rfl (lv_at hl 1 rfl) ?_
      refine lv_goto (tgt := 28) hx hb dX4_inLowestTerms_24 (by decide) ?_
      refine lv_lload hx hb dX4_inLowestTerms_28 (lv_at hl 0 rfl) ?_
      refine lv_ldiv hx hb dX4_inLowestTerms_30 (fun q => by rw [q] at c_11; exact absurd c_11 (by decide)) ?_
      refine rSl hx hb hr hlk ?_ dX4_inLowestTerms_31
      show (a / (gc_ 128 a b)) = _
      unfold it_
      first | (rw [if_pos (Int64.not_le.mp c_11)]; done) | (rw [if_pos c_11]; done) | (rw [if_neg (Int64.not_lt.mpr c_11)]; first | rw [if_pos c_20] | rw [if_neg c_20])
  · replace c_11 := Int32.not_le.mp c_11
    rw [lg_cmp_lt] at c_11
    refine lv_ldc2 hx hb hown (hts _ (List.mem_of_getElem? (i := 1) rfl)) dX4_inLowestTerms_14 ?_
    refine rSl hx hb hr hlk ?_ dX4_inLowestTerms_17
    show (-9) = _
    unfold it_
    first | (rw [if_pos (Int64.not_le.mp c_11)]; done) | (rw [if_pos c_11]; done) | (rw [if_neg (Int64.not_lt.mpr c_11)]; first | rw [if_pos c_20] | rw [if_neg c_20])

theorem okX4_noise : jok yX4_noise wsX4_noise cX4_noise 4 (some .int) 2 := ⟨⟨_, rfl⟩, by decide +kernel, by decide +kernel⟩
set_option maxHeartbeats 1000000 in
set_option maxRecDepth 100000 in
theorem qX4_noise (l : Launch) (D : va_G) (cI cB : ClassId) (g : Nat → Nat) (hi : Int32) (tc : Nat) (B : BayT) (T : BayT) (rf : Nat → Int32) (a : Int32) (h : Int32) (hn7 : sn_ B ≤ 7) : jMi D cI cB l yX4_noise wsX4_noise 2 [.ref (g 0), .int a, .int h] (xO g hi tc ++ miO g ++ bW cI g 4 B ++ bW cI g 10 T ++ rW cI g rf) (S := BayT × (Nat → Int32)) (fun r u => r = (if f2_ (nb_ a (nI (sn_ B))) (nb_ h 24) = 0 then no_ B (tn_ a) h else f2_ (nb_ a (nI (sn_ B))) (nb_ h 24)) ∧ u.2 = rfx_ rf (f2_ (nb_ a (nI (sn_ B))) (nb_ h 24))) (fun u => xO g hi tc ++ miO g ++ bW cI g 4 B ++ bW cI g 10 u.1 ++ rW cI g u.2) := by
  refine jMi.of (cc := cX4_noise) (maxL := 4) (ret := (some .int)) okX4_noise (Nat.le_of_ble_eq_true rfl) ?_
  intro p e s m below meth c ls A hx hb hr hts hown hlk hml hP hK hD hA hS hl
  replace hown : s.vm.findClass RX4 = some m.cls := hown
  replace hl : lv_has ls 4 [(0, .ref (g 0)), (1, .int a), (2, .int h)] := hl
  have hinX0 : ∀ w ∈ wsX00, w ∈ wsX4_noise := by decide +kernel
  have hinX4 : ∀ w ∈ wsX40, w ∈ wsX4_noise := by decide +kernel
  refine lv_iload_n hx hb dX4_noise_0 rfl (lv_at hl 1 rfl) ?_
  refine lv_aload_n hx hb dX4_noise_1 rfl (lv_at hl 0 rfl) ?_
  refine va_get (ci := 4) (C := RX4) (T := TX4) (N := 9) hx hb hts hinX4 hown hK.1 hP 0 rfl rfl 1 (by decide) (hts _ (List.mem_of_getElem? (i := 1) rfl)) (fun _ h9 => h9) rfl dX4_noise_2 ?_
  refine va_getN (ci := 0) (C := RX0) (T := TX0) (N := 11) hx hb hts hinX0 hown hK.1 hP 2 rfl rfl 6 (by decide) (va_Nw.use rfl (hK.2 _ (List.mem_of_getElem? (i := 13) rfl))) (fun _ h9 => h9) rfl dX4_noise_5 ?_
  refine kSiS hx hb hml hown hts hK hP gX4_noise_X4_nobody okX4_nobody (qX4_nobody l D cI cB a (nI (sn_ B)) ) [] rfl (by decide) hl.1 rfl rfl (Nat.le_of_ble_eq_true rfl) dX4_noise_8 (by decide) (fun r_1 hr_2 => ?_)
  replace hr_2 : r_1 = nb_ a (nI (sn_ B)) := hr_2
  subst r_1
  refine lv_iload_n hx hb dX4_noise_11 rfl (lv_at hl 2 rfl) ?_
  refine lv_bipush (v := 24) hx hb dX4_noise_12 (by decide) ?_
  refine kSiS hx hb hml hown hts hK hP gX4_noise_X4_nobody okX4_nobody (qX4_nobody l D cI cB h 24 ) [] rfl (by decide) hl.1 rfl rfl (Nat.le_of_ble_eq_true rfl) dX4_noise_14 (by decide) (fun r_3 hr_4 => ?_)
  replace hr_4 : r_3 = nb_ h 24 := hr_4
  subst r_3
  refine kSiS hx hb hml hown hts hK hP gX4_noise_X4_firstOf okX4_firstOf (qX4_firstOf l D cI cB (nb_ a (nI (sn_ B))) (nb_ h 24) ) [] rfl (by decide) hl.1 rfl rfl (Nat.le_of_ble_eq_true rfl) dX4_noise_17 (by decide) (fun r_5 hr_6 => ?_)
  replace hr_6 : r_5 = f2_ (nb_ a (nI (sn_ B))) (nb_ h 24) := hr_6
  subst r_5
  refine lv_istore_n (lv' := [(3, .int (f2_ (nb_ a (nI (sn_ B))) (nb_ h 24))), (0, .ref (g 0)), (1, .int a), (2, .int h)]) hx hb dX4_noise_20 rfl hl (by decide) rfl (fun ls hl => ?_)
  refine lv_iload_n hx hb dX4_noise_21 rfl (lv_at hl 0 rfl) ?_
  refine lv_if_eq (tgt := 33) hx hb dX4_noise_22 (by decide) (fun c_22 => ?_) (fun c_22 => ?_)
  · skip
    have w0 := c_22
    simp only [wS_, wSN_, wSNW_, wNW_, wTh_, f2_0, nb_0, ob_0, uk_0, lo_0, hi_0] at w0
    obtain ⟨a_, ha_, rfl⟩ := pl_lt (n := sn_ B) (by omega) w0.1
    replace hl : lv_has ls 4 [(3, .int (f2_ (nb_ (nI a_) (nI (sn_ B))) (nb_ h 24))), (0, .ref (g 0)), (1, .int (nI a_)), (2, .int h)] := hl
    refine lv_aload_n hx hb dX4_noise_33 rfl (lv_at hl 1 rfl) ?_
    refine va_get (ci := 4) (C := RX4) (T := TX4) (N := 9) hx hb hts hinX4 hown hK.1 hP 0 rfl rfl 1 (by decide) (hts _ (List.mem_of_getElem? (i := 1) rfl)) (fun _ h9 => h9) rfl dX4_noise_34 ?_
    refine lv_iload_n hx hb dX4_noise_37 rfl (lv_at hl 2 rfl) ?_
    refine lv_iload_n hx hb dX4_noise_38 rfl (lv_at hl 3 rfl) ?_
    refine kSiN hx hb hml hown hts hK hP gX4_noise_X0_noiseOf_n207 (hK.2 _ (List.mem_of_getElem? (i := 70) rfl)) (hts _ (List.mem_of_getElem? (i := 15) rfl)) (hts _ (List.mem_of_getElem? (i := 14) rfl)) (hts _ (List.mem_of_getElem? (i := 16) rfl)) okX0_noiseOf (qX0_noiseOf l D cI cB g 4 B a_ h (by show sn_ B ≤ 7; omega) (by omega)) [2, 3, 4, 5, 6, 7] rfl rfl rfl rfl (by decide) hl.1 rfl rfl (Nat.le_of_ble_eq_true rfl) dX4_noise_39 (by decide) (fun r_7 hr_8 => ?_)
    replace hr_8 : r_7 = no_ B a_ h := hr_8
    subst r_7
    refine rMi hx hb hr hlk hS (T, rf) hP ?_ dX4_noise_42
    first | (refine ⟨?_, rfx_0 c_22⟩; rw [if_pos c_22]; (try simp only [tn_n (show a_ < 2147483648 by omega)]); first | done | rfl | (simp_all; done)) | exact ⟨(if_neg c_22).symm, rfl⟩
  · skip
    refine lv_aload_n hx hb dX4_noise_25 rfl (lv_at hl 1 rfl) ?_
    refine lv_iload_n hx hb dX4_noise_26 rfl (lv_at hl 0 rfl) ?_
    refine kMiV hx hb hml hown hts hK hP hD hA hS gX4_noise_X4_refuse okX4_refuse (qX4_refuse l D cI cB g hi tc rf (f2_ (nb_ a (nI (sn_ B))) (nb_ h 24)) (rc0_n (by first | exact rc0_wS _ _ | exact rc0_wSN _ _ _ | exact rc0_wSNW _ _ _ _ | exact rc0_wNW _ _ | exact rc0_wTh _ _ _ _ _ | exact rc0_nb _ _ | exact rc0_uk _ _ | exact rc0_ob _ _ _ | exact rc0_f2 (rc0_nb _ _) (rc0_nb _ _) | exact rc0_f2 (rc0_nb _ _) (rc0_uk _ _) | exact rc0_f2 (rc0_ob _ _ _) (rc0_uk _ _) | exact rc0_f2 (rc0_uk _ _) (rc0_f2 (rc0_uk _ _) (rc0_ob _ _ _)) | exact rc0_f2 (rc0_f2 (rc0_nb _ _) (rc0_nb _ _)) (rc0_if (Or.inr (Or.inl rfl)) (rc0_uk _ _))) c_22)) [0, 14] rfl (by decide) (fun _ => rfl) rfl rfl rfl (by decide) hl.1 rfl rfl (Nat.le_of_ble_eq_true rfl) dX4_noise_27 (by decide) (fun r_9 u_10 H locs hw_11 hP hD hS => ?_)
    replace hw_11 : r_9 = f2_ (nb_ a (nI (sn_ B))) (nb_ h 24) ∧ u_10 = rfx_ rf (f2_ (nb_ a (nI (sn_ B))) (nb_ h 24)) := hw_11
    obtain ⟨hw_11a, hw_11b⟩ := hw_11
    subst r_9
    subst u_10
    replace hP : va_P D vwCl (xO g hi tc ++ miO g ++ bW cI g 4 B ++ bW cI g 10 T ++ rW cI g (rfx_ rf (f2_ (nb_ a (nI (sn_ B))) (nb_ h 24)))) H := (va_P.m [true, false, false, false, false, false, false, false, false, false, false, false, false, false, true] [] hP)
    replace hD : va_D A (xO g hi tc ++ miO g ++ bW cI g 4 B ++ bW cI g 10 T ++ rW cI g (rfx_ rf (f2_ (nb_ a (nI (sn_ B))) (nb_ h 24)))) := (va_D.m [true, false, false, false, false, false, false, false, false, false, false, false, false, false, true] [] hD)
    refine lv_goto (tgt := 42) hx hb dX4_noise_30 (by decide) ?_
    refine rMi hx hb hr hlk hS (T, (rfx_ rf (f2_ (nb_ a (nI (sn_ B))) (nb_ h 24)))) hP ?_ dX4_noise_42
    first | (refine ⟨?_, rfx_0 c_22⟩; rw [if_pos c_22]; (try simp only [tn_n (show a_ < 2147483648 by omega)]); first | done | rfl | (simp_all; done)) | exact ⟨(if_neg c_22).symm, rfl⟩

theorem okX4_shoreOf : jok yX4_shoreOf wsX4_shoreOf cX4_shoreOf 4 (some .int) 2 := ⟨⟨_, rfl⟩, by decide +kernel, by decide +kernel⟩
set_option maxHeartbeats 1000000 in
set_option maxRecDepth 100000 in
theorem qX4_shoreOf (l : Launch) (D : va_G) (cI cB : ClassId) (g : Nat → Nat) (hi : Int32) (tc : Nat) (B : BayT) (T : BayT) (rf : Nat → Int32) (a : Int32) (q : Int32) (hn7 : sn_ B ≤ 7) : jMi D cI cB l yX4_shoreOf wsX4_shoreOf 1 [.ref (g 0), .int a, .int q] (xO g hi tc ++ miO g ++ bW cI g 4 B ++ bW cI g 10 T ++ rW cI g rf) (S := BayT × (Nat → Int32)) (fun r u => r = (if f2_ (nb_ a (nI (sn_ B))) (uk_ q 7) = 0 then soX_ B (tn_ a) q else f2_ (nb_ a (nI (sn_ B))) (uk_ q 7)) ∧ u.2 = rfx_ rf (f2_ (nb_ a (nI (sn_ B))) (uk_ q 7))) (fun u => xO g hi tc ++ miO g ++ bW cI g 4 B ++ bW cI g 10 u.1 ++ rW cI g u.2) := by
  refine jMi.of (cc := cX4_shoreOf) (maxL := 4) (ret := (some .int)) okX4_shoreOf (Nat.le_of_ble_eq_true rfl) ?_
  intro p e s m below meth c ls A hx hb hr hts hown hlk hml hP hK hD hA hS hl
  replace hown : s.vm.findClass RX4 = some m.cls := hown
  replace hl : lv_has ls 4 [(0, .ref (g 0)), (1, .int a), (2, .int q)] := hl
  have hinX0 : ∀ w ∈ wsX00, w ∈ wsX4_shoreOf := by decide +kernel
  have hinX4 : ∀ w ∈ wsX40, w ∈ wsX4_shoreOf := by decide +kernel
  refine lv_iload_n hx hb dX4_shoreOf_0 rfl (lv_at hl 1 rfl) ?_
  refine lv_aload_n hx hb dX4_shoreOf_1 rfl (lv_at hl 0 rfl) ?_
  refine va_get (ci := 4) (C := RX4) (T := TX4) (N := 9) hx hb hts hinX4 hown hK.1 hP 0 rfl rfl 1 (by decide) (hts _ (List.mem_of_getElem? (i := 1) rfl)) (fun _ h9 => h9) rfl dX4_shoreOf_2 ?_
  refine va_getN (ci := 0) (C := RX0) (T := TX0) (N := 11) hx hb hts hinX0 hown hK.1 hP 2 rfl rfl 6 (by decide) (va_Nw.use rfl (hK.2 _ (List.mem_of_getElem? (i := 13) rfl))) (fun _ h9 => h9) rfl dX4_shoreOf_5 ?_
  refine kSiS hx hb hml hown hts hK hP gX4_shoreOf_X4_nobody okX4_nobody (qX4_nobody l D cI cB a (nI (sn_ B)) ) [] rfl (by decide) hl.1 rfl rfl (Nat.le_of_ble_eq_true rfl) dX4_shoreOf_8 (by decide) (fun r_1 hr_2 => ?_)
  replace hr_2 : r_1 = nb_ a (nI (sn_ B)) := hr_2
  subst r_1
  refine lv_iload_n hx hb dX4_shoreOf_11 rfl (lv_at hl 2 rfl) ?_
  refine lv_bipush (v := 7) hx hb dX4_shoreOf_12 (by decide) ?_
  refine kSiS hx hb hml hown hts hK hP gX4_shoreOf_X4_unknown okX4_unknown (qX4_unknown l D cI cB q 7 ) [] rfl (by decide) hl.1 rfl rfl (Nat.le_of_ble_eq_true rfl) dX4_shoreOf_14 (by decide) (fun r_3 hr_4 => ?_)
  replace hr_4 : r_3 = uk_ q 7 := hr_4
  subst r_3
  refine kSiS hx hb hml hown hts hK hP gX4_shoreOf_X4_firstOf okX4_firstOf (qX4_firstOf l D cI cB (nb_ a (nI (sn_ B))) (uk_ q 7) ) [] rfl (by decide) hl.1 rfl rfl (Nat.le_of_ble_eq_true rfl) dX4_shoreOf_17 (by decide) (fun r_5 hr_6 => ?_)
  replace hr_6 : r_5 = f2_ (nb_ a (nI (sn_ B))) (uk_ q 7) := hr_6
  subst r_5
  refine lv_istore_n (lv' := [(3, .int (f2_ (nb_ a (nI (sn_ B))) (uk_ q 7))), (0, .ref (g 0)), (1, .int a), (2, .int q)]) hx hb dX4_shoreOf_20 rfl hl (by decide) rfl (fun ls hl => ?_)
  refine lv_iload_n hx hb dX4_shoreOf_21 rfl (lv_at hl 0 rfl) ?_
  refine lv_if_eq (tgt := 31) hx hb dX4_shoreOf_22 (by decide) (fun c_22 => ?_) (fun c_22 => ?_)
  · skip
    have w0 := c_22
    simp only [wS_, wSN_, wSNW_, wNW_, wTh_, f2_0, nb_0, ob_0, uk_0, lo_0, hi_0] at w0
    obtain ⟨a_, ha_, rfl⟩ := pl_lt (n := sn_ B) (by omega) w0.1
    replace hl : lv_has ls 4 [(3, .int (f2_ (nb_ (nI a_) (nI (sn_ B))) (uk_ q 7))), (0, .ref (g 0)), (1, .int (nI a_)), (2, .int q)] := hl
    refine lv_iload_n hx hb dX4_shoreOf_31 rfl (lv_at hl 3 rfl) ?_
    by_cases c_32_0 : q = 0
    · refine lv_tableIn (off := 44) (tgt := 76) hx hb dX4_shoreOf_32 (by rw [c_32_0]; decide) (by rw [c_32_0]; decide) (by rw [c_32_0]; rfl) (by decide) ?_
      refine lv_aload_n hx hb dX4_shoreOf_76 rfl (lv_at hl 1 rfl) ?_
      refine va_get (ci := 4) (C := RX4) (T := TX4) (N := 9) hx hb hts hinX4 hown hK.1 hP 0 rfl rfl 1 (by decide) (hts _ (List.mem_of_getElem? (i := 1) rfl)) (fun _ h9 => h9) rfl dX4_shoreOf_77 ?_
      refine va_getN (ci := 0) (C := RX0) (T := TX0) (N := 11) hx hb hts hinX0 hown hK.1 hP 2 rfl rfl 0 (by decide) (va_Nw.use rfl (hK.2 _ (List.mem_of_getElem? (i := 2) rfl))) (fun _ h9 => h9) rfl dX4_shoreOf_80 ?_
      refine lv_iload_n hx hb dX4_shoreOf_83 rfl (lv_at hl 2 rfl) ?_
      refine jald hx hb hK.1 hP 3 0 a_ rfl rfl rfl (by omega) (Nat.le_of_ble_eq_true rfl) dX4_shoreOf_84 ?_
      refine rMi hx hb hr hlk hS (T, rf) hP ?_ dX4_shoreOf_85
      first | exact ⟨(if_neg c_22).symm, rfl⟩ | (refine ⟨?_, rfx_0 c_22⟩; rw [if_pos c_22, tn_n (by omega)]; unfold soX_; simp [*, b1]; done)
    by_cases c_32_1 : q = 1
    · refine lv_tableIn (off := 54) (tgt := 86) hx hb dX4_shoreOf_32 (by rw [c_32_1]; decide) (by rw [c_32_1]; decide) (by rw [c_32_1]; rfl) (by decide) ?_
      refine lv_aload_n hx hb dX4_shoreOf_86 rfl (lv_at hl 1 rfl) ?_
      refine va_get (ci := 4) (C := RX4) (T := TX4) (N := 9) hx hb hts hinX4 hown hK.1 hP 0 rfl rfl 1 (by decide) (hts _ (List.mem_of_getElem? (i := 1) rfl)) (fun _ h9 => h9) rfl dX4_shoreOf_87 ?_
      refine va_getN (ci := 0) (C := RX0) (T := TX0) (N := 11) hx hb hts hinX0 hown hK.1 hP 2 rfl rfl 1 (by decide) (va_Nw.use rfl (hK.2 _ (List.mem_of_getElem? (i := 4) rfl))) (fun _ h9 => h9) rfl dX4_shoreOf_90 ?_
      refine lv_iload_n hx hb dX4_shoreOf_93 rfl (lv_at hl 2 rfl) ?_
      refine jald hx hb hK.1 hP 4 0 a_ rfl rfl rfl (by omega) (Nat.le_of_ble_eq_true rfl) dX4_shoreOf_94 ?_
      refine rMi hx hb hr hlk hS (T, rf) hP ?_ dX4_shoreOf_95
      first | exact ⟨(if_neg c_22).symm, rfl⟩ | (refine ⟨?_, rfx_0 c_22⟩; rw [if_pos c_22, tn_n (by omega)]; unfold soX_; simp [*, b1]; done)
    by_cases c_32_2 : q = 2
    · refine lv_tableIn (off := 64) (tgt := 96) hx hb dX4_shoreOf_32 (by rw [c_32_2]; decide) (by rw [c_32_2]; decide) (by rw [c_32_2]; rfl) (by decide) ?_
      refine lv_aload_n hx hb dX4_shoreOf_96 rfl (lv_at hl 1 rfl) ?_
      refine va_get (ci := 4) (C := RX4) (T := TX4) (N := 9) hx hb hts hinX4 hown hK.1 hP 0 rfl rfl 1 (by decide) (hts _ (List.mem_of_getElem? (i := 1) rfl)) (fun _ h9 => h9) rfl dX4_shoreOf_97 ?_
      refine va_getN (ci := 0) (C := RX0) (T := TX0) (N := 11) hx hb hts hinX0 hown hK.1 hP 2 rfl rfl 2 (by decide) (va_Nw.use rfl (hK.2 _ (List.mem_of_getElem? (i := 6) rfl))) (fun _ h9 => h9) rfl dX4_shoreOf_100 ?_
      refine lv_iload_n hx hb dX4_shoreOf_103 rfl (lv_at hl 2 rfl) ?_
      refine jald hx hb hK.1 hP 5 0 a_ rfl rfl rfl (by omega) (Nat.le_of_ble_eq_true rfl) dX4_shoreOf_104 ?_
      refine rMi hx hb hr hlk hS (T, rf) hP ?_ dX4_shoreOf_105
      first | exact ⟨(if_neg c_22).symm, rfl⟩ | (refine ⟨?_, rfx_0 c_22⟩; rw [if_pos c_22, tn_n (by omega)]; unfold soX_; simp [*, b1]; done)
    by_cases c_32_3 : q = 3
    · refine lv_tableIn (off := 74) (tgt := 106) hx hb dX4_shoreOf_32 (by rw [c_32_3]; decide) (by rw [c_32_3]; decide) (by rw [c_32_3]; rfl) (by decide) ?_
      refine lv_aload_n hx hb dX4_shoreOf_106 rfl (lv_at hl 1 rfl) ?_
      refine va_get (ci := 4) (C := RX4) (T := TX4) (N := 9) hx hb hts hinX4 hown hK.1 hP 0 rfl rfl 1 (by decide) (hts _ (List.mem_of_getElem? (i := 1) rfl)) (fun _ h9 => h9) rfl dX4_shoreOf_107 ?_
      refine va_getN (ci := 0) (C := RX0) (T := TX0) (N := 11) hx hb hts hinX0 hown hK.1 hP 2 rfl rfl 3 (by decide) (va_Nw.use rfl (hK.2 _ (List.mem_of_getElem? (i := 8) rfl))) (fun _ h9 => h9) rfl dX4_shoreOf_110 ?_
      refine lv_iload_n hx hb dX4_shoreOf_113 rfl (lv_at hl 2 rfl) ?_
      refine jald hx hb hK.1 hP 6 0 a_ rfl rfl rfl (by omega) (Nat.le_of_ble_eq_true rfl) dX4_shoreOf_114 ?_
      refine rMi hx hb hr hlk hS (T, rf) hP ?_ dX4_shoreOf_115
      first | exact ⟨(if_neg c_22).symm, rfl⟩ | (refine ⟨?_, rfx_0 c_22⟩; rw [if_pos c_22, tn_n (by omega)]; unfold soX_; simp [*, b1]; done)
    by_cases c_32_4 : q = 4
    · refine lv_tableIn (off := 84) (tgt := 116) hx hb dX4_shoreOf_32 (by rw [c_32_4]; decide) (by rw [c_32_4]; decide) (by rw [c_32_4]; rfl) (by decide) ?_
      refine lv_aload_n hx hb dX4_shoreOf_116 rfl (lv_at hl 1 rfl) ?_
      refine va_get (ci := 4) (C := RX4) (T := TX4) (N := 9) hx hb hts hinX4 hown hK.1 hP 0 rfl rfl 1 (by decide) (hts _ (List.mem_of_getElem? (i := 1) rfl)) (fun _ h9 => h9) rfl dX4_shoreOf_117 ?_
      refine lv_iload_n hx hb dX4_shoreOf_120 rfl (lv_at hl 2 rfl) ?_
      refine kSiN hx hb hml hown hts hK hP gX4_shoreOf_X0_isQuiet_n127 (hK.2 _ (List.mem_of_getElem? (i := 52) rfl)) (hts _ (List.mem_of_getElem? (i := 18) rfl)) (hts _ (List.mem_of_getElem? (i := 17) rfl)) (hts _ (List.mem_of_getElem? (i := 19) rfl)) okX0_isQuiet (qX0_isQuiet l D cI cB g 4 B a_ (by show sn_ B ≤ 7; omega) (by omega)) [2, 3, 4, 5, 6, 7] rfl rfl rfl rfl (by decide) hl.1 rfl rfl (Nat.le_of_ble_eq_true rfl) dX4_shoreOf_121 (by decide) (fun r_7 hr_8 => ?_)
      replace hr_8 : r_7 = b1 (qb_ (qt_ B) a_ = 1) := hr_8
      subst r_7
      refine lv_if_eq (tgt := 131) hx hb dX4_shoreOf_124 (by decide) (fun c_124 => ?_) (fun c_124 => ?_)
      · replace c_124 := b1_z c_124
        refine lv_iconst (v := 0) hx hb dX4_shoreOf_131 (by decide) ?_
        refine rMi hx hb hr hlk hS (T, rf) hP ?_ dX4_shoreOf_132
        first | exact ⟨(if_neg c_22).symm, rfl⟩ | (refine ⟨?_, rfx_0 c_22⟩; rw [if_pos c_22, tn_n (by omega)]; unfold soX_; simp [*, b1]; done)
      · replace c_124 := b1_n c_124
        refine lv_iconst (v := 1) hx hb dX4_shoreOf_127 (by decide) ?_
        refine lv_goto (tgt := 132) hx hb dX4_shoreOf_128 (by decide) ?_
        refine rMi hx hb hr hlk hS (T, rf) hP ?_ dX4_shoreOf_132
        first | exact ⟨(if_neg c_22).symm, rfl⟩ | (refine ⟨?_, rfx_0 c_22⟩; rw [if_pos c_22, tn_n (by omega)]; unfold soX_; simp [*, b1]; done)
    by_cases c_32_5 : q = 5
    · refine lv_tableIn (off := 101) (tgt := 133) hx hb dX4_shoreOf_32 (by rw [c_32_5]; decide) (by rw [c_32_5]; decide) (by rw [c_32_5]; rfl) (by decide) ?_
      refine lv_aload_n hx hb dX4_shoreOf_133 rfl (lv_at hl 1 rfl) ?_
      refine va_get (ci := 4) (C := RX4) (T := TX4) (N := 9) hx hb hts hinX4 hown hK.1 hP 0 rfl rfl 1 (by decide) (hts _ (List.mem_of_getElem? (i := 1) rfl)) (fun _ h9 => h9) rfl dX4_shoreOf_134 ?_
      refine va_getN (ci := 0) (C := RX0) (T := TX0) (N := 11) hx hb hts hinX0 hown hK.1 hP 2 rfl rfl 4 (by decide) (va_Nw.use rfl (hK.2 _ (List.mem_of_getElem? (i := 9) rfl))) (fun _ h9 => h9) rfl dX4_shoreOf_137 ?_
      refine lv_iload_n hx hb dX4_shoreOf_140 rfl (lv_at hl 2 rfl) ?_
      refine jald hx hb hK.1 hP 7 0 a_ rfl rfl rfl (by omega) (Nat.le_of_ble_eq_true rfl) dX4_shoreOf_141 ?_
      refine rMi hx hb hr hlk hS (T, rf) hP ?_ dX4_shoreOf_142
      first | exact ⟨(if_neg c_22).symm, rfl⟩ | (refine ⟨?_, rfx_0 c_22⟩; rw [if_pos c_22, tn_n (by omega)]; unfold soX_; simp [*, b1]; done)
    by_cases c_32_6 : q = 6
    · refine lv_tableIn (off := 111) (tgt := 143) hx hb dX4_shoreOf_32 (by rw [c_32_6]; decide) (by rw [c_32_6]; decide) (by rw [c_32_6]; rfl) (by decide) ?_
      refine lv_aload_n hx hb dX4_shoreOf_143 rfl (lv_at hl 1 rfl) ?_
      refine va_get (ci := 4) (C := RX4) (T := TX4) (N := 9) hx hb hts hinX4 hown hK.1 hP 0 rfl rfl 1 (by decide) (hts _ (List.mem_of_getElem? (i := 1) rfl)) (fun _ h9 => h9) rfl dX4_shoreOf_144 ?_
      refine lv_iload_n hx hb dX4_shoreOf_147 rfl (lv_at hl 2 rfl) ?_
      refine kSiN hx hb hml hown hts hK hP gX4_shoreOf_X0_costOf_n134 (hK.2 _ (List.mem_of_getElem? (i := 53) rfl)) (hts _ (List.mem_of_getElem? (i := 18) rfl)) (hts _ (List.mem_of_getElem? (i := 22) rfl)) (hts _ (List.mem_of_getElem? (i := 23) rfl)) okX0_costOf (qX0_costOf l D cI cB g 4 B a_ (by show sn_ B ≤ 7; omega) (by omega)) [2, 3, 4, 5, 6, 7] rfl rfl rfl rfl (by decide) hl.1 rfl rfl (Nat.le_of_ble_eq_true rfl) dX4_shoreOf_148 (by decide) (fun r_9 hr_10 => ?_)
      replace hr_10 : r_9 = co_ (kd_ B a_) (fg_ B a_) := hr_10
      subst r_9
      refine rMi hx hb hr hlk hS (T, rf) hP ?_ dX4_shoreOf_151
      first | exact ⟨(if_neg c_22).symm, rfl⟩ | (refine ⟨?_, rfx_0 c_22⟩; rw [if_pos c_22, tn_n (by omega)]; unfold soX_; simp [*, b1]; done)
    refine lv_tableOut (tgt := 152) hx hb dX4_shoreOf_32 (by have t0 := lv_neT c_32_0 (a := 0) (by decide); have t1 := lv_neT c_32_1 (a := 1) (by decide); have t2 := lv_neT c_32_2 (a := 2) (by decide); have t3 := lv_neT c_32_3 (a := 3) (by decide); have t4 := lv_neT c_32_4 (a := 4) (by decide); have t5 := lv_neT c_32_5 (a := 5) (by decide); have t6 := lv_neT c_32_6 (a := 6) (by decide); omega) (by decide) ?_
    refine lv_aload_n hx hb dX4_shoreOf_152 rfl (lv_at hl 1 rfl) ?_
    refine va_get (ci := 4) (C := RX4) (T := TX4) (N := 9) hx hb hts hinX4 hown hK.1 hP 0 rfl rfl 1 (by decide) (hts _ (List.mem_of_getElem? (i := 1) rfl)) (fun _ h9 => h9) rfl dX4_shoreOf_153 ?_
    refine lv_iload_n hx hb dX4_shoreOf_156 rfl (lv_at hl 2 rfl) ?_
    refine kSiN hx hb hml hown hts hK hP gX4_shoreOf_X0_hasIsle_n137 (hK.2 _ (List.mem_of_getElem? (i := 54) rfl)) (hts _ (List.mem_of_getElem? (i := 18) rfl)) (hts _ (List.mem_of_getElem? (i := 27) rfl)) (hts _ (List.mem_of_getElem? (i := 28) rfl)) okX0_hasIsle (qX0_hasIsle l D cI cB g 4 B a_ (by show sn_ B ≤ 7; omega) (by omega)) [2, 3, 4, 5, 6, 7] rfl rfl rfl rfl (by decide) hl.1 rfl rfl (Nat.le_of_ble_eq_true rfl) dX4_shoreOf_157 (by decide) (fun r_11 hr_12 => ?_)
    replace hr_12 : r_11 = b1 (pl_ B a_ = il_ B) := hr_12
    subst r_11
    refine lv_if_eq (tgt := 167) hx hb dX4_shoreOf_160 (by decide) (fun c_160 => ?_) (fun c_160 => ?_)
    · replace c_160 := b1_z c_160
      refine lv_iconst (v := 0) hx hb dX4_shoreOf_167 (by decide) ?_
      refine rMi hx hb hr hlk hS (T, rf) hP ?_ dX4_shoreOf_168
      first | exact ⟨(if_neg c_22).symm, rfl⟩ | (refine ⟨?_, rfx_0 c_22⟩; rw [if_pos c_22, tn_n (by omega)]; unfold soX_; simp [*, b1]; done)
    · replace c_160 := b1_n c_160
      refine lv_iconst (v := 1) hx hb dX4_shoreOf_163 (by decide) ?_
      refine lv_goto (tgt := 168) hx hb dX4_shoreOf_164 (by decide) ?_
      refine rMi hx hb hr hlk hS (T, rf) hP ?_ dX4_shoreOf_168
      first | exact ⟨(if_neg c_22).symm, rfl⟩ | (refine ⟨?_, rfx_0 c_22⟩; rw [if_pos c_22, tn_n (by omega)]; unfold soX_; simp [*, b1]; done)
  · skip
    refine lv_aload_n hx hb dX4_shoreOf_25 rfl (lv_at hl 1 rfl) ?_
    refine lv_iload_n hx hb dX4_shoreOf_26 rfl (lv_at hl 0 rfl) ?_
    refine kMiV hx hb hml hown hts hK hP hD hA hS gX4_shoreOf_X4_refuse okX4_refuse (qX4_refuse l D cI cB g hi tc rf (f2_ (nb_ a (nI (sn_ B))) (uk_ q 7)) (rc0_n (by first | exact rc0_wS _ _ | exact rc0_wSN _ _ _ | exact rc0_wSNW _ _ _ _ | exact rc0_wNW _ _ | exact rc0_wTh _ _ _ _ _ | exact rc0_nb _ _ | exact rc0_uk _ _ | exact rc0_ob _ _ _ | exact rc0_f2 (rc0_nb _ _) (rc0_nb _ _) | exact rc0_f2 (rc0_nb _ _) (rc0_uk _ _) | exact rc0_f2 (rc0_ob _ _ _) (rc0_uk _ _) | exact rc0_f2 (rc0_uk _ _) (rc0_f2 (rc0_uk _ _) (rc0_ob _ _ _)) | exact rc0_f2 (rc0_f2 (rc0_nb _ _) (rc0_nb _ _)) (rc0_if (Or.inr (Or.inl rfl)) (rc0_uk _ _))) c_22)) [0, 14] rfl (by decide) (fun _ => rfl) rfl rfl rfl (by decide) hl.1 rfl rfl (Nat.le_of_ble_eq_true rfl) dX4_shoreOf_27 (by decide) (fun r_13 u_14 H locs hw_15 hP hD hS => ?_)
    replace hw_15 : r_13 = f2_ (nb_ a (nI (sn_ B))) (uk_ q 7) ∧ u_14 = rfx_ rf (f2_ (nb_ a (nI (sn_ B))) (uk_ q 7)) := hw_15
    obtain ⟨hw_15a, hw_15b⟩ := hw_15
    subst r_13
    subst u_14
    replace hP : va_P D vwCl (xO g hi tc ++ miO g ++ bW cI g 4 B ++ bW cI g 10 T ++ rW cI g (rfx_ rf (f2_ (nb_ a (nI (sn_ B))) (uk_ q 7)))) H := (va_P.m [true, false, false, false, false, false, false, false, false, false, false, false, false, false, true] [] hP)
    replace hD : va_D A (xO g hi tc ++ miO g ++ bW cI g 4 B ++ bW cI g 10 T ++ rW cI g (rfx_ rf (f2_ (nb_ a (nI (sn_ B))) (uk_ q 7)))) := (va_D.m [true, false, false, false, false, false, false, false, false, false, false, false, false, false, true] [] hD)
    refine rMi hx hb hr hlk hS (T, (rfx_ rf (f2_ (nb_ a (nI (sn_ B))) (uk_ q 7)))) hP ?_ dX4_shoreOf_30
    first | exact ⟨(if_neg c_22).symm, rfl⟩ | (refine ⟨?_, rfx_0 c_22⟩; rw [if_pos c_22, tn_n (by omega)]; unfold soX_; simp [*, b1]; done)

theorem okX4_isleOf : jok yX4_isleOf wsX4_isleOf cX4_isleOf 2 (some .int) 1 := ⟨⟨_, rfl⟩, by decide +kernel, by decide +kernel⟩
set_option maxHeartbeats 1000000 in
set_option maxRecDepth 100000 in
theorem qX4_isleOf (l : Launch) (D : va_G) (cI cB : ClassId) (g : Nat → Nat) (hi : Int32) (tc : Nat) (B : BayT) (T : BayT) (rf : Nat → Int32) (q : Int32) (hn7 : sn_ B ≤ 7) : jMi D cI cB l yX4_isleOf wsX4_isleOf 2 [.ref (g 0), .int q] (xO g hi tc ++ miO g ++ bW cI g 4 B ++ bW cI g 10 T ++ rW cI g rf) (S := BayT × (Nat → Int32)) (fun r u => r = (if uk_ q 2 = 0 then ioX_ B q else uk_ q 2) ∧ u.2 = rfx_ rf (uk_ q 2)) (fun u => xO g hi tc ++ miO g ++ bW cI g 4 B ++ bW cI g 10 u.1 ++ rW cI g u.2) := by
  refine jMi.of (cc := cX4_isleOf) (maxL := 2) (ret := (some .int)) okX4_isleOf (Nat.le_of_ble_eq_true rfl) ?_
  intro p e s m below meth c ls A hx hb hr hts hown hlk hml hP hK hD hA hS hl
  replace hown : s.vm.findClass RX4 = some m.cls := hown
  replace hl : lv_has ls 2 [(0, .ref (g 0)), (1, .int q)] := hl
  have hinX0 : ∀ w ∈ wsX00, w ∈ wsX4_isleOf := by decide +kernel
  have hinX4 : ∀ w ∈ wsX40, w ∈ wsX4_isleOf := by decide +kernel
  refine lv_iload_n hx hb dX4_isleOf_0 rfl (lv_at hl 1 rfl) ?_
  by_cases c_1_0 : q = 0
  · refine lv_tableIn (off := 27) (tgt := 28) hx hb dX4_isleOf_1 (by rw [c_1_0]; decide) (by rw [c_1_0]; decide) (by rw [c_1_0]; rfl) (by decide) ?_
    refine lv_aload_n hx hb dX4_isleOf_28 rfl (lv_at hl 0 rfl) ?_
    refine va_get (ci := 4) (C := RX4) (T := TX4) (N := 9) hx hb hts hinX4 hown hK.1 hP 0 rfl rfl 1 (by decide) (hts _ (List.mem_of_getElem? (i := 1) rfl)) (fun _ h9 => h9) rfl dX4_isleOf_29 ?_
    refine va_getN (ci := 0) (C := RX0) (T := TX0) (N := 11) hx hb hts hinX0 hown hK.1 hP 2 rfl rfl 7 (by decide) (va_Nw.use rfl (hK.2 _ (List.mem_of_getElem? (i := 16) rfl))) (fun _ h9 => h9) rfl dX4_isleOf_32 ?_
    refine rMi hx hb hr hlk hS (T, rf) hP ?_ dX4_isleOf_35
    first | (rw [c_1_0]; exact ⟨rfl, rfl⟩) | (rw [c_1_1]; exact ⟨rfl, rfl⟩) | (rw [c_1_2]; exact ⟨rfl, rfl⟩) | (rw [uk_3 c_1_0 c_1_1 c_1_2]; exact ⟨rfl, rfl⟩)
  by_cases c_1_1 : q = 1
  · refine lv_tableIn (off := 35) (tgt := 36) hx hb dX4_isleOf_1 (by rw [c_1_1]; decide) (by rw [c_1_1]; decide) (by rw [c_1_1]; rfl) (by decide) ?_
    refine lv_aload_n hx hb dX4_isleOf_36 rfl (lv_at hl 0 rfl) ?_
    refine va_get (ci := 4) (C := RX4) (T := TX4) (N := 9) hx hb hts hinX4 hown hK.1 hP 0 rfl rfl 1 (by decide) (hts _ (List.mem_of_getElem? (i := 1) rfl)) (fun _ h9 => h9) rfl dX4_isleOf_37 ?_
    refine va_getN (ci := 0) (C := RX0) (T := TX0) (N := 11) hx hb hts hinX0 hown hK.1 hP 2 rfl rfl 8 (by decide) (va_Nw.use rfl (hK.2 _ (List.mem_of_getElem? (i := 17) rfl))) (fun _ h9 => h9) rfl dX4_isleOf_40 ?_
    refine rMi hx hb hr hlk hS (T, rf) hP ?_ dX4_isleOf_43
    first | (rw [c_1_0]; exact ⟨rfl, rfl⟩) | (rw [c_1_1]; exact ⟨rfl, rfl⟩) | (rw [c_1_2]; exact ⟨rfl, rfl⟩) | (rw [uk_3 c_1_0 c_1_1 c_1_2]; exact ⟨rfl, rfl⟩)
  by_cases c_1_2 : q = 2
  · refine lv_tableIn (off := 43) (tgt := 44) hx hb dX4_isleOf_1 (by rw [c_1_2]; decide) (by rw [c_1_2]; decide) (by rw [c_1_2]; rfl) (by decide) ?_
    refine lv_aload_n hx hb dX4_isleOf_44 rfl (lv_at hl 0 rfl) ?_
    refine va_get (ci := 4) (C := RX4) (T := TX4) (N := 9) hx hb hts hinX4 hown hK.1 hP 0 rfl rfl 1 (by decide) (hts _ (List.mem_of_getElem? (i := 1) rfl)) (fun _ h9 => h9) rfl dX4_isleOf_45 ?_
    refine kSiN hx hb hml hown hts hK hP gX4_isleOf_X0_owner_n146 (hK.2 _ (List.mem_of_getElem? (i := 55) rfl)) (hts _ (List.mem_of_getElem? (i := 3) rfl)) (hts _ (List.mem_of_getElem? (i := 2) rfl)) (hts _ (List.mem_of_getElem? (i := 4) rfl)) okX0_owner (qX0_owner l D cI cB g 4 B (by show sn_ B ≤ 7; omega)) [2, 3, 4, 5, 6, 7] rfl rfl rfl rfl (by decide) hl.1 rfl rfl (Nat.le_of_ble_eq_true rfl) dX4_isleOf_48 (by decide) (fun r_1 hr_2 => ?_)
    replace hr_2 : r_1 = oI_ (ow_ B) := hr_2
    subst r_1
    refine rMi hx hb hr hlk hS (T, rf) hP ?_ dX4_isleOf_51
    first | (rw [c_1_0]; exact ⟨rfl, rfl⟩) | (rw [c_1_1]; exact ⟨rfl, rfl⟩) | (rw [c_1_2]; exact ⟨rfl, rfl⟩) | (rw [uk_3 c_1_0 c_1_1 c_1_2]; exact ⟨rfl, rfl⟩)
  refine lv_tableOut (tgt := 52) hx hb dX4_isleOf_1 (by have t0 := lv_neT c_1_0 (a := 0) (by decide); have t1 := lv_neT c_1_1 (a := 1) (by decide); have t2 := lv_neT c_1_2 (a := 2) (by decide); omega) (by decide) ?_
  refine lv_aload_n hx hb dX4_isleOf_52 rfl (lv_at hl 0 rfl) ?_
  refine lv_bipush (v := (-2)) hx hb dX4_isleOf_53 (by decide) ?_
  refine kMiV hx hb hml hown hts hK hP hD hA hS gX4_isleOf_X4_refuse okX4_refuse (qX4_refuse l D cI cB g hi tc rf (-2) (Or.inr (Or.inl rfl))) [0, 14] rfl (by decide) (fun _ => rfl) rfl rfl rfl (by decide) hl.1 rfl rfl (Nat.le_of_ble_eq_true rfl) dX4_isleOf_55 (by decide) (fun r_3 u_4 H locs hw_5 hP hD hS => ?_)
  replace hw_5 : r_3 = (-2) ∧ u_4 = rfx_ rf (-2) := hw_5
  obtain ⟨hw_5a, hw_5b⟩ := hw_5
  subst r_3
  subst u_4
  replace hP : va_P D vwCl (xO g hi tc ++ miO g ++ bW cI g 4 B ++ bW cI g 10 T ++ rW cI g (rfx_ rf (-2))) H := (va_P.m [true, false, false, false, false, false, false, false, false, false, false, false, false, false, true] [] hP)
  replace hD : va_D A (xO g hi tc ++ miO g ++ bW cI g 4 B ++ bW cI g 10 T ++ rW cI g (rfx_ rf (-2))) := (va_D.m [true, false, false, false, false, false, false, false, false, false, false, false, false, false, true] [] hD)
  refine rMi hx hb hr hlk hS (T, (rfx_ rf (-2))) hP ?_ dX4_isleOf_58
  first | (rw [c_1_0]; exact ⟨rfl, rfl⟩) | (rw [c_1_1]; exact ⟨rfl, rfl⟩) | (rw [c_1_2]; exact ⟨rfl, rfl⟩) | (rw [uk_3 c_1_0 c_1_1 c_1_2]; exact ⟨rfl, rfl⟩)

theorem okX4_loudest : jok yX4_loudest wsX4_loudest cX4_loudest 4 (some .int) 2 := ⟨⟨_, rfl⟩, by decide +kernel, by decide +kernel⟩
set_option maxHeartbeats 1000000 in
set_option maxRecDepth 100000 in
theorem qX4_loudest (l : Launch) (D : va_G) (cI cB : ClassId) (g : Nat → Nat) (hi : Int32) (tc : Nat) (B : BayT) (T : BayT) (rf : Nat → Int32) (h : Int32) (q : Int32) (hn7 : sn_ B ≤ 7) : jMi D cI cB l yX4_loudest wsX4_loudest 3 [.ref (g 0), .int h, .int q] (xO g hi tc ++ miO g ++ bW cI g 4 B ++ bW cI g 10 T ++ rW cI g rf) (S := BayT × (Nat → Int32)) (fun r u => r = (if f2_ (nb_ h 24) (uk_ q 1) = 0 then (if q = 0 then oI_ (lt_ B h) else an_ B h) else f2_ (nb_ h 24) (uk_ q 1)) ∧ u.2 = rfx_ rf (f2_ (nb_ h 24) (uk_ q 1))) (fun u => xO g hi tc ++ miO g ++ bW cI g 4 B ++ bW cI g 10 u.1 ++ rW cI g u.2) := by
  refine jMi.of (cc := cX4_loudest) (maxL := 4) (ret := (some .int)) okX4_loudest (Nat.le_of_ble_eq_true rfl) ?_
  intro p e s m below meth c ls A hx hb hr hts hown hlk hml hP hK hD hA hS hl
  replace hown : s.vm.findClass RX4 = some m.cls := hown
  replace hl : lv_has ls 4 [(0, .ref (g 0)), (1, .int h), (2, .int q)] := hl
  have hinX4 : ∀ w ∈ wsX40, w ∈ wsX4_loudest := by decide +kernel
  refine lv_iload_n hx hb dX4_loudest_0 rfl (lv_at hl 1 rfl) ?_
  refine lv_bipush (v := 24) hx hb dX4_loudest_1 (by decide) ?_
  refine kSiS hx hb hml hown hts hK hP gX4_loudest_X4_nobody okX4_nobody (qX4_nobody l D cI cB h 24 ) [] rfl (by decide) hl.1 rfl rfl (Nat.le_of_ble_eq_true rfl) dX4_loudest_3 (by decide) (fun r_1 hr_2 => ?_)
  replace hr_2 : r_1 = nb_ h 24 := hr_2
  subst r_1
  refine lv_iload_n hx hb dX4_loudest_6 rfl (lv_at hl 2 rfl) ?_
  refine lv_iconst (v := 1) hx hb dX4_loudest_7 (by decide) ?_
  refine kSiS hx hb hml hown hts hK hP gX4_loudest_X4_unknown okX4_unknown (qX4_unknown l D cI cB q 1 ) [] rfl (by decide) hl.1 rfl rfl (Nat.le_of_ble_eq_true rfl) dX4_loudest_8 (by decide) (fun r_3 hr_4 => ?_)
  replace hr_4 : r_3 = uk_ q 1 := hr_4
  subst r_3
  refine kSiS hx hb hml hown hts hK hP gX4_loudest_X4_firstOf okX4_firstOf (qX4_firstOf l D cI cB (nb_ h 24) (uk_ q 1) ) [] rfl (by decide) hl.1 rfl rfl (Nat.le_of_ble_eq_true rfl) dX4_loudest_11 (by decide) (fun r_5 hr_6 => ?_)
  replace hr_6 : r_5 = f2_ (nb_ h 24) (uk_ q 1) := hr_6
  subst r_5
  refine lv_istore_n (lv' := [(3, .int (f2_ (nb_ h 24) (uk_ q 1))), (0, .ref (g 0)), (1, .int h), (2, .int q)]) hx hb dX4_loudest_14 rfl hl (by decide) rfl (fun ls hl => ?_)
  refine lv_iload_n hx hb dX4_loudest_15 rfl (lv_at hl 0 rfl) ?_
  refine lv_if_eq (tgt := 25) hx hb dX4_loudest_16 (by decide) (fun c_16 => ?_) (fun c_16 => ?_)
  · skip
    refine lv_iload_n hx hb dX4_loudest_25 rfl (lv_at hl 3 rfl) ?_
    refine lv_if_ne (tgt := 40) hx hb dX4_loudest_26 (by decide) (fun c_26 => ?_) (fun c_26 => ?_)
    · skip
      refine lv_aload_n hx hb dX4_loudest_40 rfl (lv_at hl 1 rfl) ?_
      refine va_get (ci := 4) (C := RX4) (T := TX4) (N := 9) hx hb hts hinX4 hown hK.1 hP 0 rfl rfl 1 (by decide) (hts _ (List.mem_of_getElem? (i := 1) rfl)) (fun _ h9 => h9) rfl dX4_loudest_41 ?_
      refine lv_iload_n hx hb dX4_loudest_44 rfl (lv_at hl 2 rfl) ?_
      refine kSiN hx hb hml hown hts hK hP gX4_loudest_X0_noiseTogether_n213 (hK.2 _ (List.mem_of_getElem? (i := 72) rfl)) (hts _ (List.mem_of_getElem? (i := 18) rfl)) (hts _ (List.mem_of_getElem? (i := 56) rfl)) (hts _ (List.mem_of_getElem? (i := 57) rfl)) okX0_noiseTogether (qX0_noiseTogether l D cI cB g 4 B h (by show sn_ B ≤ 7; omega)) [2, 3, 4, 5, 6, 7] rfl rfl rfl rfl (by decide) hl.1 rfl rfl (Nat.le_of_ble_eq_true rfl) dX4_loudest_45 (by decide) (fun r_7 hr_8 => ?_)
      replace hr_8 : r_7 = an_ B h := hr_8
      subst r_7
      refine rMi hx hb hr hlk hS (T, rf) hP ?_ dX4_loudest_48
      first | exact ⟨(if_neg c_16).symm, rfl⟩ | (refine ⟨?_, rfx_0 c_16⟩; rw [if_pos c_16]; first | (rw [if_pos c_26]; done) | (rw [if_neg c_26]; done))
    · skip
      refine lv_aload_n hx hb dX4_loudest_29 rfl (lv_at hl 1 rfl) ?_
      refine va_get (ci := 4) (C := RX4) (T := TX4) (N := 9) hx hb hts hinX4 hown hK.1 hP 0 rfl rfl 1 (by decide) (hts _ (List.mem_of_getElem? (i := 1) rfl)) (fun _ h9 => h9) rfl dX4_loudest_30 ?_
      refine lv_iload_n hx hb dX4_loudest_33 rfl (lv_at hl 2 rfl) ?_
      refine kSiN hx hb hml hown hts hK hP gX4_loudest_X0_loudestAt_n210 (hK.2 _ (List.mem_of_getElem? (i := 71) rfl)) (hts _ (List.mem_of_getElem? (i := 18) rfl)) (hts _ (List.mem_of_getElem? (i := 17) rfl)) (hts _ (List.mem_of_getElem? (i := 19) rfl)) okX0_loudestAt (qX0_loudestAt l D cI cB g 4 B h (by show sn_ B ≤ 7; omega)) [2, 3, 4, 5, 6, 7] rfl rfl rfl rfl (by decide) hl.1 rfl rfl (Nat.le_of_ble_eq_true rfl) dX4_loudest_34 (by decide) (fun r_9 hr_10 => ?_)
      replace hr_10 : r_9 = oI_ (lt_ B h) := hr_10
      subst r_9
      refine lv_goto (tgt := 48) hx hb dX4_loudest_37 (by decide) ?_
      refine rMi hx hb hr hlk hS (T, rf) hP ?_ dX4_loudest_48
      first | exact ⟨(if_neg c_16).symm, rfl⟩ | (refine ⟨?_, rfx_0 c_16⟩; rw [if_pos c_16]; first | (rw [if_pos c_26]; done) | (rw [if_neg c_26]; done))
  · skip
    refine lv_aload_n hx hb dX4_loudest_19 rfl (lv_at hl 1 rfl) ?_
    refine lv_iload_n hx hb dX4_loudest_20 rfl (lv_at hl 0 rfl) ?_
    refine kMiV hx hb hml hown hts hK hP hD hA hS gX4_loudest_X4_refuse okX4_refuse (qX4_refuse l D cI cB g hi tc rf (f2_ (nb_ h 24) (uk_ q 1)) (rc0_n (by first | exact rc0_wS _ _ | exact rc0_wSN _ _ _ | exact rc0_wSNW _ _ _ _ | exact rc0_wNW _ _ | exact rc0_wTh _ _ _ _ _ | exact rc0_nb _ _ | exact rc0_uk _ _ | exact rc0_ob _ _ _ | exact rc0_f2 (rc0_nb _ _) (rc0_nb _ _) | exact rc0_f2 (rc0_nb _ _) (rc0_uk _ _) | exact rc0_f2 (rc0_ob _ _ _) (rc0_uk _ _) | exact rc0_f2 (rc0_uk _ _) (rc0_f2 (rc0_uk _ _) (rc0_ob _ _ _)) | exact rc0_f2 (rc0_f2 (rc0_nb _ _) (rc0_nb _ _)) (rc0_if (Or.inr (Or.inl rfl)) (rc0_uk _ _))) c_16)) [0, 14] rfl (by decide) (fun _ => rfl) rfl rfl rfl (by decide) hl.1 rfl rfl (Nat.le_of_ble_eq_true rfl) dX4_loudest_21 (by decide) (fun r_11 u_12 H locs hw_13 hP hD hS => ?_)
    replace hw_13 : r_11 = f2_ (nb_ h 24) (uk_ q 1) ∧ u_12 = rfx_ rf (f2_ (nb_ h 24) (uk_ q 1)) := hw_13
    obtain ⟨hw_13a, hw_13b⟩ := hw_13
    subst r_11
    subst u_12
    replace hP : va_P D vwCl (xO g hi tc ++ miO g ++ bW cI g 4 B ++ bW cI g 10 T ++ rW cI g (rfx_ rf (f2_ (nb_ h 24) (uk_ q 1)))) H := (va_P.m [true, false, false, false, false, false, false, false, false, false, false, false, false, false, true] [] hP)
    replace hD : va_D A (xO g hi tc ++ miO g ++ bW cI g 4 B ++ bW cI g 10 T ++ rW cI g (rfx_ rf (f2_ (nb_ h 24) (uk_ q 1)))) := (va_D.m [true, false, false, false, false, false, false, false, false, false, false, false, false, false, true] [] hD)
    refine rMi hx hb hr hlk hS (T, (rfx_ rf (f2_ (nb_ h 24) (uk_ q 1)))) hP ?_ dX4_loudest_24
    first | exact ⟨(if_neg c_16).symm, rfl⟩ | (refine ⟨?_, rfx_0 c_16⟩; rw [if_pos c_16]; first | (rw [if_pos c_26]; done) | (rw [if_neg c_26]; done))

theorem okX4_nearest : jok yX4_nearest wsX4_nearest cX4_nearest 4 (some .int) 1 := ⟨⟨_, rfl⟩, by decide +kernel, by decide +kernel⟩
set_option maxHeartbeats 1000000 in
set_option maxRecDepth 100000 in
theorem qX4_nearest (l : Launch) (D : va_G) (cI cB : ClassId) (g : Nat → Nat) (hi : Int32) (tc : Nat) (B : BayT) (T : BayT) (rf : Nat → Int32) (q : Int32) (hn7 : sn_ B ≤ 7) : jMi D cI cB l yX4_nearest wsX4_nearest 3 [.ref (g 0), .int q] (xO g hi tc ++ miO g ++ bW cI g 4 B ++ bW cI g 10 T ++ rW cI g rf) (S := BayT × (Nat → Int32)) (fun r u => r = (if uk_ q 1 = 0 then (if q = 0 then oI_ (ne_ B (sn_ B)) else dNe_ B) else uk_ q 1) ∧ u.2 = rfx_ rf (uk_ q 1)) (fun u => xO g hi tc ++ miO g ++ bW cI g 4 B ++ bW cI g 10 u.1 ++ rW cI g u.2) := by
  refine jMi.of (cc := cX4_nearest) (maxL := 4) (ret := (some .int)) okX4_nearest (Nat.le_of_ble_eq_true rfl) ?_
  intro p e s m below meth c ls A hx hb hr hts hown hlk hml hP hK hD hA hS hl
  replace hown : s.vm.findClass RX4 = some m.cls := hown
  replace hl : lv_has ls 4 [(0, .ref (g 0)), (1, .int q)] := hl
  have hinX4 : ∀ w ∈ wsX40, w ∈ wsX4_nearest := by decide +kernel
  refine lv_iload_n hx hb dX4_nearest_0 rfl (lv_at hl 1 rfl) ?_
  refine lv_iconst (v := 1) hx hb dX4_nearest_1 (by decide) ?_
  refine kSiS hx hb hml hown hts hK hP gX4_nearest_X4_unknown okX4_unknown (qX4_unknown l D cI cB q 1 ) [] rfl (by decide) hl.1 rfl rfl (Nat.le_of_ble_eq_true rfl) dX4_nearest_2 (by decide) (fun r_1 hr_2 => ?_)
  replace hr_2 : r_1 = uk_ q 1 := hr_2
  subst r_1
  refine lv_istore_n (lv' := [(2, .int (uk_ q 1)), (0, .ref (g 0)), (1, .int q)]) hx hb dX4_nearest_5 rfl hl (by decide) rfl (fun ls hl => ?_)
  refine lv_iload_n hx hb dX4_nearest_6 rfl (lv_at hl 0 rfl) ?_
  refine lv_if_eq (tgt := 16) hx hb dX4_nearest_7 (by decide) (fun c_7 => ?_) (fun c_7 => ?_)
  · skip
    refine lv_aload_n hx hb dX4_nearest_16 rfl (lv_at hl 1 rfl) ?_
    refine va_get (ci := 4) (C := RX4) (T := TX4) (N := 9) hx hb hts hinX4 hown hK.1 hP 0 rfl rfl 1 (by decide) (hts _ (List.mem_of_getElem? (i := 1) rfl)) (fun _ h9 => h9) rfl dX4_nearest_17 ?_
    refine kSiN hx hb hml hown hts hK hP gX4_nearest_X0_nearestShore_n216 (hK.2 _ (List.mem_of_getElem? (i := 73) rfl)) (hts _ (List.mem_of_getElem? (i := 12) rfl)) (hts _ (List.mem_of_getElem? (i := 11) rfl)) (hts _ (List.mem_of_getElem? (i := 13) rfl)) okX0_nearestShore (qX0_nearestShore l D cI cB g 4 B (by show sn_ B ≤ 7; omega)) [2, 3, 4, 5, 6, 7] rfl rfl rfl rfl (by decide) hl.1 rfl rfl (Nat.le_of_ble_eq_true rfl) dX4_nearest_20 (by decide) (fun r_3 hr_4 => ?_)
    replace hr_4 : r_3 = oI_ (ne_ B (sn_ B)) := hr_4
    subst r_3
    refine lv_istore_n (lv' := [(3, .int (oI_ (ne_ B (sn_ B)))), (2, .int (uk_ q 1)), (0, .ref (g 0)), (1, .int q)]) hx hb dX4_nearest_23 rfl hl (by decide) rfl (fun ls hl => ?_)
    rcases hL : ne_ B (sn_ B) with _ | t
    · rw [hL] at hl
      replace hl : lv_has ls 4 [(3, .int (-9)), (2, .int (uk_ q 1)), (0, .ref (g 0)), (1, .int q)] := hl
      refine lv_iload_n hx hb dX4_nearest_24 rfl (lv_at hl 3 rfl) ?_
      refine lv_if_eq (tgt := 34) hx hb dX4_nearest_25 (by decide) (fun c_25 => ?_) (fun c_25 => ?_)
      · skip
        refine lv_iload_n hx hb dX4_nearest_34 rfl (lv_at hl 0 rfl) ?_
        refine lv_goto (tgt := 46) hx hb dX4_nearest_35 (by decide) ?_
        refine rMi hx hb hr hlk hS (T, rf) hP ?_ dX4_nearest_46
        first | exact ⟨(if_neg c_7).symm, rfl⟩ | (refine ⟨?_, rfx_0 c_7⟩; rw [if_pos c_7]; first | done | (first | (rw [if_pos c_25]; done) | (rw [if_pos c_25]; rfl) | (rw [if_pos c_25, hL]; rfl) | (rw [if_neg c_25]; unfold dNe_; rw [hL]; done) | (rw [if_neg c_25]; unfold dNe_; rw [hL]; rfl)))
      · skip
        refine lv_iload_n hx hb dX4_nearest_28 rfl (lv_at hl 0 rfl) ?_
        refine lv_bipush (v := (-9)) hx hb dX4_nearest_29 (by decide) ?_
        refine lv_icmp_ne (tgt := 38) hx hb dX4_nearest_31 (by decide) (fun q => absurd q (by decide)) (fun _ => ?_)
        refine lv_iload_n hx hb dX4_nearest_34 rfl (lv_at hl 0 rfl) ?_
        refine lv_goto (tgt := 46) hx hb dX4_nearest_35 (by decide) ?_
        refine rMi hx hb hr hlk hS (T, rf) hP ?_ dX4_nearest_46
        first | exact ⟨(if_neg c_7).symm, rfl⟩ | (refine ⟨?_, rfx_0 c_7⟩; rw [if_pos c_7]; first | done | (first | (rw [if_pos c_25]; done) | (rw [if_pos c_25]; rfl) | (rw [if_pos c_25, hL]; rfl) | (rw [if_neg c_25]; unfold dNe_; rw [hL]; done) | (rw [if_neg c_25]; unfold dNe_; rw [hL]; rfl)))
    · rw [hL] at hl
      replace hl : lv_has ls 4 [(3, .int (nI t)), (2, .int (uk_ q 1)), (0, .ref (g 0)), (1, .int q)] := hl
      have ht := ne_lt _ _ hL
      refine lv_iload_n hx hb dX4_nearest_24 rfl (lv_at hl 3 rfl) ?_
      refine lv_if_eq (tgt := 34) hx hb dX4_nearest_25 (by decide) (fun c_25 => ?_) (fun c_25 => ?_)
      · skip
        refine lv_iload_n hx hb dX4_nearest_34 rfl (lv_at hl 0 rfl) ?_
        refine lv_goto (tgt := 46) hx hb dX4_nearest_35 (by decide) ?_
        refine rMi hx hb hr hlk hS (T, rf) hP ?_ dX4_nearest_46
        first | exact ⟨(if_neg c_7).symm, rfl⟩ | (refine ⟨?_, rfx_0 c_7⟩; rw [if_pos c_7]; first | done | (first | (rw [if_pos c_25]; done) | (rw [if_pos c_25]; rfl) | (rw [if_pos c_25, hL]; rfl) | (rw [if_neg c_25]; unfold dNe_; rw [hL]; done) | (rw [if_neg c_25]; unfold dNe_; rw [hL]; rfl)))
      · skip
        refine lv_iload_n hx hb dX4_nearest_28 rfl (lv_at hl 0 rfl) ?_
        refine lv_bipush (v := (-9)) hx hb dX4_nearest_29 (by decide) ?_
        refine lv_icmp_ne (tgt := 38) hx hb dX4_nearest_31 (by decide) (fun _ => ?_) (fun q => absurd q (nI_m9 (by omega)))
        refine lv_aload_n hx hb dX4_nearest_38 rfl (lv_at hl 2 rfl) ?_
        refine va_get (ci := 4) (C := RX4) (T := TX4) (N := 9) hx hb hts hinX4 hown hK.1 hP 0 rfl rfl 1 (by decide) (hts _ (List.mem_of_getElem? (i := 1) rfl)) (fun _ h9 => h9) rfl dX4_nearest_39 ?_
        refine lv_iload_n hx hb dX4_nearest_42 rfl (lv_at hl 0 rfl) ?_
        refine kSiN hx hb hml hown hts hK hP gX4_nearest_X0_distanceTo_n219 (hK.2 _ (List.mem_of_getElem? (i := 74) rfl)) (hts _ (List.mem_of_getElem? (i := 12) rfl)) (hts _ (List.mem_of_getElem? (i := 17) rfl)) (hts _ (List.mem_of_getElem? (i := 18) rfl)) okX0_distanceTo (qX0_distanceTo l D cI cB g 4 B t (by show sn_ B ≤ 7; omega) (by omega)) [2, 3, 4, 5, 6, 7] rfl rfl rfl rfl (by decide) hl.1 rfl rfl (Nat.le_of_ble_eq_true rfl) dX4_nearest_43 (by decide) (fun r_5 hr_6 => ?_)
        replace hr_6 : r_5 = di_ B t := hr_6
        subst r_5
        refine rMi hx hb hr hlk hS (T, rf) hP ?_ dX4_nearest_46
        first | exact ⟨(if_neg c_7).symm, rfl⟩ | (refine ⟨?_, rfx_0 c_7⟩; rw [if_pos c_7]; first | done | (first | (rw [if_pos c_25]; done) | (rw [if_pos c_25]; rfl) | (rw [if_pos c_25, hL]; rfl) | (rw [if_neg c_25]; unfold dNe_; rw [hL]; done) | (rw [if_neg c_25]; unfold dNe_; rw [hL]; rfl)))
  · skip
    refine lv_aload_n hx hb dX4_nearest_10 rfl (lv_at hl 1 rfl) ?_
    refine lv_iload_n hx hb dX4_nearest_11 rfl (lv_at hl 0 rfl) ?_
    refine kMiV hx hb hml hown hts hK hP hD hA hS gX4_nearest_X4_refuse okX4_refuse (qX4_refuse l D cI cB g hi tc rf (uk_ q 1) (rc0_n (by first | exact rc0_wS _ _ | exact rc0_wSN _ _ _ | exact rc0_wSNW _ _ _ _ | exact rc0_wNW _ _ | exact rc0_wTh _ _ _ _ _ | exact rc0_nb _ _ | exact rc0_uk _ _ | exact rc0_ob _ _ _ | exact rc0_f2 (rc0_nb _ _) (rc0_nb _ _) | exact rc0_f2 (rc0_nb _ _) (rc0_uk _ _) | exact rc0_f2 (rc0_ob _ _ _) (rc0_uk _ _) | exact rc0_f2 (rc0_uk _ _) (rc0_f2 (rc0_uk _ _) (rc0_ob _ _ _)) | exact rc0_f2 (rc0_f2 (rc0_nb _ _) (rc0_nb _ _)) (rc0_if (Or.inr (Or.inl rfl)) (rc0_uk _ _))) c_7)) [0, 14] rfl (by decide) (fun _ => rfl) rfl rfl rfl (by decide) hl.1 rfl rfl (Nat.le_of_ble_eq_true rfl) dX4_nearest_12 (by decide) (fun r_7 u_8 H locs hw_9 hP hD hS => ?_)
    replace hw_9 : r_7 = uk_ q 1 ∧ u_8 = rfx_ rf (uk_ q 1) := hw_9
    obtain ⟨hw_9a, hw_9b⟩ := hw_9
    subst r_7
    subst u_8
    replace hP : va_P D vwCl (xO g hi tc ++ miO g ++ bW cI g 4 B ++ bW cI g 10 T ++ rW cI g (rfx_ rf (uk_ q 1))) H := (va_P.m [true, false, false, false, false, false, false, false, false, false, false, false, false, false, true] [] hP)
    replace hD : va_D A (xO g hi tc ++ miO g ++ bW cI g 4 B ++ bW cI g 10 T ++ rW cI g (rfx_ rf (uk_ q 1))) := (va_D.m [true, false, false, false, false, false, false, false, false, false, false, false, false, false, true] [] hD)
    refine rMi hx hb hr hlk hS (T, (rfx_ rf (uk_ q 1))) hP ?_ dX4_nearest_15
    first | exact ⟨(if_neg c_7).symm, rfl⟩ | (refine ⟨?_, rfx_0 c_7⟩; rw [if_pos c_7]; first | done | (first | (rw [if_pos c_25]; done) | (rw [if_pos c_25]; rfl) | (rw [if_pos c_25, hL]; rfl) | (rw [if_neg c_25]; unfold dNe_; rw [hL]; done) | (rw [if_neg c_25]; unfold dNe_; rw [hL]; rfl)))

theorem okX4_gap : jok yX4_gap wsX4_gap cX4_gap 4 (some .int) 1 := ⟨⟨_, rfl⟩, by decide +kernel, by decide +kernel⟩
set_option maxHeartbeats 1000000 in
set_option maxRecDepth 100000 in
theorem qX4_gap (l : Launch) (D : va_G) (cI cB : ClassId) (g : Nat → Nat) (hi : Int32) (tc : Nat) (B : BayT) (T : BayT) (rf : Nat → Int32) (q : Int32) (hn7 : sn_ B ≤ 7) : jMi D cI cB l yX4_gap wsX4_gap 3 [.ref (g 0), .int q] (xO g hi tc ++ miO g ++ bW cI g 4 B ++ bW cI g 10 T ++ rW cI g rf) (S := BayT × (Nat → Int32)) (fun r u => r = (if uk_ q 1 = 0 then (if q = 1 then oI_ (wg_ B 31).1 else gWg_ B) else uk_ q 1) ∧ u.2 = rfx_ rf (uk_ q 1)) (fun u => xO g hi tc ++ miO g ++ bW cI g 4 B ++ bW cI g 10 u.1 ++ rW cI g u.2) := by
  refine jMi.of (cc := cX4_gap) (maxL := 4) (ret := (some .int)) okX4_gap (Nat.le_of_ble_eq_true rfl) ?_
  intro p e s m below meth c ls A hx hb hr hts hown hlk hml hP hK hD hA hS hl
  replace hown : s.vm.findClass RX4 = some m.cls := hown
  replace hl : lv_has ls 4 [(0, .ref (g 0)), (1, .int q)] := hl
  have hinX4 : ∀ w ∈ wsX40, w ∈ wsX4_gap := by decide +kernel
  refine lv_iload_n hx hb dX4_gap_0 rfl (lv_at hl 1 rfl) ?_
  refine lv_iconst (v := 1) hx hb dX4_gap_1 (by decide) ?_
  refine kSiS hx hb hml hown hts hK hP gX4_gap_X4_unknown okX4_unknown (qX4_unknown l D cI cB q 1 ) [] rfl (by decide) hl.1 rfl rfl (Nat.le_of_ble_eq_true rfl) dX4_gap_2 (by decide) (fun r_1 hr_2 => ?_)
  replace hr_2 : r_1 = uk_ q 1 := hr_2
  subst r_1
  refine lv_istore_n (lv' := [(2, .int (uk_ q 1)), (0, .ref (g 0)), (1, .int q)]) hx hb dX4_gap_5 rfl hl (by decide) rfl (fun ls hl => ?_)
  refine lv_iload_n hx hb dX4_gap_6 rfl (lv_at hl 0 rfl) ?_
  refine lv_if_eq (tgt := 16) hx hb dX4_gap_7 (by decide) (fun c_7 => ?_) (fun c_7 => ?_)
  · skip
    refine lv_aload_n hx hb dX4_gap_16 rfl (lv_at hl 1 rfl) ?_
    refine va_get (ci := 4) (C := RX4) (T := TX4) (N := 9) hx hb hts hinX4 hown hK.1 hP 0 rfl rfl 1 (by decide) (hts _ (List.mem_of_getElem? (i := 1) rfl)) (fun _ h9 => h9) rfl dX4_gap_17 ?_
    refine kSiN hx hb hml hown hts hK hP gX4_gap_X0_widestGap_n245 (hK.2 _ (List.mem_of_getElem? (i := 79) rfl)) (hts _ (List.mem_of_getElem? (i := 12) rfl)) (hts _ (List.mem_of_getElem? (i := 11) rfl)) (hts _ (List.mem_of_getElem? (i := 13) rfl)) okX0_widestGap (qX0_widestGap l D cI cB g 4 B (by show sn_ B ≤ 7; omega)) [2, 3, 4, 5, 6, 7] rfl rfl rfl rfl (by decide) hl.1 rfl rfl (Nat.le_of_ble_eq_true rfl) dX4_gap_20 (by decide) (fun r_3 hr_4 => ?_)
    replace hr_4 : r_3 = oI_ (wg_ B 31).1 := hr_4
    subst r_3
    refine lv_istore_n (lv' := [(3, .int (oI_ (wg_ B 31).1)), (2, .int (uk_ q 1)), (0, .ref (g 0)), (1, .int q)]) hx hb dX4_gap_23 rfl hl (by decide) rfl (fun ls hl => ?_)
    rcases hL : (wg_ B 31).1 with _ | t
    · rw [hL] at hl
      replace hl : lv_has ls 4 [(3, .int (-9)), (2, .int (uk_ q 1)), (0, .ref (g 0)), (1, .int q)] := hl
      refine lv_iload_n hx hb dX4_gap_24 rfl (lv_at hl 3 rfl) ?_
      refine lv_iconst (v := 1) hx hb dX4_gap_25 (by decide) ?_
      refine lv_icmp_eq (tgt := 35) hx hb dX4_gap_26 (by decide) (fun c_26 => ?_) (fun c_26 => ?_)
      · skip
        refine lv_iload_n hx hb dX4_gap_35 rfl (lv_at hl 0 rfl) ?_
        refine lv_goto (tgt := 47) hx hb dX4_gap_36 (by decide) ?_
        refine rMi hx hb hr hlk hS (T, rf) hP ?_ dX4_gap_47
        first | exact ⟨(if_neg c_7).symm, rfl⟩ | (refine ⟨?_, rfx_0 c_7⟩; rw [if_pos c_7]; first | done | (first | (rw [if_pos c_26]; done) | (rw [if_pos c_26]; rfl) | (rw [if_pos c_26, hL]; rfl) | (rw [if_neg c_26]; unfold gWg_; rw [hL]; done) | (rw [if_neg c_26]; unfold gWg_; rw [hL]; rfl)))
      · skip
        refine lv_iload_n hx hb dX4_gap_29 rfl (lv_at hl 0 rfl) ?_
        refine lv_bipush (v := (-9)) hx hb dX4_gap_30 (by decide) ?_
        refine lv_icmp_ne (tgt := 39) hx hb dX4_gap_32 (by decide) (fun q => absurd q (by decide)) (fun _ => ?_)
        refine lv_iload_n hx hb dX4_gap_35 rfl (lv_at hl 0 rfl) ?_
        refine lv_goto (tgt := 47) hx hb dX4_gap_36 (by decide) ?_
        refine rMi hx hb hr hlk hS (T, rf) hP ?_ dX4_gap_47
        first | exact ⟨(if_neg c_7).symm, rfl⟩ | (refine ⟨?_, rfx_0 c_7⟩; rw [if_pos c_7]; first | done | (first | (rw [if_pos c_26]; done) | (rw [if_pos c_26]; rfl) | (rw [if_pos c_26, hL]; rfl) | (rw [if_neg c_26]; unfold gWg_; rw [hL]; done) | (rw [if_neg c_26]; unfold gWg_; rw [hL]; rfl)))
    · rw [hL] at hl
      replace hl : lv_has ls 4 [(3, .int (nI t)), (2, .int (uk_ q 1)), (0, .ref (g 0)), (1, .int q)] := hl
      have ht := wg_lt _ _ hL
      refine lv_iload_n hx hb dX4_gap_24 rfl (lv_at hl 3 rfl) ?_
      refine lv_iconst (v := 1) hx hb dX4_gap_25 (by decide) ?_
      refine lv_icmp_eq (tgt := 35) hx hb dX4_gap_26 (by decide) (fun c_26 => ?_) (fun c_26 => ?_)
      · skip
        refine lv_iload_n hx hb dX4_gap_35 rfl (lv_at hl 0 rfl) ?_
        refine lv_goto (tgt := 47) hx hb dX4_gap_36 (by decide) ?_
        refine rMi hx hb hr hlk hS (T, rf) hP ?_ dX4_gap_47
        first | exact ⟨(if_neg c_7).symm, rfl⟩ | (refine ⟨?_, rfx_0 c_7⟩; rw [if_pos c_7]; first | done | (first | (rw [if_pos c_26]; done) | (rw [if_pos c_26]; rfl) | (rw [if_pos c_26, hL]; rfl) | (rw [if_neg c_26]; unfold gWg_; rw [hL]; done) | (rw [if_neg c_26]; unfold gWg_; rw [hL]; rfl)))
      · skip
        refine lv_iload_n hx hb dX4_gap_29 rfl (lv_at hl 0 rfl) ?_
        refine lv_bipush (v := (-9)) hx hb dX4_gap_30 (by decide) ?_
        refine lv_icmp_ne (tgt := 39) hx hb dX4_gap_32 (by decide) (fun _ => ?_) (fun q => absurd q (nI_m9 (by omega)))
        refine lv_aload_n hx hb dX4_gap_39 rfl (lv_at hl 2 rfl) ?_
        refine va_get (ci := 4) (C := RX4) (T := TX4) (N := 9) hx hb hts hinX4 hown hK.1 hP 0 rfl rfl 1 (by decide) (hts _ (List.mem_of_getElem? (i := 1) rfl)) (fun _ h9 => h9) rfl dX4_gap_40 ?_
        refine lv_iload_n hx hb dX4_gap_43 rfl (lv_at hl 0 rfl) ?_
        refine kSiN hx hb hml hown hts hK hP gX4_gap_X0_gapFrom_n248 (hK.2 _ (List.mem_of_getElem? (i := 80) rfl)) (hts _ (List.mem_of_getElem? (i := 12) rfl)) (hts _ (List.mem_of_getElem? (i := 16) rfl)) (hts _ (List.mem_of_getElem? (i := 17) rfl)) okX0_gapFrom (qX0_gapFrom l D cI cB g 4 B t (by show sn_ B ≤ 7; omega) (by omega)) [2, 3, 4, 5, 6, 7] rfl rfl rfl rfl (by decide) hl.1 rfl rfl (Nat.le_of_ble_eq_true rfl) dX4_gap_44 (by decide) (fun r_5 hr_6 => ?_)
        replace hr_6 : r_5 = gf_ B t := hr_6
        subst r_5
        refine rMi hx hb hr hlk hS (T, rf) hP ?_ dX4_gap_47
        first | exact ⟨(if_neg c_7).symm, rfl⟩ | (refine ⟨?_, rfx_0 c_7⟩; rw [if_pos c_7]; first | done | (first | (rw [if_pos c_26]; done) | (rw [if_pos c_26]; rfl) | (rw [if_pos c_26, hL]; rfl) | (rw [if_neg c_26]; unfold gWg_; rw [hL]; done) | (rw [if_neg c_26]; unfold gWg_; rw [hL]; rfl)))
  · skip
    refine lv_aload_n hx hb dX4_gap_10 rfl (lv_at hl 1 rfl) ?_
    refine lv_iload_n hx hb dX4_gap_11 rfl (lv_at hl 0 rfl) ?_
    refine kMiV hx hb hml hown hts hK hP hD hA hS gX4_gap_X4_refuse okX4_refuse (qX4_refuse l D cI cB g hi tc rf (uk_ q 1) (rc0_n (by first | exact rc0_wS _ _ | exact rc0_wSN _ _ _ | exact rc0_wSNW _ _ _ _ | exact rc0_wNW _ _ | exact rc0_wTh _ _ _ _ _ | exact rc0_nb _ _ | exact rc0_uk _ _ | exact rc0_ob _ _ _ | exact rc0_f2 (rc0_nb _ _) (rc0_nb _ _) | exact rc0_f2 (rc0_nb _ _) (rc0_uk _ _) | exact rc0_f2 (rc0_ob _ _ _) (rc0_uk _ _) | exact rc0_f2 (rc0_uk _ _) (rc0_f2 (rc0_uk _ _) (rc0_ob _ _ _)) | exact rc0_f2 (rc0_f2 (rc0_nb _ _) (rc0_nb _ _)) (rc0_if (Or.inr (Or.inl rfl)) (rc0_uk _ _))) c_7)) [0, 14] rfl (by decide) (fun _ => rfl) rfl rfl rfl (by decide) hl.1 rfl rfl (Nat.le_of_ble_eq_true rfl) dX4_gap_12 (by decide) (fun r_7 u_8 H locs hw_9 hP hD hS => ?_)
    replace hw_9 : r_7 = uk_ q 1 ∧ u_8 = rfx_ rf (uk_ q 1) := hw_9
    obtain ⟨hw_9a, hw_9b⟩ := hw_9
    subst r_7
    subst u_8
    replace hP : va_P D vwCl (xO g hi tc ++ miO g ++ bW cI g 4 B ++ bW cI g 10 T ++ rW cI g (rfx_ rf (uk_ q 1))) H := (va_P.m [true, false, false, false, false, false, false, false, false, false, false, false, false, false, true] [] hP)
    replace hD : va_D A (xO g hi tc ++ miO g ++ bW cI g 4 B ++ bW cI g 10 T ++ rW cI g (rfx_ rf (uk_ q 1))) := (va_D.m [true, false, false, false, false, false, false, false, false, false, false, false, false, false, true] [] hD)
    refine rMi hx hb hr hlk hS (T, (rfx_ rf (uk_ q 1))) hP ?_ dX4_gap_15
    first | exact ⟨(if_neg c_7).symm, rfl⟩ | (refine ⟨?_, rfx_0 c_7⟩; rw [if_pos c_7]; first | done | (first | (rw [if_pos c_26]; done) | (rw [if_pos c_26]; rfl) | (rw [if_pos c_26, hL]; rfl) | (rw [if_neg c_26]; unfold gWg_; rw [hL]; done) | (rw [if_neg c_26]; unfold gWg_; rw [hL]; rfl)))

theorem okX4_shared : jok yX4_shared wsX4_shared cX4_shared 3 (some .int) 1 := ⟨⟨_, rfl⟩, by decide +kernel, by decide +kernel⟩
set_option maxHeartbeats 1000000 in
set_option maxRecDepth 100000 in
theorem qX4_shared (l : Launch) (D : va_G) (cI cB : ClassId) (g : Nat → Nat) (hi : Int32) (tc : Nat) (B : BayT) (T : BayT) (rf : Nat → Int32) (q : Int32) (hn7 : sn_ B ≤ 7) : jMi D cI cB l yX4_shared wsX4_shared 1 [.ref (g 0), .int q] (xO g hi tc ++ miO g ++ bW cI g 4 B ++ bW cI g 10 T ++ rW cI g rf) (S := BayT × (Nat → Int32)) (fun r u => r = (if uk_ q 2 = 0 then shX_ B q else uk_ q 2) ∧ u.2 = rfx_ rf (uk_ q 2)) (fun u => xO g hi tc ++ miO g ++ bW cI g 4 B ++ bW cI g 10 u.1 ++ rW cI g u.2) := by
  refine jMi.of (cc := cX4_shared) (maxL := 3) (ret := (some .int)) okX4_shared (Nat.le_of_ble_eq_true rfl) ?_
  intro p e s m below meth c ls A hx hb hr hts hown hlk hml hP hK hD hA hS hl
  replace hown : s.vm.findClass RX4 = some m.cls := hown
  replace hl : lv_has ls 3 [(0, .ref (g 0)), (1, .int q)] := hl
  have hinX0 : ∀ w ∈ wsX00, w ∈ wsX4_shared := by decide +kernel
  have hinX4 : ∀ w ∈ wsX40, w ∈ wsX4_shared := by decide +kernel
  refine lv_iconst (v := 1) hx hb dX4_shared_0 (by decide) ?_
  refine lv_aload_n hx hb dX4_shared_1 rfl (lv_at hl 0 rfl) ?_
  refine va_get (ci := 4) (C := RX4) (T := TX4) (N := 9) hx hb hts hinX4 hown hK.1 hP 0 rfl rfl 1 (by decide) (hts _ (List.mem_of_getElem? (i := 1) rfl)) (fun _ h9 => h9) rfl dX4_shared_2 ?_
  refine va_getN (ci := 0) (C := RX0) (T := TX0) (N := 11) hx hb hts hinX0 hown hK.1 hP 2 rfl rfl 6 (by decide) (va_Nw.use rfl (hK.2 _ (List.mem_of_getElem? (i := 13) rfl))) (fun _ h9 => h9) rfl dX4_shared_5 ?_
  refine va_mmax hx hb (hml.trans hl.1.symm) hown (hts _ (List.mem_of_getElem? (i := 2) rfl)) (hts _ (List.mem_of_getElem? (i := 3) rfl)) (hts _ (List.mem_of_getElem? (i := 4) rfl)) (hts _ (List.mem_of_getElem? (i := 5) rfl)) (by decide) (Nat.le_of_ble_eq_true rfl) (by decide) (by decide) dX4_shared_8 ?_
  refine lv_istore_n (lv' := [(2, .int (if 1 < (nI (sn_ B)) then (nI (sn_ B)) else 1)), (0, .ref (g 0)), (1, .int q)]) hx hb dX4_shared_11 rfl hl (by decide) rfl (fun ls hl => ?_)
  refine lv_iload_n hx hb dX4_shared_12 rfl (lv_at hl 2 rfl) ?_
  by_cases c_13_0 : q = 0
  · refine lv_tableIn (off := 27) (tgt := 40) hx hb dX4_shared_13 (by rw [c_13_0]; decide) (by rw [c_13_0]; decide) (by rw [c_13_0]; rfl) (by decide) ?_
    refine lv_aload_n hx hb dX4_shared_40 rfl (lv_at hl 1 rfl) ?_
    refine va_get (ci := 4) (C := RX4) (T := TX4) (N := 9) hx hb hts hinX4 hown hK.1 hP 0 rfl rfl 1 (by decide) (hts _ (List.mem_of_getElem? (i := 1) rfl)) (fun _ h9 => h9) rfl dX4_shared_41 ?_
    refine kSiN hx hb hml hown hts hK hP gX4_shared_X0_joyTogether_n158 (hK.2 _ (List.mem_of_getElem? (i := 56) rfl)) (hts _ (List.mem_of_getElem? (i := 7) rfl)) (hts _ (List.mem_of_getElem? (i := 6) rfl)) (hts _ (List.mem_of_getElem? (i := 8) rfl)) okX0_joyTogether (qX0_joyTogether l D cI cB g 4 B (by show sn_ B ≤ 7; omega)) [2, 3, 4, 5, 6, 7] rfl rfl rfl rfl (by decide) hl.1 rfl rfl (Nat.le_of_ble_eq_true rfl) dX4_shared_44 (by decide) (fun r_1 hr_2 => ?_)
    replace hr_2 : r_1 = su_ (jy_ B) (sn_ B) := hr_2
    subst r_1
    refine lv_iload_n hx hb dX4_shared_47 rfl (lv_at hl 0 rfl) ?_
    refine lv_idiv hx hb dX4_shared_48 (mx1_nz _) ?_
    refine rMi hx hb hr hlk hS (T, rf) hP ?_ dX4_shared_49
    first | (rw [c_13_0]; exact ⟨rfl, rfl⟩) | (rw [c_13_1]; exact ⟨rfl, rfl⟩) | (rw [c_13_2]; exact ⟨rfl, rfl⟩) | (rw [uk_3 c_13_0 c_13_1 c_13_2]; exact ⟨rfl, rfl⟩)
  by_cases c_13_1 : q = 1
  · refine lv_tableIn (off := 37) (tgt := 50) hx hb dX4_shared_13 (by rw [c_13_1]; decide) (by rw [c_13_1]; decide) (by rw [c_13_1]; rfl) (by decide) ?_
    refine lv_aload_n hx hb dX4_shared_50 rfl (lv_at hl 1 rfl) ?_
    refine va_get (ci := 4) (C := RX4) (T := TX4) (N := 9) hx hb hts hinX4 hown hK.1 hP 0 rfl rfl 1 (by decide) (hts _ (List.mem_of_getElem? (i := 1) rfl)) (fun _ h9 => h9) rfl dX4_shared_51 ?_
    refine kSiN hx hb hml hown hts hK hP gX4_shared_X0_joyTogether_n158 (hK.2 _ (List.mem_of_getElem? (i := 56) rfl)) (hts _ (List.mem_of_getElem? (i := 7) rfl)) (hts _ (List.mem_of_getElem? (i := 6) rfl)) (hts _ (List.mem_of_getElem? (i := 8) rfl)) okX0_joyTogether (qX0_joyTogether l D cI cB g 4 B (by show sn_ B ≤ 7; omega)) [2, 3, 4, 5, 6, 7] rfl rfl rfl rfl (by decide) hl.1 rfl rfl (Nat.le_of_ble_eq_true rfl) dX4_shared_54 (by decide) (fun r_3 hr_4 => ?_)
    replace hr_4 : r_3 = su_ (jy_ B) (sn_ B) := hr_4
    subst r_3
    refine lv_iload_n hx hb dX4_shared_57 rfl (lv_at hl 0 rfl) ?_
    refine lv_irem hx hb dX4_shared_58 (mx1_nz _) ?_
    refine rMi hx hb hr hlk hS (T, rf) hP ?_ dX4_shared_59
    first | (rw [c_13_0]; exact ⟨rfl, rfl⟩) | (rw [c_13_1]; exact ⟨rfl, rfl⟩) | (rw [c_13_2]; exact ⟨rfl, rfl⟩) | (rw [uk_3 c_13_0 c_13_1 c_13_2]; exact ⟨rfl, rfl⟩)
  by_cases c_13_2 : q = 2
  · refine lv_tableIn (off := 47) (tgt := 60) hx hb dX4_shared_13 (by rw [c_13_2]; decide) (by rw [c_13_2]; decide) (by rw [c_13_2]; rfl) (by decide) ?_
    refine lv_aload_n hx hb dX4_shared_60 rfl (lv_at hl 1 rfl) ?_
    refine va_get (ci := 4) (C := RX4) (T := TX4) (N := 9) hx hb hts hinX4 hown hK.1 hP 0 rfl rfl 1 (by decide) (hts _ (List.mem_of_getElem? (i := 1) rfl)) (fun _ h9 => h9) rfl dX4_shared_61 ?_
    refine kSiN hx hb hml hown hts hK hP gX4_shared_X0_joylessBits_n227 (hK.2 _ (List.mem_of_getElem? (i := 75) rfl)) (hts _ (List.mem_of_getElem? (i := 7) rfl)) (hts _ (List.mem_of_getElem? (i := 12) rfl)) (hts _ (List.mem_of_getElem? (i := 13) rfl)) okX0_joylessBits (qX0_joylessBits l D cI cB g 4 B (by show sn_ B ≤ 7; omega)) [2, 3, 4, 5, 6, 7] rfl rfl rfl rfl (by decide) hl.1 rfl rfl (Nat.le_of_ble_eq_true rfl) dX4_shared_64 (by decide) (fun r_5 hr_6 => ?_)
    replace hr_6 : r_5 = bi_ (jy_ B) 0 (sn_ B) := hr_6
    subst r_5
    refine rMi hx hb hr hlk hS (T, rf) hP ?_ dX4_shared_67
    first | (rw [c_13_0]; exact ⟨rfl, rfl⟩) | (rw [c_13_1]; exact ⟨rfl, rfl⟩) | (rw [c_13_2]; exact ⟨rfl, rfl⟩) | (rw [uk_3 c_13_0 c_13_1 c_13_2]; exact ⟨rfl, rfl⟩)
  refine lv_tableOut (tgt := 68) hx hb dX4_shared_13 (by have t0 := lv_neT c_13_0 (a := 0) (by decide); have t1 := lv_neT c_13_1 (a := 1) (by decide); have t2 := lv_neT c_13_2 (a := 2) (by decide); omega) (by decide) ?_
  refine lv_aload_n hx hb dX4_shared_68 rfl (lv_at hl 1 rfl) ?_
  refine lv_bipush (v := (-2)) hx hb dX4_shared_69 (by decide) ?_
  refine kMiV hx hb hml hown hts hK hP hD hA hS gX4_shared_X4_refuse okX4_refuse (qX4_refuse l D cI cB g hi tc rf (-2) (Or.inr (Or.inl rfl))) [0, 14] rfl (by decide) (fun _ => rfl) rfl rfl rfl (by decide) hl.1 rfl rfl (Nat.le_of_ble_eq_true rfl) dX4_shared_71 (by decide) (fun r_7 u_8 H locs hw_9 hP hD hS => ?_)
  replace hw_9 : r_7 = (-2) ∧ u_8 = rfx_ rf (-2) := hw_9
  obtain ⟨hw_9a, hw_9b⟩ := hw_9
  subst r_7
  subst u_8
  replace hP : va_P D vwCl (xO g hi tc ++ miO g ++ bW cI g 4 B ++ bW cI g 10 T ++ rW cI g (rfx_ rf (-2))) H := (va_P.m [true, false, false, false, false, false, false, false, false, false, false, false, false, false, true] [] hP)
  replace hD : va_D A (xO g hi tc ++ miO g ++ bW cI g 4 B ++ bW cI g 10 T ++ rW cI g (rfx_ rf (-2))) := (va_D.m [true, false, false, false, false, false, false, false, false, false, false, false, false, false, true] [] hD)
  refine rMi hx hb hr hlk hS (T, (rfx_ rf (-2))) hP ?_ dX4_shared_74
  first | (rw [c_13_0]; exact ⟨rfl, rfl⟩) | (rw [c_13_1]; exact ⟨rfl, rfl⟩) | (rw [c_13_2]; exact ⟨rfl, rfl⟩) | (rw [uk_3 c_13_0 c_13_1 c_13_2]; exact ⟨rfl, rfl⟩)

theorem okX4_loudHour : jok yX4_loudHour wsX4_loudHour cX4_loudHour 2 (some .int) 1 := ⟨⟨_, rfl⟩, by decide +kernel, by decide +kernel⟩
set_option maxHeartbeats 1000000 in
set_option maxRecDepth 100000 in
theorem qX4_loudHour (l : Launch) (D : va_G) (cI cB : ClassId) (g : Nat → Nat) (hi : Int32) (tc : Nat) (B : BayT) (T : BayT) (rf : Nat → Int32) (q : Int32) (hn7 : sn_ B ≤ 7) : jMi D cI cB l yX4_loudHour wsX4_loudHour 4 [.ref (g 0), .int q] (xO g hi tc ++ miO g ++ bW cI g 4 B ++ bW cI g 10 T ++ rW cI g rf) (S := BayT × (Nat → Int32)) (fun r u => r = (if uk_ q 1 = 0 then lhX_ B q else uk_ q 1) ∧ u.2 = rfx_ rf (uk_ q 1)) (fun u => xO g hi tc ++ miO g ++ bW cI g 4 B ++ bW cI g 10 u.1 ++ rW cI g u.2) := by
  refine jMi.of (cc := cX4_loudHour) (maxL := 2) (ret := (some .int)) okX4_loudHour (Nat.le_of_ble_eq_true rfl) ?_
  intro p e s m below meth c ls A hx hb hr hts hown hlk hml hP hK hD hA hS hl
  replace hown : s.vm.findClass RX4 = some m.cls := hown
  replace hl : lv_has ls 2 [(0, .ref (g 0)), (1, .int q)] := hl
  have hinX4 : ∀ w ∈ wsX40, w ∈ wsX4_loudHour := by decide +kernel
  refine lv_iload_n hx hb dX4_loudHour_0 rfl (lv_at hl 1 rfl) ?_
  by_cases c_1_0 : q = 0
  · refine lv_lookup (off := 27) (tgt := 28) hx hb dX4_loudHour_1 (by decide) (by rw [c_1_0]; rfl) (by decide) ?_
    refine lv_aload_n hx hb dX4_loudHour_28 rfl (lv_at hl 0 rfl) ?_
    refine va_get (ci := 4) (C := RX4) (T := TX4) (N := 9) hx hb hts hinX4 hown hK.1 hP 0 rfl rfl 1 (by decide) (hts _ (List.mem_of_getElem? (i := 1) rfl)) (fun _ h9 => h9) rfl dX4_loudHour_29 ?_
    refine kSiN hx hb hml hown hts hK hP gX4_loudHour_X0_loudestHour_n230 (hK.2 _ (List.mem_of_getElem? (i := 76) rfl)) (hts _ (List.mem_of_getElem? (i := 3) rfl)) (hts _ (List.mem_of_getElem? (i := 2) rfl)) (hts _ (List.mem_of_getElem? (i := 4) rfl)) okX0_loudestHour (qX0_loudestHour l D cI cB g 4 B (by show sn_ B ≤ 7; omega)) [2, 3, 4, 5, 6, 7] rfl rfl rfl rfl (by decide) hl.1 rfl rfl (Nat.le_of_ble_eq_true rfl) dX4_loudHour_32 (by decide) (fun r_1 hr_2 => ?_)
    replace hr_2 : r_1 = nI (lh_ B 23) := hr_2
    subst r_1
    refine rMi hx hb hr hlk hS (T, rf) hP ?_ dX4_loudHour_35
    first | (rw [c_1_0]; exact ⟨rfl, rfl⟩) | (rw [c_1_1]; exact ⟨rfl, rfl⟩) | (rw [uk_2 c_1_0 c_1_1]; exact ⟨rfl, rfl⟩)
  by_cases c_1_1 : q = 1
  · refine lv_lookup (off := 35) (tgt := 36) hx hb dX4_loudHour_1 (by decide) (by rw [c_1_1]; rfl) (by decide) ?_
    refine lv_aload_n hx hb dX4_loudHour_36 rfl (lv_at hl 0 rfl) ?_
    refine va_get (ci := 4) (C := RX4) (T := TX4) (N := 9) hx hb hts hinX4 hown hK.1 hP 0 rfl rfl 1 (by decide) (hts _ (List.mem_of_getElem? (i := 1) rfl)) (fun _ h9 => h9) rfl dX4_loudHour_37 ?_
    refine kSiN hx hb hml hown hts hK hP gX4_loudHour_X0_calmBits_n233 (hK.2 _ (List.mem_of_getElem? (i := 77) rfl)) (hts _ (List.mem_of_getElem? (i := 3) rfl)) (hts _ (List.mem_of_getElem? (i := 37) rfl)) (hts _ (List.mem_of_getElem? (i := 38) rfl)) okX0_calmBits (qX0_calmBits l D cI cB g 4 B (by show sn_ B ≤ 7; omega)) [2, 3, 4, 5, 6, 7] rfl rfl rfl rfl (by decide) hl.1 rfl rfl (Nat.le_of_ble_eq_true rfl) dX4_loudHour_40 (by decide) (fun r_3 hr_4 => ?_)
    replace hr_4 : r_3 = bi_ (fun j => an_ B (nI j)) 0 24 := hr_4
    subst r_3
    refine rMi hx hb hr hlk hS (T, rf) hP ?_ dX4_loudHour_43
    first | (rw [c_1_0]; exact ⟨rfl, rfl⟩) | (rw [c_1_1]; exact ⟨rfl, rfl⟩) | (rw [uk_2 c_1_0 c_1_1]; exact ⟨rfl, rfl⟩)
  refine lv_lookup (off := 43) (tgt := 44) hx hb dX4_loudHour_1 (by decide) (by rw [lv_osw c_1_0 (by decide)]; rw [lv_osw c_1_1 (by decide)]; rfl) (by decide) ?_
  refine lv_aload_n hx hb dX4_loudHour_44 rfl (lv_at hl 0 rfl) ?_
  refine lv_bipush (v := (-2)) hx hb dX4_loudHour_45 (by decide) ?_
  refine kMiV hx hb hml hown hts hK hP hD hA hS gX4_loudHour_X4_refuse okX4_refuse (qX4_refuse l D cI cB g hi tc rf (-2) (Or.inr (Or.inl rfl))) [0, 14] rfl (by decide) (fun _ => rfl) rfl rfl rfl (by decide) hl.1 rfl rfl (Nat.le_of_ble_eq_true rfl) dX4_loudHour_47 (by decide) (fun r_5 u_6 H locs hw_7 hP hD hS => ?_)
  replace hw_7 : r_5 = (-2) ∧ u_6 = rfx_ rf (-2) := hw_7
  obtain ⟨hw_7a, hw_7b⟩ := hw_7
  subst r_5
  subst u_6
  replace hP : va_P D vwCl (xO g hi tc ++ miO g ++ bW cI g 4 B ++ bW cI g 10 T ++ rW cI g (rfx_ rf (-2))) H := (va_P.m [true, false, false, false, false, false, false, false, false, false, false, false, false, false, true] [] hP)
  replace hD : va_D A (xO g hi tc ++ miO g ++ bW cI g 4 B ++ bW cI g 10 T ++ rW cI g (rfx_ rf (-2))) := (va_D.m [true, false, false, false, false, false, false, false, false, false, false, false, false, false, true] [] hD)
  refine rMi hx hb hr hlk hS (T, (rfx_ rf (-2))) hP ?_ dX4_loudHour_50
  first | (rw [c_1_0]; exact ⟨rfl, rfl⟩) | (rw [c_1_1]; exact ⟨rfl, rfl⟩) | (rw [uk_2 c_1_0 c_1_1]; exact ⟨rfl, rfl⟩)

theorem okX4_mean : jok yX4_mean wsX4_mean cX4_mean 3 (some .long) 1 := ⟨⟨_, rfl⟩, by decide +kernel, by decide +kernel⟩
set_option maxHeartbeats 1000000 in
set_option maxRecDepth 100000 in
theorem qX4_mean (l : Launch) (D : va_G) (cI cB : ClassId) (g : Nat → Nat) (hi : Int32) (tc : Nat) (B : BayT) (T : BayT) (rf : Nat → Int32) (p_9 : Int32) (hn7 : sn_ B ≤ 7) : jMl D cI cB l yX4_mean wsX4_mean 2 [.ref (g 0), .int p_9] (xO g hi tc ++ miO g ++ bW cI g 4 B ++ bW cI g 10 T ++ rW cI g rf) (S := BayT × (Nat → Int32)) (fun r u => r = (if uk_ p_9 1 = 0 then it_ ((su_ (pl_ B) (sn_ B) : Int32).toInt64) ((mx1_ (sn_ B) : Int32).toInt64) p_9 else lref_ (uk_ p_9 1)) ∧ u.2 = rfx_ rf (uk_ p_9 1)) (fun u => xO g hi tc ++ miO g ++ bW cI g 4 B ++ bW cI g 10 u.1 ++ rW cI g u.2) := by
  refine jMl.of (cc := cX4_mean) (maxL := 3) (ret := (some .long)) okX4_mean (Nat.le_of_ble_eq_true rfl) ?_
  intro p e s m below meth c ls A hx hb hr hts hown hlk hml hP hK hD hA hS hl
  replace hown : s.vm.findClass RX4 = some m.cls := hown
  replace hl : lv_has ls 3 [(0, .ref (g 0)), (1, .int p_9)] := hl
  have hinX0 : ∀ w ∈ wsX00, w ∈ wsX4_mean := by decide +kernel
  have hinX4 : ∀ w ∈ wsX40, w ∈ wsX4_mean := by decide +kernel
  refine lv_iload_n hx hb dX4_mean_0 rfl (lv_at hl 1 rfl) ?_
  refine lv_iconst (v := 1) hx hb dX4_mean_1 (by decide) ?_
  refine kSiS hx hb hml hown hts hK hP gX4_mean_X4_unknown okX4_unknown (qX4_unknown l D cI cB p_9 1 ) [] rfl (by decide) hl.1 rfl rfl (Nat.le_of_ble_eq_true rfl) dX4_mean_2 (by decide) (fun r_1 hr_2 => ?_)
  replace hr_2 : r_1 = uk_ p_9 1 := hr_2
  subst r_1
  refine lv_istore_n (lv' := [(2, .int (uk_ p_9 1)), (0, .ref (g 0)), (1, .int p_9)]) hx hb dX4_mean_5 rfl hl (by decide) rfl (fun ls hl => ?_)
  refine lv_iload_n hx hb dX4_mean_6 rfl (lv_at hl 0 rfl) ?_
  refine lv_if_eq (tgt := 21) hx hb dX4_mean_7 (by decide) (fun c_7 => ?_) (fun c_7 => ?_)
  · skip
    refine lv_aload_n hx hb dX4_mean_21 rfl (lv_at hl 1 rfl) ?_
    refine va_get (ci := 4) (C := RX4) (T := TX4) (N := 9) hx hb hts hinX4 hown hK.1 hP 0 rfl rfl 1 (by decide) (hts _ (List.mem_of_getElem? (i := 2) rfl)) (fun _ h9 => h9) rfl dX4_mean_22 ?_
    refine kSiN hx hb hml hown hts hK hP gX4_mean_X0_placesTogether_n238 (hK.2 _ (List.mem_of_getElem? (i := 78) rfl)) (hts _ (List.mem_of_getElem? (i := 17) rfl)) (hts _ (List.mem_of_getElem? (i := 16) rfl)) (hts _ (List.mem_of_getElem? (i := 18) rfl)) okX0_placesTogether (qX0_placesTogether l D cI cB g 4 B (by show sn_ B ≤ 7; omega)) [2, 3, 4, 5, 6, 7] rfl rfl rfl rfl (by decide) hl.1 rfl rfl (Nat.le_of_ble_eq_true rfl) dX4_mean_25 (by decide) (fun r_3 hr_4 => ?_)
    replace hr_4 : r_3 = su_ (pl_ B) (sn_ B) := hr_4
    subst r_3
    refine lv_i2l (v := (su_ (pl_ B) (sn_ B) : Int32).toInt64) hx hb dX4_mean_28 rfl ?_
    refine lv_iconst (v := 1) hx hb dX4_mean_29 (by decide) ?_
    refine lv_aload_n hx hb dX4_mean_30 rfl (lv_at hl 1 rfl) ?_
    refine va_get (ci := 4) (C := RX4) (T := TX4) (N := 9) hx hb hts hinX4 hown hK.1 hP 0 rfl rfl 1 (by decide) (hts _ (List.mem_of_getElem? (i := 2) rfl)) (fun _ h9 => h9) rfl dX4_mean_31 ?_
    refine va_getN (ci := 0) (C := RX0) (T := TX0) (N := 11) hx hb hts hinX0 hown hK.1 hP 2 rfl rfl 6 (by decide) (va_Nw.use rfl (hK.2 _ (List.mem_of_getElem? (i := 13) rfl))) (fun _ h9 => h9) rfl dX4_mean_34 ?_
    refine va_mmax hx hb (hml.trans hl.1.symm) hown (hts _ (List.mem_of_getElem? (i := 3) rfl)) (hts _ (List.mem_of_getElem? (i := 4) rfl)) (hts _ (List.mem_of_getElem? (i := 5) rfl)) (hts _ (List.mem_of_getElem? (i := 6) rfl)) (by decide) (Nat.le_of_ble_eq_true rfl) (by decide) (by decide) dX4_mean_37 ?_
    refine lv_i2l (v := (if 1 < (nI (sn_ B)) then (nI (sn_ B)) else 1 : Int32).toInt64) hx hb dX4_mean_40 rfl ?_
    refine lv_iload_n hx hb dX4_mean_41 rfl (lv_at hl 2 rfl) ?_
    refine kSlS hx hb hml hown hts hK hP gX4_mean_X4_inLowestTerms okX4_inLowestTerms (qX4_inLowestTerms l D cI cB ((su_ (pl_ B) (sn_ B) : Int32).toInt64) ((if 1 < (nI (sn_ B)) then (nI (sn_ B)) else 1 : Int32).toInt64) p_9 ) [] rfl (by decide) hl.1 rfl rfl (Nat.le_of_ble_eq_true rfl) dX4_mean_42 (by decide) (fun r_5 hr_6 => ?_)
    replace hr_6 : r_5 = it_ ((su_ (pl_ B) (sn_ B) : Int32).toInt64) ((if 1 < (nI (sn_ B)) then (nI (sn_ B)) else 1 : Int32).toInt64) p_9 := hr_6
    subst r_5
    refine rMl hx hb hr hlk hS (T, rf) hP ?_ dX4_mean_45
    first | exact ⟨(if_neg c_7).symm, rfl⟩ | (refine ⟨?_, rfx_0 c_7⟩; rw [if_pos c_7]; first | done | (rfl))
  · skip
    refine lv_ldc2 hx hb hown (hts _ (List.mem_of_getElem? (i := 1) rfl)) dX4_mean_10 ?_
    refine lv_aload_n hx hb dX4_mean_13 rfl (lv_at hl 1 rfl) ?_
    refine lv_iload_n hx hb dX4_mean_14 rfl (lv_at hl 0 rfl) ?_
    refine kMiV hx hb hml hown hts hK hP hD hA hS gX4_mean_X4_refuse okX4_refuse (qX4_refuse l D cI cB g hi tc rf (uk_ p_9 1) (rc0_n (by first | exact rc0_wS _ _ | exact rc0_wSN _ _ _ | exact rc0_wSNW _ _ _ _ | exact rc0_wNW _ _ | exact rc0_wTh _ _ _ _ _ | exact rc0_nb _ _ | exact rc0_uk _ _ | exact rc0_ob _ _ _ | exact rc0_f2 (rc0_nb _ _) (rc0_nb _ _) | exact rc0_f2 (rc0_nb _ _) (rc0_uk _ _) | exact rc0_f2 (rc0_ob _ _ _) (rc0_uk _ _) | exact rc0_f2 (rc0_uk _ _) (rc0_f2 (rc0_uk _ _) (rc0_ob _ _ _)) | exact rc0_f2 (rc0_f2 (rc0_nb _ _) (rc0_nb _ _)) (rc0_if (Or.inr (Or.inl rfl)) (rc0_uk _ _))) c_7)) [0, 14] rfl (by decide) (fun _ => rfl) rfl rfl rfl (by decide) hl.1 rfl rfl (Nat.le_of_ble_eq_true rfl) dX4_mean_15 (by decide) (fun r_7 u_8 H locs hw_9 hP hD hS => ?_)
    replace hw_9 : r_7 = uk_ p_9 1 ∧ u_8 = rfx_ rf (uk_ p_9 1) := hw_9
    obtain ⟨hw_9a, hw_9b⟩ := hw_9
    subst r_7
    subst u_8
    replace hP : va_P D vwCl (xO g hi tc ++ miO g ++ bW cI g 4 B ++ bW cI g 10 T ++ rW cI g (rfx_ rf (uk_ p_9 1))) H := (va_P.m [true, false, false, false, false, false, false, false, false, false, false, false, false, false, true] [] hP)
    replace hD : va_D A (xO g hi tc ++ miO g ++ bW cI g 4 B ++ bW cI g 10 T ++ rW cI g (rfx_ rf (uk_ p_9 1))) := (va_D.m [true, false, false, false, false, false, false, false, false, false, false, false, false, false, true] [] hD)
    refine lv_i2l (v := (uk_ p_9 1 : Int32).toInt64) hx hb dX4_mean_18 rfl ?_
    refine lv_lsub hx hb dX4_mean_19 ?_
    refine rMl hx hb hr hlk hS (T, (rfx_ rf (uk_ p_9 1))) hP ?_ dX4_mean_20
    first | exact ⟨(if_neg c_7).symm, rfl⟩ | (refine ⟨?_, rfx_0 c_7⟩; rw [if_pos c_7]; first | done | (rfl))

theorem okX4_behind : jok yX4_behind wsX4_behind cX4_behind 5 (some .int) 2 := ⟨⟨_, rfl⟩, by decide +kernel, by decide +kernel⟩
set_option maxHeartbeats 1000000 in
set_option maxRecDepth 100000 in
theorem qX4_behind (l : Launch) (D : va_G) (cI cB : ClassId) (g : Nat → Nat) (hi : Int32) (tc : Nat) (B : BayT) (T : BayT) (rf : Nat → Int32) (v : Int32) (q : Int32) (hn7 : sn_ B ≤ 7) : jMi D cI cB l yX4_behind wsX4_behind 6 [.ref (g 0), .int v, .int q] (xO g hi tc ++ miO g ++ bW cI g 4 B ++ bW cI g 10 T ++ rW cI g rf) (S := BayT × (Nat → Int32)) (fun r u => r = (if wNW_ v q = 0 then (if q = 0 then il_ (hs_ (tn_ v) B) else oI_ (ow_ (hs_ (tn_ v) B))) else wNW_ v q) ∧ u.2 = rfx_ rf (wNW_ v q)) (fun u => xO g hi tc ++ miO g ++ bW cI g 4 B ++ bW cI g 10 u.1 ++ rW cI g u.2) := by
  refine jMi.of (cc := cX4_behind) (maxL := 5) (ret := (some .int)) okX4_behind (Nat.le_of_ble_eq_true rfl) ?_
  intro p e s m below meth c ls A hx hb hr hts hown hlk hml hP hK hD hA hS hl
  replace hown : s.vm.findClass RX4 = some m.cls := hown
  replace hl : lv_has ls 5 [(0, .ref (g 0)), (1, .int v), (2, .int q)] := hl
  have hinX0 : ∀ w ∈ wsX00, w ∈ wsX4_behind := by decide +kernel
  have hinX4 : ∀ w ∈ wsX40, w ∈ wsX4_behind := by decide +kernel
  refine lv_iload_n hx hb dX4_behind_0 rfl (lv_at hl 1 rfl) ?_
  refine lv_iload_n hx hb dX4_behind_1 rfl (lv_at hl 2 rfl) ?_
  refine kSiS hx hb hml hown hts hK hP gX4_behind_X4_refusalInMind okX4_refusalInMind (qX4_refusalInMind l D cI cB v q ) [] rfl (by decide) hl.1 rfl rfl (Nat.le_of_ble_eq_true rfl) dX4_behind_2 (by decide) (fun r_1 hr_2 => ?_)
  replace hr_2 : r_1 = wNW_ v q := hr_2
  subst r_1
  refine lv_istore_n (lv' := [(3, .int (wNW_ v q)), (0, .ref (g 0)), (1, .int v), (2, .int q)]) hx hb dX4_behind_5 rfl hl (by decide) rfl (fun ls hl => ?_)
  refine lv_iload_n hx hb dX4_behind_6 rfl (lv_at hl 0 rfl) ?_
  refine lv_if_eq (tgt := 16) hx hb dX4_behind_7 (by decide) (fun c_7 => ?_) (fun c_7 => ?_)
  · skip
    have w0 := c_7
    simp only [wS_, wSN_, wSNW_, wNW_, wTh_, f2_0, nb_0, ob_0, uk_0, lo_0, hi_0] at w0
    obtain ⟨v_, hv_, rfl⟩ := pl_le (n := 99) (by decide) w0.1
    replace hl : lv_has ls 5 [(3, .int (wNW_ (nI v_) q)), (0, .ref (g 0)), (1, .int (nI v_)), (2, .int q)] := hl
    refine lv_aload_n hx hb dX4_behind_16 rfl (lv_at hl 1 rfl) ?_
    refine va_get (ci := 4) (C := RX4) (T := TX4) (N := 9) hx hb hts hinX4 hown hK.1 hP 0 rfl rfl 0 (by decide) (hts _ (List.mem_of_getElem? (i := 1) rfl)) (fun _ h9 => h9) rfl dX4_behind_17 ?_
    refine lv_iload_n hx hb dX4_behind_20 rfl (lv_at hl 2 rfl) ?_
    refine kMrN hx hb hml hown hts hK hP hD hA hS gX4_behind_X2_after_n254 (hK.2 _ (List.mem_of_getElem? (i := 81) rfl)) (hts _ (List.mem_of_getElem? (i := 24) rfl)) (hts _ (List.mem_of_getElem? (i := 23) rfl)) (hts _ (List.mem_of_getElem? (i := 25) rfl)) okX2_after (qX2_after l D cI cB g B T v_ (by show sn_ B ≤ 7; omega) (by omega)) [1, 2, 3, 4, 5, 6, 7, 8, 9, 10, 11, 12, 13] rfl (by decide) (fun _ => rfl) rfl rfl rfl (by decide) hl.1 rfl rfl (Nat.le_of_ble_eq_true rfl) dX4_behind_21 (by decide) (fun u_4 H locs hw_5 hP hD hS => ?_)
    replace hw_5 : u_4 = hs_ v_ B := hw_5
    subst u_4
    replace hP : va_P D vwCl (xO g hi tc ++ miO g ++ bW cI g 4 B ++ bW cI g 10 (hs_ v_ B) ++ rW cI g rf) H := (va_P.m [false, true, true, true, true, true, true, true, true, true, true, true, true, true] [] hP)
    replace hD : va_D A (xO g hi tc ++ miO g ++ bW cI g 4 B ++ bW cI g 10 (hs_ v_ B) ++ rW cI g rf) := (va_D.m [false, true, true, true, true, true, true, true, true, true, true, true, true, true] [] hD)
    refine lv_astore (lv' := [(4, .ref (g 10)), (3, .int (wNW_ (nI v_) q)), (0, .ref (g 0)), (1, .int (nI v_)), (2, .int q)]) hx hb dX4_behind_24 hl (by decide) rfl (fun ls hl => ?_)
    refine lv_iload_n hx hb dX4_behind_26 rfl (lv_at hl 4 rfl) ?_
    refine lv_if_ne (tgt := 38) hx hb dX4_behind_27 (by decide) (fun c_27 => ?_) (fun c_27 => ?_)
    · skip
      refine lv_aload hx hb dX4_behind_38 (lv_at hl 0 rfl) ?_
      refine kSiN hx hb hml hown hts hK hP gX4_behind_X0_owner_n146 (hK.2 _ (List.mem_of_getElem? (i := 55) rfl)) (hts _ (List.mem_of_getElem? (i := 34) rfl)) (hts _ (List.mem_of_getElem? (i := 110) rfl)) (hts _ (List.mem_of_getElem? (i := 111) rfl)) okX0_owner (qX0_owner l D cI cB g 10 (hs_ v_ B) (by show sn_ (hs_ _ _) ≤ 7; rw [sn_hs]; omega)) [8, 9, 10, 11, 12, 13] rfl rfl rfl rfl (by decide) hl.1 rfl rfl (Nat.le_of_ble_eq_true rfl) dX4_behind_40 (by decide) (fun r_6 hr_7 => ?_)
      replace hr_7 : r_6 = oI_ (ow_ (hs_ v_ B)) := hr_7
      subst r_6
      refine rMi hx hb hr hlk hS ((hs_ v_ B), rf) hP ?_ dX4_behind_43
      first | exact ⟨(if_neg c_7).symm, rfl⟩ | (refine ⟨?_, rfx_0 c_7⟩; rw [if_pos c_7]; (try simp only [tn_n (show v_ < 2147483648 by omega)]); first | done | (first | (rw [if_pos c_27]; done) | (rw [if_neg c_27]; done) | (rw [if_pos c_27]; rfl) | (rw [if_neg c_27]; rfl)))
    · skip
      refine lv_aload hx hb dX4_behind_30 (lv_at hl 0 rfl) ?_
      refine va_getN (ci := 0) (C := RX0) (T := TX0) (N := 11) hx hb hts hinX0 hown hK.1 hP 8 rfl rfl 7 (by decide) (va_Nw.use rfl (hK.2 _ (List.mem_of_getElem? (i := 16) rfl))) (fun _ h9 => h9) rfl dX4_behind_32 ?_
      refine lv_goto (tgt := 43) hx hb dX4_behind_35 (by decide) ?_
      refine rMi hx hb hr hlk hS ((hs_ v_ B), rf) hP ?_ dX4_behind_43
      first | exact ⟨(if_neg c_7).symm, rfl⟩ | (refine ⟨?_, rfx_0 c_7⟩; rw [if_pos c_7]; (try simp only [tn_n (show v_ < 2147483648 by omega)]); first | done | (first | (rw [if_pos c_27]; done) | (rw [if_neg c_27]; done) | (rw [if_pos c_27]; rfl) | (rw [if_neg c_27]; rfl)))
  · skip
    refine lv_aload_n hx hb dX4_behind_10 rfl (lv_at hl 1 rfl) ?_
    refine lv_iload_n hx hb dX4_behind_11 rfl (lv_at hl 0 rfl) ?_
    refine kMiV hx hb hml hown hts hK hP hD hA hS gX4_behind_X4_refuse okX4_refuse (qX4_refuse l D cI cB g hi tc rf (wNW_ v q) (rc0_n (by first | exact rc0_wS _ _ | exact rc0_wSN _ _ _ | exact rc0_wSNW _ _ _ _ | exact rc0_wNW _ _ | exact rc0_wTh _ _ _ _ _ | exact rc0_nb _ _ | exact rc0_uk _ _ | exact rc0_ob _ _ _ | exact rc0_f2 (rc0_nb _ _) (rc0_nb _ _) | exact rc0_f2 (rc0_nb _ _) (rc0_uk _ _) | exact rc0_f2 (rc0_ob _ _ _) (rc0_uk _ _) | exact rc0_f2 (rc0_uk _ _) (rc0_f2 (rc0_uk _ _) (rc0_ob _ _ _)) | exact rc0_f2 (rc0_f2 (rc0_nb _ _) (rc0_nb _ _)) (rc0_if (Or.inr (Or.inl rfl)) (rc0_uk _ _))) c_7)) [0, 14] rfl (by decide) (fun _ => rfl) rfl rfl rfl (by decide) hl.1 rfl rfl (Nat.le_of_ble_eq_true rfl) dX4_behind_12 (by decide) (fun r_8 u_9 H locs hw_10 hP hD hS => ?_)
    replace hw_10 : r_8 = wNW_ v q ∧ u_9 = rfx_ rf (wNW_ v q) := hw_10
    obtain ⟨hw_10a, hw_10b⟩ := hw_10
    subst r_8
    subst u_9
    replace hP : va_P D vwCl (xO g hi tc ++ miO g ++ bW cI g 4 B ++ bW cI g 10 T ++ rW cI g (rfx_ rf (wNW_ v q))) H := (va_P.m [true, false, false, false, false, false, false, false, false, false, false, false, false, false, true] [] hP)
    replace hD : va_D A (xO g hi tc ++ miO g ++ bW cI g 4 B ++ bW cI g 10 T ++ rW cI g (rfx_ rf (wNW_ v q))) := (va_D.m [true, false, false, false, false, false, false, false, false, false, false, false, false, false, true] [] hD)
    refine rMi hx hb hr hlk hS (T, (rfx_ rf (wNW_ v q))) hP ?_ dX4_behind_15
    first | exact ⟨(if_neg c_7).symm, rfl⟩ | (refine ⟨?_, rfx_0 c_7⟩; rw [if_pos c_7]; (try simp only [tn_n (show v_ < 2147483648 by omega)]); first | done | (first | (rw [if_pos c_27]; done) | (rw [if_neg c_27]; done) | (rw [if_pos c_27]; rfl) | (rw [if_neg c_27]; rfl)))

theorem okX4_shoreBehind : jok yX4_shoreBehind wsX4_shoreBehind cX4_shoreBehind 6 (some .int) 3 := ⟨⟨_, rfl⟩, by decide +kernel, by decide +kernel⟩
set_option maxHeartbeats 1000000 in
set_option maxRecDepth 100000 in
theorem qX4_shoreBehind (l : Launch) (D : va_G) (cI cB : ClassId) (g : Nat → Nat) (hi : Int32) (tc : Nat) (B : BayT) (T : BayT) (rf : Nat → Int32) (a : Int32) (v : Int32) (q : Int32) (hn7 : sn_ B ≤ 7) : jMi D cI cB l yX4_shoreBehind wsX4_shoreBehind 6 [.ref (g 0), .int a, .int v, .int q] (xO g hi tc ++ miO g ++ bW cI g 4 B ++ bW cI g 10 T ++ rW cI g rf) (S := BayT × (Nat → Int32)) (fun r u => r = (if wSNW_ (sn_ B) a v q = 0 then (if q = 0 then jy_ (hs_ (tn_ v) B) (tn_ a) else pw_ (hs_ (tn_ v) B) (tn_ a)) else wSNW_ (sn_ B) a v q) ∧ u.2 = rfx_ rf (wSNW_ (sn_ B) a v q)) (fun u => xO g hi tc ++ miO g ++ bW cI g 4 B ++ bW cI g 10 u.1 ++ rW cI g u.2) := by
  refine jMi.of (cc := cX4_shoreBehind) (maxL := 6) (ret := (some .int)) okX4_shoreBehind (Nat.le_of_ble_eq_true rfl) ?_
  intro p e s m below meth c ls A hx hb hr hts hown hlk hml hP hK hD hA hS hl
  replace hown : s.vm.findClass RX4 = some m.cls := hown
  replace hl : lv_has ls 6 [(0, .ref (g 0)), (1, .int a), (2, .int v), (3, .int q)] := hl
  have hinX0 : ∀ w ∈ wsX00, w ∈ wsX4_shoreBehind := by decide +kernel
  have hinX4 : ∀ w ∈ wsX40, w ∈ wsX4_shoreBehind := by decide +kernel
  refine lv_aload_n hx hb dX4_shoreBehind_0 rfl (lv_at hl 0 rfl) ?_
  refine lv_iload_n hx hb dX4_shoreBehind_1 rfl (lv_at hl 1 rfl) ?_
  refine lv_iload_n hx hb dX4_shoreBehind_2 rfl (lv_at hl 2 rfl) ?_
  refine lv_iload_n hx hb dX4_shoreBehind_3 rfl (lv_at hl 3 rfl) ?_
  refine kSiV hx hb hml hown hts hK hP gX4_shoreBehind_X4_refusalOf_ okX4_refusalOf_ (qX4_refusalOf_ l D cI cB g hi tc B a v q (by show sn_ B ≤ 7; omega)) [0, 2, 3, 4, 5, 6, 7] rfl rfl rfl rfl (by decide) hl.1 rfl rfl (Nat.le_of_ble_eq_true rfl) dX4_shoreBehind_4 (by decide) (fun r_1 hr_2 => ?_)
  replace hr_2 : r_1 = wSNW_ (sn_ B) a v q := hr_2
  subst r_1
  refine lv_istore (lv' := [(4, .int (wSNW_ (sn_ B) a v q)), (0, .ref (g 0)), (1, .int a), (2, .int v), (3, .int q)]) hx hb dX4_shoreBehind_7 hl (by decide) rfl (fun ls hl => ?_)
  refine lv_iload hx hb dX4_shoreBehind_9 (lv_at hl 0 rfl) ?_
  refine lv_if_eq (tgt := 21) hx hb dX4_shoreBehind_11 (by decide) (fun c_11 => ?_) (fun c_11 => ?_)
  · skip
    have w0 := c_11
    simp only [wS_, wSN_, wSNW_, wNW_, wTh_, f2_0, nb_0, ob_0, uk_0, lo_0, hi_0] at w0
    obtain ⟨a_, ha_, rfl⟩ := pl_lt (n := sn_ B) (by omega) w0.1.1
    obtain ⟨v_, hv_, rfl⟩ := pl_le (n := 99) (by decide) w0.1.2
    replace hl : lv_has ls 6 [(4, .int (wSNW_ (sn_ B) (nI a_) (nI v_) q)), (0, .ref (g 0)), (1, .int (nI a_)), (2, .int (nI v_)), (3, .int q)] := hl
    refine lv_aload_n hx hb dX4_shoreBehind_21 rfl (lv_at hl 1 rfl) ?_
    refine va_get (ci := 4) (C := RX4) (T := TX4) (N := 9) hx hb hts hinX4 hown hK.1 hP 0 rfl rfl 0 (by decide) (hts _ (List.mem_of_getElem? (i := 1) rfl)) (fun _ h9 => h9) rfl dX4_shoreBehind_22 ?_
    refine lv_iload_n hx hb dX4_shoreBehind_25 rfl (lv_at hl 3 rfl) ?_
    refine kMrN hx hb hml hown hts hK hP hD hA hS gX4_shoreBehind_X2_after_n254 (hK.2 _ (List.mem_of_getElem? (i := 81) rfl)) (hts _ (List.mem_of_getElem? (i := 33) rfl)) (hts _ (List.mem_of_getElem? (i := 32) rfl)) (hts _ (List.mem_of_getElem? (i := 34) rfl)) okX2_after (qX2_after l D cI cB g B T v_ (by show sn_ B ≤ 7; omega) (by omega)) [1, 2, 3, 4, 5, 6, 7, 8, 9, 10, 11, 12, 13] rfl (by decide) (fun _ => rfl) rfl rfl rfl (by decide) hl.1 rfl rfl (Nat.le_of_ble_eq_true rfl) dX4_shoreBehind_26 (by decide) (fun u_4 H locs hw_5 hP hD hS => ?_)
    replace hw_5 : u_4 = hs_ v_ B := hw_5
    subst u_4
    replace hP : va_P D vwCl (xO g hi tc ++ miO g ++ bW cI g 4 B ++ bW cI g 10 (hs_ v_ B) ++ rW cI g rf) H := (va_P.m [false, true, true, true, true, true, true, true, true, true, true, true, true, true] [] hP)
    replace hD : va_D A (xO g hi tc ++ miO g ++ bW cI g 4 B ++ bW cI g 10 (hs_ v_ B) ++ rW cI g rf) := (va_D.m [false, true, true, true, true, true, true, true, true, true, true, true, true, true] [] hD)
    refine lv_astore (lv' := [(5, .ref (g 10)), (4, .int (wSNW_ (sn_ B) (nI a_) (nI v_) q)), (0, .ref (g 0)), (1, .int (nI a_)), (2, .int (nI v_)), (3, .int q)]) hx hb dX4_shoreBehind_29 hl (by decide) rfl (fun ls hl => ?_)
    refine lv_iload_n hx hb dX4_shoreBehind_31 rfl (lv_at hl 5 rfl) ?_
    refine lv_if_ne (tgt := 45) hx hb dX4_shoreBehind_32 (by decide) (fun c_32 => ?_) (fun c_32 => ?_)
    · skip
      refine lv_aload hx hb dX4_shoreBehind_45 (lv_at hl 0 rfl) ?_
      refine va_getN (ci := 0) (C := RX0) (T := TX0) (N := 11) hx hb hts hinX0 hown hK.1 hP 8 rfl rfl 3 (by decide) (va_Nw.use rfl (hK.2 _ (List.mem_of_getElem? (i := 8) rfl))) (fun _ h9 => h9) rfl dX4_shoreBehind_47 ?_
      refine lv_iload_n hx hb dX4_shoreBehind_50 rfl (lv_at hl 3 rfl) ?_
      refine jald hx hb hK.1 hP 12 0 a_ rfl rfl rfl (by omega) (Nat.le_of_ble_eq_true rfl) dX4_shoreBehind_51 ?_
      refine rMi hx hb hr hlk hS ((hs_ v_ B), rf) hP ?_ dX4_shoreBehind_52
      first | exact ⟨(if_neg c_11).symm, rfl⟩ | (refine ⟨?_, rfx_0 c_11⟩; rw [if_pos c_11]; (try simp only [tn_n (show a_ < 2147483648 by omega), tn_n (show v_ < 2147483648 by omega)]); first | done | (first | (rw [if_pos c_32]; done) | (rw [if_neg c_32]; done) | (rw [if_pos c_32]; rfl) | (rw [if_neg c_32]; rfl)))
    · skip
      refine lv_aload hx hb dX4_shoreBehind_35 (lv_at hl 0 rfl) ?_
      refine va_getN (ci := 0) (C := RX0) (T := TX0) (N := 11) hx hb hts hinX0 hown hK.1 hP 8 rfl rfl 4 (by decide) (va_Nw.use rfl (hK.2 _ (List.mem_of_getElem? (i := 9) rfl))) (fun _ h9 => h9) rfl dX4_shoreBehind_37 ?_
      refine lv_iload_n hx hb dX4_shoreBehind_40 rfl (lv_at hl 3 rfl) ?_
      refine jald hx hb hK.1 hP 13 0 a_ rfl rfl rfl (by omega) (Nat.le_of_ble_eq_true rfl) dX4_shoreBehind_41 ?_
      refine lv_goto (tgt := 52) hx hb dX4_shoreBehind_42 (by decide) ?_
      refine rMi hx hb hr hlk hS ((hs_ v_ B), rf) hP ?_ dX4_shoreBehind_52
      first | exact ⟨(if_neg c_11).symm, rfl⟩ | (refine ⟨?_, rfx_0 c_11⟩; rw [if_pos c_11]; (try simp only [tn_n (show a_ < 2147483648 by omega), tn_n (show v_ < 2147483648 by omega)]); first | done | (first | (rw [if_pos c_32]; done) | (rw [if_neg c_32]; done) | (rw [if_pos c_32]; rfl) | (rw [if_neg c_32]; rfl)))
  · skip
    refine lv_aload_n hx hb dX4_shoreBehind_14 rfl (lv_at hl 1 rfl) ?_
    refine lv_iload hx hb dX4_shoreBehind_15 (lv_at hl 0 rfl) ?_
    refine kMiV hx hb hml hown hts hK hP hD hA hS gX4_shoreBehind_X4_refuse okX4_refuse (qX4_refuse l D cI cB g hi tc rf (wSNW_ (sn_ B) a v q) (rc0_n (by first | exact rc0_wS _ _ | exact rc0_wSN _ _ _ | exact rc0_wSNW _ _ _ _ | exact rc0_wNW _ _ | exact rc0_wTh _ _ _ _ _ | exact rc0_nb _ _ | exact rc0_uk _ _ | exact rc0_ob _ _ _ | exact rc0_f2 (rc0_nb _ _) (rc0_nb _ _) | exact rc0_f2 (rc0_nb _ _) (rc0_uk _ _) | exact rc0_f2 (rc0_ob _ _ _) (rc0_uk _ _) | exact rc0_f2 (rc0_uk _ _) (rc0_f2 (rc0_uk _ _) (rc0_ob _ _ _)) | exact rc0_f2 (rc0_f2 (rc0_nb _ _) (rc0_nb _ _)) (rc0_if (Or.inr (Or.inl rfl)) (rc0_uk _ _))) c_11)) [0, 14] rfl (by decide) (fun _ => rfl) rfl rfl rfl (by decide) hl.1 rfl rfl (Nat.le_of_ble_eq_true rfl) dX4_shoreBehind_17 (by decide) (fun r_6 u_7 H locs hw_8 hP hD hS => ?_)
    replace hw_8 : r_6 = wSNW_ (sn_ B) a v q ∧ u_7 = rfx_ rf (wSNW_ (sn_ B) a v q) := hw_8
    obtain ⟨hw_8a, hw_8b⟩ := hw_8
    subst r_6
    subst u_7
    replace hP : va_P D vwCl (xO g hi tc ++ miO g ++ bW cI g 4 B ++ bW cI g 10 T ++ rW cI g (rfx_ rf (wSNW_ (sn_ B) a v q))) H := (va_P.m [true, false, false, false, false, false, false, false, false, false, false, false, false, false, true] [] hP)
    replace hD : va_D A (xO g hi tc ++ miO g ++ bW cI g 4 B ++ bW cI g 10 T ++ rW cI g (rfx_ rf (wSNW_ (sn_ B) a v q))) := (va_D.m [true, false, false, false, false, false, false, false, false, false, false, false, false, false, true] [] hD)
    refine rMi hx hb hr hlk hS (T, (rfx_ rf (wSNW_ (sn_ B) a v q))) hP ?_ dX4_shoreBehind_20
    first | exact ⟨(if_neg c_11).symm, rfl⟩ | (refine ⟨?_, rfx_0 c_11⟩; rw [if_pos c_11]; (try simp only [tn_n (show a_ < 2147483648 by omega), tn_n (show v_ < 2147483648 by omega)]); first | done | (first | (rw [if_pos c_32]; done) | (rw [if_neg c_32]; done) | (rw [if_pos c_32]; rfl) | (rw [if_neg c_32]; rfl)))

theorem okX4_first : jok yX4_first wsX4_first cX4_first 3 (some .int) 1 := ⟨⟨_, rfl⟩, by decide +kernel, by decide +kernel⟩
set_option maxHeartbeats 1000000 in
set_option maxRecDepth 100000 in
theorem qX4_first (l : Launch) (D : va_G) (cI cB : ClassId) (g : Nat → Nat) (hi : Int32) (tc : Nat) (B : BayT) (T : BayT) (rf : Nat → Int32) (a : Int32) (hn7 : sn_ B ≤ 7) : jMi D cI cB l yX4_first wsX4_first 5 [.ref (g 0), .int a] (xO g hi tc ++ miO g ++ bW cI g 4 B ++ bW cI g 10 T ++ rW cI g rf) (S := BayT × (Nat → Int32)) (fun r u => r = (if wS_ (sn_ B) a = 0 then oI_ (fh_ B (tn_ a) 100 0) else wS_ (sn_ B) a) ∧ u.2 = rfx_ rf (wS_ (sn_ B) a)) (fun u => xO g hi tc ++ miO g ++ bW cI g 4 B ++ bW cI g 10 u.1 ++ rW cI g u.2) := by
  refine jMi.of (cc := cX4_first) (maxL := 3) (ret := (some .int)) okX4_first (Nat.le_of_ble_eq_true rfl) ?_
  intro p e s m below meth c ls A hx hb hr hts hown hlk hml hP hK hD hA hS hl
  replace hown : s.vm.findClass RX4 = some m.cls := hown
  replace hl : lv_has ls 3 [(0, .ref (g 0)), (1, .int a)] := hl
  have hinX0 : ∀ w ∈ wsX00, w ∈ wsX4_first := by decide +kernel
  have hinX4 : ∀ w ∈ wsX40, w ∈ wsX4_first := by decide +kernel
  refine lv_iload_n hx hb dX4_first_0 rfl (lv_at hl 1 rfl) ?_
  refine lv_aload_n hx hb dX4_first_1 rfl (lv_at hl 0 rfl) ?_
  refine va_get (ci := 4) (C := RX4) (T := TX4) (N := 9) hx hb hts hinX4 hown hK.1 hP 0 rfl rfl 1 (by decide) (hts _ (List.mem_of_getElem? (i := 1) rfl)) (fun _ h9 => h9) rfl dX4_first_2 ?_
  refine va_getN (ci := 0) (C := RX0) (T := TX0) (N := 11) hx hb hts hinX0 hown hK.1 hP 2 rfl rfl 6 (by decide) (va_Nw.use rfl (hK.2 _ (List.mem_of_getElem? (i := 13) rfl))) (fun _ h9 => h9) rfl dX4_first_5 ?_
  refine kSiS hx hb hml hown hts hK hP gX4_first_X4_nobody okX4_nobody (qX4_nobody l D cI cB a (nI (sn_ B)) ) [] rfl (by decide) hl.1 rfl rfl (Nat.le_of_ble_eq_true rfl) dX4_first_8 (by decide) (fun r_1 hr_2 => ?_)
  replace hr_2 : r_1 = nb_ a (nI (sn_ B)) := hr_2
  subst r_1
  refine lv_istore_n (lv' := [(2, .int (nb_ a (nI (sn_ B)))), (0, .ref (g 0)), (1, .int a)]) hx hb dX4_first_11 rfl hl (by decide) rfl (fun ls hl => ?_)
  refine lv_iload_n hx hb dX4_first_12 rfl (lv_at hl 0 rfl) ?_
  refine lv_if_eq (tgt := 24) hx hb dX4_first_13 (by decide) (fun c_13 => ?_) (fun c_13 => ?_)
  · skip
    have w0 := c_13
    simp only [wS_, wSN_, wSNW_, wNW_, wTh_, f2_0, nb_0, ob_0, uk_0, lo_0, hi_0] at w0
    obtain ⟨a_, ha_, rfl⟩ := pl_lt (n := sn_ B) (by omega) w0
    replace hl : lv_has ls 3 [(2, .int (nb_ (nI a_) (nI (sn_ B)))), (0, .ref (g 0)), (1, .int (nI a_))] := hl
    refine lv_aload_n hx hb dX4_first_24 rfl (lv_at hl 1 rfl) ?_
    refine va_get (ci := 4) (C := RX4) (T := TX4) (N := 9) hx hb hts hinX4 hown hK.1 hP 0 rfl rfl 0 (by decide) (hts _ (List.mem_of_getElem? (i := 2) rfl)) (fun _ h9 => h9) rfl dX4_first_25 ?_
    refine lv_iload_n hx hb dX4_first_28 rfl (lv_at hl 2 rfl) ?_
    refine kMiN hx hb hml hown hts hK hP hD hA hS gX4_first_X2_firstHours_n260 (hK.2 _ (List.mem_of_getElem? (i := 83) rfl)) (hts _ (List.mem_of_getElem? (i := 13) rfl)) (hts _ (List.mem_of_getElem? (i := 12) rfl)) (hts _ (List.mem_of_getElem? (i := 14) rfl)) okX2_firstHours (qX2_firstHours l D cI cB g B T a_ (by show sn_ B ≤ 7; omega) (by omega)) [1, 2, 3, 4, 5, 6, 7, 8, 9, 10, 11, 12, 13] rfl (by decide) (fun _ => rfl) rfl rfl rfl (by decide) hl.1 rfl rfl (Nat.le_of_ble_eq_true rfl) dX4_first_29 (by decide) (fun r_3 u_4 H locs hw_5 hP hD hS => ?_)
    replace hw_5 : r_3 = oI_ (fh_ B a_ 100 0) := hw_5
    subst r_3
    replace hP : va_P D vwCl (xO g hi tc ++ miO g ++ bW cI g 4 B ++ bW cI g 10 u_4 ++ rW cI g rf) H := (va_P.m [false, true, true, true, true, true, true, true, true, true, true, true, true, true] [] hP)
    replace hD : va_D A (xO g hi tc ++ miO g ++ bW cI g 4 B ++ bW cI g 10 u_4 ++ rW cI g rf) := (va_D.m [false, true, true, true, true, true, true, true, true, true, true, true, true, true] [] hD)
    refine rMi hx hb hr hlk hS (u_4, rf) hP ?_ dX4_first_32
    first | exact ⟨(if_neg c_13).symm, rfl⟩ | (refine ⟨?_, rfx_0 c_13⟩; rw [if_pos (show wS_ (sn_ B) (nI a_) = 0 from c_13)]; (try simp only [tn_n (show a_ < 2147483648 by omega)]); first | done | (rfl))
  · skip
    refine lv_aload_n hx hb dX4_first_16 rfl (lv_at hl 1 rfl) ?_
    refine lv_iload_n hx hb dX4_first_17 rfl (lv_at hl 0 rfl) ?_
    refine kMiV hx hb hml hown hts hK hP hD hA hS gX4_first_X4_refuse okX4_refuse (qX4_refuse l D cI cB g hi tc rf (nb_ a (nI (sn_ B))) (rc0_n (by first | exact rc0_wS _ _ | exact rc0_wSN _ _ _ | exact rc0_wSNW _ _ _ _ | exact rc0_wNW _ _ | exact rc0_wTh _ _ _ _ _ | exact rc0_nb _ _ | exact rc0_uk _ _ | exact rc0_ob _ _ _ | exact rc0_f2 (rc0_nb _ _) (rc0_nb _ _) | exact rc0_f2 (rc0_nb _ _) (rc0_uk _ _) | exact rc0_f2 (rc0_ob _ _ _) (rc0_uk _ _) | exact rc0_f2 (rc0_uk _ _) (rc0_f2 (rc0_uk _ _) (rc0_ob _ _ _)) | exact rc0_f2 (rc0_f2 (rc0_nb _ _) (rc0_nb _ _)) (rc0_if (Or.inr (Or.inl rfl)) (rc0_uk _ _))) c_13)) [0, 14] rfl (by decide) (fun _ => rfl) rfl rfl rfl (by decide) hl.1 rfl rfl (Nat.le_of_ble_eq_true rfl) dX4_first_18 (by decide) (fun r_6 u_7 H locs hw_8 hP hD hS => ?_)
    replace hw_8 : r_6 = nb_ a (nI (sn_ B)) ∧ u_7 = rfx_ rf (nb_ a (nI (sn_ B))) := hw_8
    obtain ⟨hw_8a, hw_8b⟩ := hw_8
    subst r_6
    subst u_7
    replace hP : va_P D vwCl (xO g hi tc ++ miO g ++ bW cI g 4 B ++ bW cI g 10 T ++ rW cI g (rfx_ rf (nb_ a (nI (sn_ B))))) H := (va_P.m [true, false, false, false, false, false, false, false, false, false, false, false, false, false, true] [] hP)
    replace hD : va_D A (xO g hi tc ++ miO g ++ bW cI g 4 B ++ bW cI g 10 T ++ rW cI g (rfx_ rf (nb_ a (nI (sn_ B))))) := (va_D.m [true, false, false, false, false, false, false, false, false, false, false, false, false, false, true] [] hD)
    refine lv_goto (tgt := 32) hx hb dX4_first_21 (by decide) ?_
    refine rMi hx hb hr hlk hS (T, (rfx_ rf (nb_ a (nI (sn_ B))))) hP ?_ dX4_first_32
    first | exact ⟨(if_neg c_13).symm, rfl⟩ | (refine ⟨?_, rfx_0 c_13⟩; rw [if_pos (show wS_ (sn_ B) (nI a_) = 0 from c_13)]; (try simp only [tn_n (show a_ < 2147483648 by omega)]); first | done | (rfl))

theorem okX4_whoFirst : jok yX4_whoFirst wsX4_whoFirst cX4_whoFirst 2 (some .int) 1 := ⟨⟨_, rfl⟩, by decide +kernel, by decide +kernel⟩
set_option maxHeartbeats 1000000 in
set_option maxRecDepth 100000 in
theorem qX4_whoFirst (l : Launch) (D : va_G) (cI cB : ClassId) (g : Nat → Nat) (hi : Int32) (tc : Nat) (B : BayT) (T : BayT) (rf : Nat → Int32) (q : Int32) (hn7 : sn_ B ≤ 7) : jMi D cI cB l yX4_whoFirst wsX4_whoFirst 6 [.ref (g 0), .int q] (xO g hi tc ++ miO g ++ bW cI g 4 B ++ bW cI g 10 T ++ rW cI g rf) (S := BayT × (Nat → Int32)) (fun r u => r = (if uk_ q 2 = 0 then wfX_ B q else uk_ q 2) ∧ u.2 = rfx_ rf (uk_ q 2)) (fun u => xO g hi tc ++ miO g ++ bW cI g 4 B ++ bW cI g 10 u.1 ++ rW cI g u.2) := by
  refine jMi.of (cc := cX4_whoFirst) (maxL := 2) (ret := (some .int)) okX4_whoFirst (Nat.le_of_ble_eq_true rfl) ?_
  intro p e s m below meth c ls A hx hb hr hts hown hlk hml hP hK hD hA hS hl
  replace hown : s.vm.findClass RX4 = some m.cls := hown
  replace hl : lv_has ls 2 [(0, .ref (g 0)), (1, .int q)] := hl
  have hinX4 : ∀ w ∈ wsX40, w ∈ wsX4_whoFirst := by decide +kernel
  refine lv_iload_n hx hb dX4_whoFirst_0 rfl (lv_at hl 1 rfl) ?_
  by_cases c_1_0 : q = 0
  · refine lv_tableIn (off := 27) (tgt := 28) hx hb dX4_whoFirst_1 (by rw [c_1_0]; decide) (by rw [c_1_0]; decide) (by rw [c_1_0]; rfl) (by decide) ?_
    refine lv_aload_n hx hb dX4_whoFirst_28 rfl (lv_at hl 0 rfl) ?_
    refine va_get (ci := 4) (C := RX4) (T := TX4) (N := 9) hx hb hts hinX4 hown hK.1 hP 0 rfl rfl 0 (by decide) (hts _ (List.mem_of_getElem? (i := 1) rfl)) (fun _ h9 => h9) rfl dX4_whoFirst_29 ?_
    refine kMiN hx hb hml hown hts hK hP hD hA hS gX4_whoFirst_X2_firstOwner_n263 (hK.2 _ (List.mem_of_getElem? (i := 86) rfl)) (hts _ (List.mem_of_getElem? (i := 3) rfl)) (hts _ (List.mem_of_getElem? (i := 2) rfl)) (hts _ (List.mem_of_getElem? (i := 4) rfl)) okX2_firstOwner (qX2_firstOwner l D cI cB g B T (by show sn_ B ≤ 7; omega)) [1, 2, 3, 4, 5, 6, 7, 8, 9, 10, 11, 12, 13] rfl (by decide) (fun _ => rfl) rfl rfl rfl (by decide) hl.1 rfl rfl (Nat.le_of_ble_eq_true rfl) dX4_whoFirst_32 (by decide) (fun r_1 u_2 H locs hw_3 hP hD hS => ?_)
    replace hw_3 : r_1 = oI_ (fo_ B 100 0) := hw_3
    subst r_1
    replace hP : va_P D vwCl (xO g hi tc ++ miO g ++ bW cI g 4 B ++ bW cI g 10 u_2 ++ rW cI g rf) H := (va_P.m [false, true, true, true, true, true, true, true, true, true, true, true, true, true] [] hP)
    replace hD : va_D A (xO g hi tc ++ miO g ++ bW cI g 4 B ++ bW cI g 10 u_2 ++ rW cI g rf) := (va_D.m [false, true, true, true, true, true, true, true, true, true, true, true, true, true] [] hD)
    refine rMi hx hb hr hlk hS (u_2, rf) hP ?_ dX4_whoFirst_35
    first | (rw [c_1_0]; exact ⟨rfl, rfl⟩) | (rw [c_1_1]; exact ⟨rfl, rfl⟩) | (rw [c_1_2]; exact ⟨rfl, rfl⟩) | (rw [uk_3 c_1_0 c_1_1 c_1_2]; exact ⟨rfl, rfl⟩)
  by_cases c_1_1 : q = 1
  · refine lv_tableIn (off := 35) (tgt := 36) hx hb dX4_whoFirst_1 (by rw [c_1_1]; decide) (by rw [c_1_1]; decide) (by rw [c_1_1]; rfl) (by decide) ?_
    refine lv_aload_n hx hb dX4_whoFirst_36 rfl (lv_at hl 0 rfl) ?_
    refine va_get (ci := 4) (C := RX4) (T := TX4) (N := 9) hx hb hts hinX4 hown hK.1 hP 0 rfl rfl 0 (by decide) (hts _ (List.mem_of_getElem? (i := 1) rfl)) (fun _ h9 => h9) rfl dX4_whoFirst_37 ?_
    refine kMiN hx hb hml hown hts hK hP hD hA hS gX4_whoFirst_X2_neverBits_n266 (hK.2 _ (List.mem_of_getElem? (i := 88) rfl)) (hts _ (List.mem_of_getElem? (i := 3) rfl)) (hts _ (List.mem_of_getElem? (i := 92) rfl)) (hts _ (List.mem_of_getElem? (i := 93) rfl)) okX2_neverBits (qX2_neverBits l D cI cB g B T (by show sn_ B ≤ 7; omega)) [1, 2, 3, 4, 5, 6, 7, 8, 9, 10, 11, 12, 13] rfl (by decide) (fun _ => rfl) rfl rfl rfl (by decide) hl.1 rfl rfl (Nat.le_of_ble_eq_true rfl) dX4_whoFirst_40 (by decide) (fun r_4 u_5 H locs hw_6 hP hD hS => ?_)
    replace hw_6 : r_4 = bi_ (fun j => oI_ (fh_ B j 100 0)) (-9) (sn_ B) := hw_6
    subst r_4
    replace hP : va_P D vwCl (xO g hi tc ++ miO g ++ bW cI g 4 B ++ bW cI g 10 u_5 ++ rW cI g rf) H := (va_P.m [false, true, true, true, true, true, true, true, true, true, true, true, true, true] [] hP)
    replace hD : va_D A (xO g hi tc ++ miO g ++ bW cI g 4 B ++ bW cI g 10 u_5 ++ rW cI g rf) := (va_D.m [false, true, true, true, true, true, true, true, true, true, true, true, true, true] [] hD)
    refine rMi hx hb hr hlk hS (u_5, rf) hP ?_ dX4_whoFirst_43
    first | (rw [c_1_0]; exact ⟨rfl, rfl⟩) | (rw [c_1_1]; exact ⟨rfl, rfl⟩) | (rw [c_1_2]; exact ⟨rfl, rfl⟩) | (rw [uk_3 c_1_0 c_1_1 c_1_2]; exact ⟨rfl, rfl⟩)
  by_cases c_1_2 : q = 2
  · refine lv_tableIn (off := 43) (tgt := 44) hx hb dX4_whoFirst_1 (by rw [c_1_2]; decide) (by rw [c_1_2]; decide) (by rw [c_1_2]; rfl) (by decide) ?_
    refine lv_aload_n hx hb dX4_whoFirst_44 rfl (lv_at hl 0 rfl) ?_
    refine va_get (ci := 4) (C := RX4) (T := TX4) (N := 9) hx hb hts hinX4 hown hK.1 hP 0 rfl rfl 0 (by decide) (hts _ (List.mem_of_getElem? (i := 1) rfl)) (fun _ h9 => h9) rfl dX4_whoFirst_45 ?_
    refine kMiN hx hb hml hown hts hK hP hD hA hS gX4_whoFirst_X2_stillBehind_n269 (hK.2 _ (List.mem_of_getElem? (i := 89) rfl)) (hts _ (List.mem_of_getElem? (i := 3) rfl)) (hts _ (List.mem_of_getElem? (i := 99) rfl)) (hts _ (List.mem_of_getElem? (i := 100) rfl)) okX2_stillBehind (qX2_stillBehind l D cI cB g B T (by show sn_ B ≤ 7; omega)) [1, 2, 3, 4, 5, 6, 7, 8, 9, 10, 11, 12, 13] rfl (by decide) (fun _ => rfl) rfl rfl rfl (by decide) hl.1 rfl rfl (Nat.le_of_ble_eq_true rfl) dX4_whoFirst_48 (by decide) (fun r_7 u_8 H locs hw_9 hP hD hS => ?_)
    replace hw_9 : r_7 = oI_ (st_ B 100 0) := hw_9
    subst r_7
    replace hP : va_P D vwCl (xO g hi tc ++ miO g ++ bW cI g 4 B ++ bW cI g 10 u_8 ++ rW cI g rf) H := (va_P.m [false, true, true, true, true, true, true, true, true, true, true, true, true, true] [] hP)
    replace hD : va_D A (xO g hi tc ++ miO g ++ bW cI g 4 B ++ bW cI g 10 u_8 ++ rW cI g rf) := (va_D.m [false, true, true, true, true, true, true, true, true, true, true, true, true, true] [] hD)
    refine rMi hx hb hr hlk hS (u_8, rf) hP ?_ dX4_whoFirst_51
    first | (rw [c_1_0]; exact ⟨rfl, rfl⟩) | (rw [c_1_1]; exact ⟨rfl, rfl⟩) | (rw [c_1_2]; exact ⟨rfl, rfl⟩) | (rw [uk_3 c_1_0 c_1_1 c_1_2]; exact ⟨rfl, rfl⟩)
  refine lv_tableOut (tgt := 52) hx hb dX4_whoFirst_1 (by have t0 := lv_neT c_1_0 (a := 0) (by decide); have t1 := lv_neT c_1_1 (a := 1) (by decide); have t2 := lv_neT c_1_2 (a := 2) (by decide); omega) (by decide) ?_
  refine lv_aload_n hx hb dX4_whoFirst_52 rfl (lv_at hl 0 rfl) ?_
  refine lv_bipush (v := (-2)) hx hb dX4_whoFirst_53 (by decide) ?_
  refine kMiV hx hb hml hown hts hK hP hD hA hS gX4_whoFirst_X4_refuse okX4_refuse (qX4_refuse l D cI cB g hi tc rf (-2) (Or.inr (Or.inl rfl))) [0, 14] rfl (by decide) (fun _ => rfl) rfl rfl rfl (by decide) hl.1 rfl rfl (Nat.le_of_ble_eq_true rfl) dX4_whoFirst_55 (by decide) (fun r_10 u_11 H locs hw_12 hP hD hS => ?_)
  replace hw_12 : r_10 = (-2) ∧ u_11 = rfx_ rf (-2) := hw_12
  obtain ⟨hw_12a, hw_12b⟩ := hw_12
  subst r_10
  subst u_11
  replace hP : va_P D vwCl (xO g hi tc ++ miO g ++ bW cI g 4 B ++ bW cI g 10 T ++ rW cI g (rfx_ rf (-2))) H := (va_P.m [true, false, false, false, false, false, false, false, false, false, false, false, false, false, true] [] hP)
  replace hD : va_D A (xO g hi tc ++ miO g ++ bW cI g 4 B ++ bW cI g 10 T ++ rW cI g (rfx_ rf (-2))) := (va_D.m [true, false, false, false, false, false, false, false, false, false, false, false, false, false, true] [] hD)
  refine rMi hx hb hr hlk hS (T, (rfx_ rf (-2))) hP ?_ dX4_whoFirst_58
  first | (rw [c_1_0]; exact ⟨rfl, rfl⟩) | (rw [c_1_1]; exact ⟨rfl, rfl⟩) | (rw [c_1_2]; exact ⟨rfl, rfl⟩) | (rw [uk_3 c_1_0 c_1_1 c_1_2]; exact ⟨rfl, rfl⟩)

theorem okX4_most : jok yX4_most wsX4_most cX4_most 5 (some .int) 2 := ⟨⟨_, rfl⟩, by decide +kernel, by decide +kernel⟩
set_option maxHeartbeats 1000000 in
set_option maxRecDepth 100000 in
theorem qX4_most (l : Launch) (D : va_G) (cI cB : ClassId) (g : Nat → Nat) (hi : Int32) (tc : Nat) (B : BayT) (T : BayT) (rf : Nat → Int32) (v : Int32) (q : Int32) (hn7 : sn_ B ≤ 7) : jMi D cI cB l yX4_most wsX4_most 7 [.ref (g 0), .int v, .int q] (xO g hi tc ++ miO g ++ bW cI g 4 B ++ bW cI g 10 T ++ rW cI g rf) (S := BayT × (Nat → Int32)) (fun r u => r = (if wNW_ v q = 0 then moX_ B (tn_ v) q else wNW_ v q) ∧ u.2 = rfx_ rf (wNW_ v q)) (fun u => xO g hi tc ++ miO g ++ bW cI g 4 B ++ bW cI g 10 u.1 ++ rW cI g u.2) := by
  refine jMi.of (cc := cX4_most) (maxL := 5) (ret := (some .int)) okX4_most (Nat.le_of_ble_eq_true rfl) ?_
  intro p e s m below meth c ls A hx hb hr hts hown hlk hml hP hK hD hA hS hl
  replace hown : s.vm.findClass RX4 = some m.cls := hown
  replace hl : lv_has ls 5 [(0, .ref (g 0)), (1, .int v), (2, .int q)] := hl
  have hinX4 : ∀ w ∈ wsX40, w ∈ wsX4_most := by decide +kernel
  refine lv_iload_n hx hb dX4_most_0 rfl (lv_at hl 1 rfl) ?_
  refine lv_iload_n hx hb dX4_most_1 rfl (lv_at hl 2 rfl) ?_
  refine kSiS hx hb hml hown hts hK hP gX4_most_X4_refusalInMind okX4_refusalInMind (qX4_refusalInMind l D cI cB v q ) [] rfl (by decide) hl.1 rfl rfl (Nat.le_of_ble_eq_true rfl) dX4_most_2 (by decide) (fun r_1 hr_2 => ?_)
  replace hr_2 : r_1 = wNW_ v q := hr_2
  subst r_1
  refine lv_istore_n (lv' := [(3, .int (wNW_ v q)), (0, .ref (g 0)), (1, .int v), (2, .int q)]) hx hb dX4_most_5 rfl hl (by decide) rfl (fun ls hl => ?_)
  refine lv_iload_n hx hb dX4_most_6 rfl (lv_at hl 0 rfl) ?_
  refine lv_if_eq (tgt := 16) hx hb dX4_most_7 (by decide) (fun c_7 => ?_) (fun c_7 => ?_)
  · skip
    have w0 := c_7
    simp only [wS_, wSN_, wSNW_, wNW_, wTh_, f2_0, nb_0, ob_0, uk_0, lo_0, hi_0] at w0
    obtain ⟨v_, hv_, rfl⟩ := pl_le (n := 99) (by decide) w0.1
    replace hl : lv_has ls 5 [(3, .int (wNW_ (nI v_) q)), (0, .ref (g 0)), (1, .int (nI v_)), (2, .int q)] := hl
    refine lv_aload_n hx hb dX4_most_16 rfl (lv_at hl 1 rfl) ?_
    refine va_get (ci := 4) (C := RX4) (T := TX4) (N := 9) hx hb hts hinX4 hown hK.1 hP 0 rfl rfl 0 (by decide) (hts _ (List.mem_of_getElem? (i := 1) rfl)) (fun _ h9 => h9) rfl dX4_most_17 ?_
    refine lv_iload_n hx hb dX4_most_20 rfl (lv_at hl 2 rfl) ?_
    refine kMiN hx hb hml hown hts hK hP hD hA hS gX4_most_X2_oftenestOwner_n272 (hK.2 _ (List.mem_of_getElem? (i := 90) rfl)) (hts _ (List.mem_of_getElem? (i := 24) rfl)) (hts _ (List.mem_of_getElem? (i := 23) rfl)) (hts _ (List.mem_of_getElem? (i := 25) rfl)) okX2_oftenestOwner (qX2_oftenestOwner l D cI cB g B T v_ (by show sn_ B ≤ 7; omega) (by omega)) [1, 2, 3, 4, 5, 6, 7, 8, 9, 10, 11, 12, 13] rfl (by decide) (fun _ => rfl) rfl rfl rfl (by decide) hl.1 rfl rfl (Nat.le_of_ble_eq_true rfl) dX4_most_21 (by decide) (fun r_3 u_4 H locs hw_5 hP hD hS => ?_)
    replace hw_5 : r_3 = oI_ (bs_ (fun j => tc_ B j v_) 0 (sn_ B)).1 := hw_5
    subst r_3
    replace hP : va_P D vwCl (xO g hi tc ++ miO g ++ bW cI g 4 B ++ bW cI g 10 u_4 ++ rW cI g rf) H := (va_P.m [false, true, true, true, true, true, true, true, true, true, true, true, true, true] [] hP)
    replace hD : va_D A (xO g hi tc ++ miO g ++ bW cI g 4 B ++ bW cI g 10 u_4 ++ rW cI g rf) := (va_D.m [false, true, true, true, true, true, true, true, true, true, true, true, true, true] [] hD)
    refine lv_istore (lv' := [(4, .int (oI_ (bs_ (fun j => tc_ B j v_) 0 (sn_ B)).1)), (3, .int (wNW_ (nI v_) q)), (0, .ref (g 0)), (1, .int (nI v_)), (2, .int q)]) hx hb dX4_most_24 hl (by decide) rfl (fun ls hl => ?_)
    rcases hL : (bs_ (fun j => tc_ B j v_) 0 (sn_ B)).1 with _ | t
    · rw [hL] at hl
      replace hl : lv_has ls 5 [(4, .int (-9)), (3, .int (wNW_ (nI v_) q)), (0, .ref (g 0)), (1, .int (nI v_)), (2, .int q)] := hl
      refine lv_iload_n hx hb dX4_most_26 rfl (lv_at hl 4 rfl) ?_
      refine lv_if_ne (tgt := 33) hx hb dX4_most_27 (by decide) (fun c_27 => ?_) (fun c_27 => ?_)
      · skip
        refine lv_iload hx hb dX4_most_33 (lv_at hl 0 rfl) ?_
        refine lv_bipush (v := (-9)) hx hb dX4_most_35 (by decide) ?_
        refine lv_icmp_ne (tgt := 44) hx hb dX4_most_37 (by decide) (fun q => absurd q (by decide)) (fun _ => ?_)
        refine lv_iconst (v := 0) hx hb dX4_most_40 (by decide) ?_
        refine lv_goto (tgt := 54) hx hb dX4_most_41 (by decide) ?_
        refine rMi hx hb hr hlk hS (u_4, rf) hP ?_ dX4_most_54
        first | exact ⟨(if_neg c_7).symm, rfl⟩ | (refine ⟨?_, rfx_0 c_7⟩; rw [if_pos c_7]; (try simp only [tn_n (show v_ < 2147483648 by omega)]); first | done | (unfold moX_; first | (rw [if_pos c_27, hL]; rfl) | (rw [if_neg c_27, hL]; done) | (rw [if_neg c_27, hL]; rfl)))
      · skip
        refine lv_iload hx hb dX4_most_30 (lv_at hl 0 rfl) ?_
        refine rMi hx hb hr hlk hS (u_4, rf) hP ?_ dX4_most_32
        first | exact ⟨(if_neg c_7).symm, rfl⟩ | (refine ⟨?_, rfx_0 c_7⟩; rw [if_pos c_7]; (try simp only [tn_n (show v_ < 2147483648 by omega)]); first | done | (unfold moX_; first | (rw [if_pos c_27, hL]; rfl) | (rw [if_neg c_27, hL]; done) | (rw [if_neg c_27, hL]; rfl)))
    · rw [hL] at hl
      replace hl : lv_has ls 5 [(4, .int (nI t)), (3, .int (wNW_ (nI v_) q)), (0, .ref (g 0)), (1, .int (nI v_)), (2, .int q)] := hl
      have ht := bs_lt _ _ hL
      refine lv_iload_n hx hb dX4_most_26 rfl (lv_at hl 4 rfl) ?_
      refine lv_if_ne (tgt := 33) hx hb dX4_most_27 (by decide) (fun c_27 => ?_) (fun c_27 => ?_)
      · skip
        refine lv_iload hx hb dX4_most_33 (lv_at hl 0 rfl) ?_
        refine lv_bipush (v := (-9)) hx hb dX4_most_35 (by decide) ?_
        refine lv_icmp_ne (tgt := 44) hx hb dX4_most_37 (by decide) (fun _ => ?_) (fun q => absurd q (nI_m9 (by omega)))
        refine lv_aload_n hx hb dX4_most_44 rfl (lv_at hl 2 rfl) ?_
        refine va_get (ci := 4) (C := RX4) (T := TX4) (N := 9) hx hb hts hinX4 hown hK.1 hP 0 rfl rfl 0 (by decide) (hts _ (List.mem_of_getElem? (i := 1) rfl)) (fun _ h9 => h9) rfl dX4_most_45 ?_
        refine lv_iload hx hb dX4_most_48 (lv_at hl 0 rfl) ?_
        refine lv_iload_n hx hb dX4_most_50 rfl (lv_at hl 3 rfl) ?_
        refine kMiN hx hb hml hown hts hK hP hD hA hS gX4_most_X2_timesHad_n275 (hK.2 _ (List.mem_of_getElem? (i := 91) rfl)) (hts _ (List.mem_of_getElem? (i := 24) rfl)) (hts _ (List.mem_of_getElem? (i := 29) rfl)) (hts _ (List.mem_of_getElem? (i := 30) rfl)) okX2_timesHad (qX2_timesHad l D cI cB g B u_4 t v_ (by show sn_ B ≤ 7; omega) (by omega) (by omega)) [1, 2, 3, 4, 5, 6, 7, 8, 9, 10, 11, 12, 13] rfl (by decide) (fun _ => rfl) rfl rfl rfl (by decide) hl.1 rfl rfl (Nat.le_of_ble_eq_true rfl) dX4_most_51 (by decide) (fun r_6 u_7 H locs hw_8 hP hD hS => ?_)
        replace hw_8 : r_6 = tc_ B t v_ := hw_8
        subst r_6
        replace hP : va_P D vwCl (xO g hi tc ++ miO g ++ bW cI g 4 B ++ bW cI g 10 u_7 ++ rW cI g rf) H := (va_P.m [false, true, true, true, true, true, true, true, true, true, true, true, true, true] [] hP)
        replace hD : va_D A (xO g hi tc ++ miO g ++ bW cI g 4 B ++ bW cI g 10 u_7 ++ rW cI g rf) := (va_D.m [false, true, true, true, true, true, true, true, true, true, true, true, true, true] [] hD)
        refine rMi hx hb hr hlk hS (u_7, rf) hP ?_ dX4_most_54
        first | exact ⟨(if_neg c_7).symm, rfl⟩ | (refine ⟨?_, rfx_0 c_7⟩; rw [if_pos c_7]; (try simp only [tn_n (show v_ < 2147483648 by omega)]); first | done | (unfold moX_; first | (rw [if_pos c_27, hL]; rfl) | (rw [if_neg c_27, hL]; done) | (rw [if_neg c_27, hL]; rfl)))
      · skip
        refine lv_iload hx hb dX4_most_30 (lv_at hl 0 rfl) ?_
        refine rMi hx hb hr hlk hS (u_4, rf) hP ?_ dX4_most_32
        first | exact ⟨(if_neg c_7).symm, rfl⟩ | (refine ⟨?_, rfx_0 c_7⟩; rw [if_pos c_7]; (try simp only [tn_n (show v_ < 2147483648 by omega)]); first | done | (unfold moX_; first | (rw [if_pos c_27, hL]; rfl) | (rw [if_neg c_27, hL]; done) | (rw [if_neg c_27, hL]; rfl)))
  · skip
    refine lv_aload_n hx hb dX4_most_10 rfl (lv_at hl 1 rfl) ?_
    refine lv_iload_n hx hb dX4_most_11 rfl (lv_at hl 0 rfl) ?_
    refine kMiV hx hb hml hown hts hK hP hD hA hS gX4_most_X4_refuse okX4_refuse (qX4_refuse l D cI cB g hi tc rf (wNW_ v q) (rc0_n (by first | exact rc0_wS _ _ | exact rc0_wSN _ _ _ | exact rc0_wSNW _ _ _ _ | exact rc0_wNW _ _ | exact rc0_wTh _ _ _ _ _ | exact rc0_nb _ _ | exact rc0_uk _ _ | exact rc0_ob _ _ _ | exact rc0_f2 (rc0_nb _ _) (rc0_nb _ _) | exact rc0_f2 (rc0_nb _ _) (rc0_uk _ _) | exact rc0_f2 (rc0_ob _ _ _) (rc0_uk _ _) | exact rc0_f2 (rc0_uk _ _) (rc0_f2 (rc0_uk _ _) (rc0_ob _ _ _)) | exact rc0_f2 (rc0_f2 (rc0_nb _ _) (rc0_nb _ _)) (rc0_if (Or.inr (Or.inl rfl)) (rc0_uk _ _))) c_7)) [0, 14] rfl (by decide) (fun _ => rfl) rfl rfl rfl (by decide) hl.1 rfl rfl (Nat.le_of_ble_eq_true rfl) dX4_most_12 (by decide) (fun r_9 u_10 H locs hw_11 hP hD hS => ?_)
    replace hw_11 : r_9 = wNW_ v q ∧ u_10 = rfx_ rf (wNW_ v q) := hw_11
    obtain ⟨hw_11a, hw_11b⟩ := hw_11
    subst r_9
    subst u_10
    replace hP : va_P D vwCl (xO g hi tc ++ miO g ++ bW cI g 4 B ++ bW cI g 10 T ++ rW cI g (rfx_ rf (wNW_ v q))) H := (va_P.m [true, false, false, false, false, false, false, false, false, false, false, false, false, false, true] [] hP)
    replace hD : va_D A (xO g hi tc ++ miO g ++ bW cI g 4 B ++ bW cI g 10 T ++ rW cI g (rfx_ rf (wNW_ v q))) := (va_D.m [true, false, false, false, false, false, false, false, false, false, false, false, false, false, true] [] hD)
    refine rMi hx hb hr hlk hS (T, (rfx_ rf (wNW_ v q))) hP ?_ dX4_most_15
    first | exact ⟨(if_neg c_7).symm, rfl⟩ | (refine ⟨?_, rfx_0 c_7⟩; rw [if_pos c_7]; (try simp only [tn_n (show v_ < 2147483648 by omega)]); first | done | (unfold moX_; first | (rw [if_pos c_27, hL]; rfl) | (rw [if_neg c_27, hL]; done) | (rw [if_neg c_27, hL]; rfl)))

theorem okX4_farthest : jok yX4_farthest wsX4_farthest cX4_farthest 4 (some .int) 2 := ⟨⟨_, rfl⟩, by decide +kernel, by decide +kernel⟩
set_option maxHeartbeats 1000000 in
set_option maxRecDepth 100000 in
theorem qX4_farthest (l : Launch) (D : va_G) (cI cB : ClassId) (g : Nat → Nat) (hi : Int32) (tc : Nat) (B : BayT) (T : BayT) (rf : Nat → Int32) (v : Int32) (q : Int32) (hn7 : sn_ B ≤ 7) : jMi D cI cB l yX4_farthest wsX4_farthest 5 [.ref (g 0), .int v, .int q] (xO g hi tc ++ miO g ++ bW cI g 4 B ++ bW cI g 10 T ++ rW cI g rf) (S := BayT × (Nat → Int32)) (fun r u => r = (if wNW_ v q = 0 then (if q = 0 then lp_ B (tn_ v) else gp_ B (tn_ v)) else wNW_ v q) ∧ u.2 = rfx_ rf (wNW_ v q)) (fun u => xO g hi tc ++ miO g ++ bW cI g 4 B ++ bW cI g 10 u.1 ++ rW cI g u.2) := by
  refine jMi.of (cc := cX4_farthest) (maxL := 4) (ret := (some .int)) okX4_farthest (Nat.le_of_ble_eq_true rfl) ?_
  intro p e s m below meth c ls A hx hb hr hts hown hlk hml hP hK hD hA hS hl
  replace hown : s.vm.findClass RX4 = some m.cls := hown
  replace hl : lv_has ls 4 [(0, .ref (g 0)), (1, .int v), (2, .int q)] := hl
  have hinX4 : ∀ w ∈ wsX40, w ∈ wsX4_farthest := by decide +kernel
  refine lv_iload_n hx hb dX4_farthest_0 rfl (lv_at hl 1 rfl) ?_
  refine lv_iload_n hx hb dX4_farthest_1 rfl (lv_at hl 2 rfl) ?_
  refine kSiS hx hb hml hown hts hK hP gX4_farthest_X4_refusalInMind okX4_refusalInMind (qX4_refusalInMind l D cI cB v q ) [] rfl (by decide) hl.1 rfl rfl (Nat.le_of_ble_eq_true rfl) dX4_farthest_2 (by decide) (fun r_1 hr_2 => ?_)
  replace hr_2 : r_1 = wNW_ v q := hr_2
  subst r_1
  refine lv_istore_n (lv' := [(3, .int (wNW_ v q)), (0, .ref (g 0)), (1, .int v), (2, .int q)]) hx hb dX4_farthest_5 rfl hl (by decide) rfl (fun ls hl => ?_)
  refine lv_iload_n hx hb dX4_farthest_6 rfl (lv_at hl 0 rfl) ?_
  refine lv_if_eq (tgt := 16) hx hb dX4_farthest_7 (by decide) (fun c_7 => ?_) (fun c_7 => ?_)
  · skip
    have w0 := c_7
    simp only [wS_, wSN_, wSNW_, wNW_, wTh_, f2_0, nb_0, ob_0, uk_0, lo_0, hi_0] at w0
    obtain ⟨v_, hv_, rfl⟩ := pl_le (n := 99) (by decide) w0.1
    replace hl : lv_has ls 4 [(3, .int (wNW_ (nI v_) q)), (0, .ref (g 0)), (1, .int (nI v_)), (2, .int q)] := hl
    refine lv_iload_n hx hb dX4_farthest_16 rfl (lv_at hl 3 rfl) ?_
    refine lv_if_ne (tgt := 31) hx hb dX4_farthest_17 (by decide) (fun c_17 => ?_) (fun c_17 => ?_)
    · skip
      refine lv_aload_n hx hb dX4_farthest_31 rfl (lv_at hl 1 rfl) ?_
      refine va_get (ci := 4) (C := RX4) (T := TX4) (N := 9) hx hb hts hinX4 hown hK.1 hP 0 rfl rfl 0 (by decide) (hts _ (List.mem_of_getElem? (i := 1) rfl)) (fun _ h9 => h9) rfl dX4_farthest_32 ?_
      refine lv_iload_n hx hb dX4_farthest_35 rfl (lv_at hl 2 rfl) ?_
      refine kMiN hx hb hml hown hts hK hP hD hA hS gX4_farthest_X2_greatestPlace_n281 (hK.2 _ (List.mem_of_getElem? (i := 93) rfl)) (hts _ (List.mem_of_getElem? (i := 24) rfl)) (hts _ (List.mem_of_getElem? (i := 114) rfl)) (hts _ (List.mem_of_getElem? (i := 115) rfl)) okX2_greatestPlace (qX2_greatestPlace l D cI cB g B T v_ (by show sn_ B ≤ 7; omega) (by omega)) [1, 2, 3, 4, 5, 6, 7, 8, 9, 10, 11, 12, 13] rfl (by decide) (fun _ => rfl) rfl rfl rfl (by decide) hl.1 rfl rfl (Nat.le_of_ble_eq_true rfl) dX4_farthest_36 (by decide) (fun r_3 u_4 H locs hw_5 hP hD hS => ?_)
      replace hw_5 : r_3 = gp_ B v_ := hw_5
      subst r_3
      replace hP : va_P D vwCl (xO g hi tc ++ miO g ++ bW cI g 4 B ++ bW cI g 10 u_4 ++ rW cI g rf) H := (va_P.m [false, true, true, true, true, true, true, true, true, true, true, true, true, true] [] hP)
      replace hD : va_D A (xO g hi tc ++ miO g ++ bW cI g 4 B ++ bW cI g 10 u_4 ++ rW cI g rf) := (va_D.m [false, true, true, true, true, true, true, true, true, true, true, true, true, true] [] hD)
      refine rMi hx hb hr hlk hS (u_4, rf) hP ?_ dX4_farthest_39
      first | exact ⟨(if_neg c_7).symm, rfl⟩ | (refine ⟨?_, rfx_0 c_7⟩; rw [if_pos c_7]; (try simp only [tn_n (show v_ < 2147483648 by omega)]); first | done | (first | (rw [if_pos c_17]; done) | (rw [if_neg c_17]; done) | (rw [if_pos c_17]; rfl) | (rw [if_neg c_17]; rfl)))
    · skip
      refine lv_aload_n hx hb dX4_farthest_20 rfl (lv_at hl 1 rfl) ?_
      refine va_get (ci := 4) (C := RX4) (T := TX4) (N := 9) hx hb hts hinX4 hown hK.1 hP 0 rfl rfl 0 (by decide) (hts _ (List.mem_of_getElem? (i := 1) rfl)) (fun _ h9 => h9) rfl dX4_farthest_21 ?_
      refine lv_iload_n hx hb dX4_farthest_24 rfl (lv_at hl 2 rfl) ?_
      refine kMiN hx hb hml hown hts hK hP hD hA hS gX4_farthest_X2_leastPlace_n278 (hK.2 _ (List.mem_of_getElem? (i := 92) rfl)) (hts _ (List.mem_of_getElem? (i := 24) rfl)) (hts _ (List.mem_of_getElem? (i := 23) rfl)) (hts _ (List.mem_of_getElem? (i := 25) rfl)) okX2_leastPlace (qX2_leastPlace l D cI cB g B T v_ (by show sn_ B ≤ 7; omega) (by omega)) [1, 2, 3, 4, 5, 6, 7, 8, 9, 10, 11, 12, 13] rfl (by decide) (fun _ => rfl) rfl rfl rfl (by decide) hl.1 rfl rfl (Nat.le_of_ble_eq_true rfl) dX4_farthest_25 (by decide) (fun r_6 u_7 H locs hw_8 hP hD hS => ?_)
      replace hw_8 : r_6 = lp_ B v_ := hw_8
      subst r_6
      replace hP : va_P D vwCl (xO g hi tc ++ miO g ++ bW cI g 4 B ++ bW cI g 10 u_7 ++ rW cI g rf) H := (va_P.m [false, true, true, true, true, true, true, true, true, true, true, true, true, true] [] hP)
      replace hD : va_D A (xO g hi tc ++ miO g ++ bW cI g 4 B ++ bW cI g 10 u_7 ++ rW cI g rf) := (va_D.m [false, true, true, true, true, true, true, true, true, true, true, true, true, true] [] hD)
      refine lv_goto (tgt := 39) hx hb dX4_farthest_28 (by decide) ?_
      refine rMi hx hb hr hlk hS (u_7, rf) hP ?_ dX4_farthest_39
      first | exact ⟨(if_neg c_7).symm, rfl⟩ | (refine ⟨?_, rfx_0 c_7⟩; rw [if_pos c_7]; (try simp only [tn_n (show v_ < 2147483648 by omega)]); first | done | (first | (rw [if_pos c_17]; done) | (rw [if_neg c_17]; done) | (rw [if_pos c_17]; rfl) | (rw [if_neg c_17]; rfl)))
  · skip
    refine lv_aload_n hx hb dX4_farthest_10 rfl (lv_at hl 1 rfl) ?_
    refine lv_iload_n hx hb dX4_farthest_11 rfl (lv_at hl 0 rfl) ?_
    refine kMiV hx hb hml hown hts hK hP hD hA hS gX4_farthest_X4_refuse okX4_refuse (qX4_refuse l D cI cB g hi tc rf (wNW_ v q) (rc0_n (by first | exact rc0_wS _ _ | exact rc0_wSN _ _ _ | exact rc0_wSNW _ _ _ _ | exact rc0_wNW _ _ | exact rc0_wTh _ _ _ _ _ | exact rc0_nb _ _ | exact rc0_uk _ _ | exact rc0_ob _ _ _ | exact rc0_f2 (rc0_nb _ _) (rc0_nb _ _) | exact rc0_f2 (rc0_nb _ _) (rc0_uk _ _) | exact rc0_f2 (rc0_ob _ _ _) (rc0_uk _ _) | exact rc0_f2 (rc0_uk _ _) (rc0_f2 (rc0_uk _ _) (rc0_ob _ _ _)) | exact rc0_f2 (rc0_f2 (rc0_nb _ _) (rc0_nb _ _)) (rc0_if (Or.inr (Or.inl rfl)) (rc0_uk _ _))) c_7)) [0, 14] rfl (by decide) (fun _ => rfl) rfl rfl rfl (by decide) hl.1 rfl rfl (Nat.le_of_ble_eq_true rfl) dX4_farthest_12 (by decide) (fun r_9 u_10 H locs hw_11 hP hD hS => ?_)
    replace hw_11 : r_9 = wNW_ v q ∧ u_10 = rfx_ rf (wNW_ v q) := hw_11
    obtain ⟨hw_11a, hw_11b⟩ := hw_11
    subst r_9
    subst u_10
    replace hP : va_P D vwCl (xO g hi tc ++ miO g ++ bW cI g 4 B ++ bW cI g 10 T ++ rW cI g (rfx_ rf (wNW_ v q))) H := (va_P.m [true, false, false, false, false, false, false, false, false, false, false, false, false, false, true] [] hP)
    replace hD : va_D A (xO g hi tc ++ miO g ++ bW cI g 4 B ++ bW cI g 10 T ++ rW cI g (rfx_ rf (wNW_ v q))) := (va_D.m [true, false, false, false, false, false, false, false, false, false, false, false, false, false, true] [] hD)
    refine rMi hx hb hr hlk hS (T, (rfx_ rf (wNW_ v q))) hP ?_ dX4_farthest_15
    first | exact ⟨(if_neg c_7).symm, rfl⟩ | (refine ⟨?_, rfx_0 c_7⟩; rw [if_pos c_7]; (try simp only [tn_n (show v_ < 2147483648 by omega)]); first | done | (first | (rw [if_pos c_17]; done) | (rw [if_neg c_17]; done) | (rw [if_pos c_17]; rfl) | (rw [if_neg c_17]; rfl)))

theorem okX4_spent : jok yX4_spent wsX4_spent cX4_spent 3 (some .int) 1 := ⟨⟨_, rfl⟩, by decide +kernel, by decide +kernel⟩
set_option maxHeartbeats 1000000 in
set_option maxRecDepth 100000 in
theorem qX4_spent (l : Launch) (D : va_G) (cI cB : ClassId) (g : Nat → Nat) (hi : Int32) (tc : Nat) (B : BayT) (T : BayT) (rf : Nat → Int32) (v : Int32) (hn7 : sn_ B ≤ 7) : jMi D cI cB l yX4_spent wsX4_spent 6 [.ref (g 0), .int v] (xO g hi tc ++ miO g ++ bW cI g 4 B ++ bW cI g 10 T ++ rW cI g rf) (S := BayT × (Nat → Int32)) (fun r u => r = (if ob_ v 0 99 = 0 then su_ (pw_ B) (sn_ B) - su_ (pw_ (hs_ (tn_ v) B)) (sn_ B) else ob_ v 0 99) ∧ u.2 = rfx_ rf (ob_ v 0 99)) (fun u => xO g hi tc ++ miO g ++ bW cI g 4 B ++ bW cI g 10 u.1 ++ rW cI g u.2) := by
  refine jMi.of (cc := cX4_spent) (maxL := 3) (ret := (some .int)) okX4_spent (Nat.le_of_ble_eq_true rfl) ?_
  intro p e s m below meth c ls A hx hb hr hts hown hlk hml hP hK hD hA hS hl
  replace hown : s.vm.findClass RX4 = some m.cls := hown
  replace hl : lv_has ls 3 [(0, .ref (g 0)), (1, .int v)] := hl
  have hinX4 : ∀ w ∈ wsX40, w ∈ wsX4_spent := by decide +kernel
  refine lv_iload_n hx hb dX4_spent_0 rfl (lv_at hl 1 rfl) ?_
  refine lv_iconst (v := 0) hx hb dX4_spent_1 (by decide) ?_
  refine lv_bipush (v := 99) hx hb dX4_spent_2 (by decide) ?_
  refine kSiS hx hb hml hown hts hK hP gX4_spent_X4_outside okX4_outside (qX4_outside l D cI cB v 0 99 ) [] rfl (by decide) hl.1 rfl rfl (Nat.le_of_ble_eq_true rfl) dX4_spent_4 (by decide) (fun r_1 hr_2 => ?_)
  replace hr_2 : r_1 = ob_ v 0 99 := hr_2
  subst r_1
  refine lv_istore_n (lv' := [(2, .int (ob_ v 0 99)), (0, .ref (g 0)), (1, .int v)]) hx hb dX4_spent_7 rfl hl (by decide) rfl (fun ls hl => ?_)
  refine lv_iload_n hx hb dX4_spent_8 rfl (lv_at hl 0 rfl) ?_
  refine lv_if_eq (tgt := 18) hx hb dX4_spent_9 (by decide) (fun c_9 => ?_) (fun c_9 => ?_)
  · skip
    have w0 := c_9
    simp only [wS_, wSN_, wSNW_, wNW_, wTh_, f2_0, nb_0, ob_0, uk_0, lo_0, hi_0] at w0
    obtain ⟨v_, hv_, rfl⟩ := pl_le (n := 99) (by decide) w0
    replace hl : lv_has ls 3 [(2, .int (ob_ (nI v_) 0 99)), (0, .ref (g 0)), (1, .int (nI v_))] := hl
    refine lv_aload_n hx hb dX4_spent_18 rfl (lv_at hl 1 rfl) ?_
    refine va_get (ci := 4) (C := RX4) (T := TX4) (N := 9) hx hb hts hinX4 hown hK.1 hP 0 rfl rfl 1 (by decide) (hts _ (List.mem_of_getElem? (i := 1) rfl)) (fun _ h9 => h9) rfl dX4_spent_19 ?_
    refine kSiN hx hb hml hown hts hK hP gX4_spent_X0_powderTogether_n161 (hK.2 _ (List.mem_of_getElem? (i := 57) rfl)) (hts _ (List.mem_of_getElem? (i := 16) rfl)) (hts _ (List.mem_of_getElem? (i := 15) rfl)) (hts _ (List.mem_of_getElem? (i := 17) rfl)) okX0_powderTogether (qX0_powderTogether l D cI cB g 4 B (by show sn_ B ≤ 7; omega)) [2, 3, 4, 5, 6, 7] rfl rfl rfl rfl (by decide) hl.1 rfl rfl (Nat.le_of_ble_eq_true rfl) dX4_spent_22 (by decide) (fun r_3 hr_4 => ?_)
    replace hr_4 : r_3 = su_ (pw_ B) (sn_ B) := hr_4
    subst r_3
    refine lv_aload_n hx hb dX4_spent_25 rfl (lv_at hl 1 rfl) ?_
    refine va_get (ci := 4) (C := RX4) (T := TX4) (N := 9) hx hb hts hinX4 hown hK.1 hP 0 rfl rfl 0 (by decide) (hts _ (List.mem_of_getElem? (i := 2) rfl)) (fun _ h9 => h9) rfl dX4_spent_26 ?_
    refine lv_iload_n hx hb dX4_spent_29 rfl (lv_at hl 2 rfl) ?_
    refine kMrN hx hb hml hown hts hK hP hD hA hS gX4_spent_X2_after_n254 (hK.2 _ (List.mem_of_getElem? (i := 81) rfl)) (hts _ (List.mem_of_getElem? (i := 22) rfl)) (hts _ (List.mem_of_getElem? (i := 21) rfl)) (hts _ (List.mem_of_getElem? (i := 23) rfl)) okX2_after (qX2_after l D cI cB g B T v_ (by show sn_ B ≤ 7; omega) (by omega)) [1, 2, 3, 4, 5, 6, 7, 8, 9, 10, 11, 12, 13] rfl (by decide) (fun _ => rfl) rfl rfl rfl (by decide) hl.1 rfl rfl (Nat.le_of_ble_eq_true rfl) dX4_spent_30 (by decide) (fun u_6 H locs hw_7 hP hD hS => ?_)
    replace hw_7 : u_6 = hs_ v_ B := hw_7
    subst u_6
    replace hP : va_P D vwCl (xO g hi tc ++ miO g ++ bW cI g 4 B ++ bW cI g 10 (hs_ v_ B) ++ rW cI g rf) H := (va_P.m [false, true, true, true, true, true, true, true, true, true, true, true, true, true] [] hP)
    replace hD : va_D A (xO g hi tc ++ miO g ++ bW cI g 4 B ++ bW cI g 10 (hs_ v_ B) ++ rW cI g rf) := (va_D.m [false, true, true, true, true, true, true, true, true, true, true, true, true, true] [] hD)
    refine kSiN hx hb hml hown hts hK hP gX4_spent_X0_powderTogether_n161 (hK.2 _ (List.mem_of_getElem? (i := 57) rfl)) (hts _ (List.mem_of_getElem? (i := 16) rfl)) (hts _ (List.mem_of_getElem? (i := 15) rfl)) (hts _ (List.mem_of_getElem? (i := 17) rfl)) okX0_powderTogether (qX0_powderTogether l D cI cB g 10 (hs_ v_ B) (by show sn_ (hs_ _ _) ≤ 7; rw [sn_hs]; omega)) [8, 9, 10, 11, 12, 13] rfl rfl rfl rfl (by decide) hl.1 rfl rfl (Nat.le_of_ble_eq_true rfl) dX4_spent_33 (by decide) (fun r_8 hr_9 => ?_)
    replace hr_9 : r_8 = su_ (pw_ (hs_ v_ B)) (sn_ (hs_ v_ B)) := hr_9
    subst r_8
    refine lv_isub hx hb dX4_spent_36 ?_
    refine rMi hx hb hr hlk hS ((hs_ v_ B), rf) hP ?_ dX4_spent_37
    first | exact ⟨(if_neg c_9).symm, rfl⟩ | (refine ⟨?_, rfx_0 c_9⟩; rw [if_pos c_9]; (try simp only [tn_n (show v_ < 2147483648 by omega)]); first | done | (rw [sn_hs]))
  · skip
    refine lv_aload_n hx hb dX4_spent_12 rfl (lv_at hl 1 rfl) ?_
    refine lv_iload_n hx hb dX4_spent_13 rfl (lv_at hl 0 rfl) ?_
    refine kMiV hx hb hml hown hts hK hP hD hA hS gX4_spent_X4_refuse okX4_refuse (qX4_refuse l D cI cB g hi tc rf (ob_ v 0 99) (rc0_n (by first | exact rc0_wS _ _ | exact rc0_wSN _ _ _ | exact rc0_wSNW _ _ _ _ | exact rc0_wNW _ _ | exact rc0_wTh _ _ _ _ _ | exact rc0_nb _ _ | exact rc0_uk _ _ | exact rc0_ob _ _ _ | exact rc0_f2 (rc0_nb _ _) (rc0_nb _ _) | exact rc0_f2 (rc0_nb _ _) (rc0_uk _ _) | exact rc0_f2 (rc0_ob _ _ _) (rc0_uk _ _) | exact rc0_f2 (rc0_uk _ _) (rc0_f2 (rc0_uk _ _) (rc0_ob _ _ _)) | exact rc0_f2 (rc0_f2 (rc0_nb _ _) (rc0_nb _ _)) (rc0_if (Or.inr (Or.inl rfl)) (rc0_uk _ _))) c_9)) [0, 14] rfl (by decide) (fun _ => rfl) rfl rfl rfl (by decide) hl.1 rfl rfl (Nat.le_of_ble_eq_true rfl) dX4_spent_14 (by decide) (fun r_10 u_11 H locs hw_12 hP hD hS => ?_)
    replace hw_12 : r_10 = ob_ v 0 99 ∧ u_11 = rfx_ rf (ob_ v 0 99) := hw_12
    obtain ⟨hw_12a, hw_12b⟩ := hw_12
    subst r_10
    subst u_11
    replace hP : va_P D vwCl (xO g hi tc ++ miO g ++ bW cI g 4 B ++ bW cI g 10 T ++ rW cI g (rfx_ rf (ob_ v 0 99))) H := (va_P.m [true, false, false, false, false, false, false, false, false, false, false, false, false, false, true] [] hP)
    replace hD : va_D A (xO g hi tc ++ miO g ++ bW cI g 4 B ++ bW cI g 10 T ++ rW cI g (rfx_ rf (ob_ v 0 99))) := (va_D.m [true, false, false, false, false, false, false, false, false, false, false, false, false, false, true] [] hD)
    refine rMi hx hb hr hlk hS (T, (rfx_ rf (ob_ v 0 99))) hP ?_ dX4_spent_17
    first | exact ⟨(if_neg c_9).symm, rfl⟩ | (refine ⟨?_, rfx_0 c_9⟩; rw [if_pos c_9]; (try simp only [tn_n (show v_ < 2147483648 by omega)]); first | done | (rw [sn_hs]))

theorem okX4_ring : jok yX4_ring wsX4_ring cX4_ring 3 (some .int) 1 := ⟨⟨_, rfl⟩, by decide +kernel, by decide +kernel⟩
set_option maxHeartbeats 1000000 in
set_option maxRecDepth 100000 in
theorem qX4_ring (l : Launch) (D : va_G) (cI cB : ClassId) (g : Nat → Nat) (hi : Int32) (tc : Nat) (B : BayT) (T : BayT) (rf : Nat → Int32) (v : Int32) (hn7 : sn_ B ≤ 7) : jMi D cI cB l yX4_ring wsX4_ring 7 [.ref (g 0), .int v] (xO g hi tc ++ miO g ++ bW cI g 4 B ++ bW cI g 10 T ++ rW cI g rf) (S := BayT × (Nat → Int32)) (fun r u => r = (if ob_ v 0 99 = 0 then oI_ (rg_ (hs_ (tn_ v) B) 48 0) else ob_ v 0 99) ∧ u.2 = rfx_ rf (ob_ v 0 99)) (fun u => xO g hi tc ++ miO g ++ bW cI g 4 B ++ bW cI g 10 u.1 ++ rW cI g u.2) := by
  refine jMi.of (cc := cX4_ring) (maxL := 3) (ret := (some .int)) okX4_ring (Nat.le_of_ble_eq_true rfl) ?_
  intro p e s m below meth c ls A hx hb hr hts hown hlk hml hP hK hD hA hS hl
  replace hown : s.vm.findClass RX4 = some m.cls := hown
  replace hl : lv_has ls 3 [(0, .ref (g 0)), (1, .int v)] := hl
  have hinX4 : ∀ w ∈ wsX40, w ∈ wsX4_ring := by decide +kernel
  refine lv_iload_n hx hb dX4_ring_0 rfl (lv_at hl 1 rfl) ?_
  refine lv_iconst (v := 0) hx hb dX4_ring_1 (by decide) ?_
  refine lv_bipush (v := 99) hx hb dX4_ring_2 (by decide) ?_
  refine kSiS hx hb hml hown hts hK hP gX4_ring_X4_outside okX4_outside (qX4_outside l D cI cB v 0 99 ) [] rfl (by decide) hl.1 rfl rfl (Nat.le_of_ble_eq_true rfl) dX4_ring_4 (by decide) (fun r_1 hr_2 => ?_)
  replace hr_2 : r_1 = ob_ v 0 99 := hr_2
  subst r_1
  refine lv_istore_n (lv' := [(2, .int (ob_ v 0 99)), (0, .ref (g 0)), (1, .int v)]) hx hb dX4_ring_7 rfl hl (by decide) rfl (fun ls hl => ?_)
  refine lv_iload_n hx hb dX4_ring_8 rfl (lv_at hl 0 rfl) ?_
  refine lv_if_eq (tgt := 20) hx hb dX4_ring_9 (by decide) (fun c_9 => ?_) (fun c_9 => ?_)
  · skip
    have w0 := c_9
    simp only [wS_, wSN_, wSNW_, wNW_, wTh_, f2_0, nb_0, ob_0, uk_0, lo_0, hi_0] at w0
    obtain ⟨v_, hv_, rfl⟩ := pl_le (n := 99) (by decide) w0
    replace hl : lv_has ls 3 [(2, .int (ob_ (nI v_) 0 99)), (0, .ref (g 0)), (1, .int (nI v_))] := hl
    refine lv_aload_n hx hb dX4_ring_20 rfl (lv_at hl 1 rfl) ?_
    refine va_get (ci := 4) (C := RX4) (T := TX4) (N := 9) hx hb hts hinX4 hown hK.1 hP 0 rfl rfl 0 (by decide) (hts _ (List.mem_of_getElem? (i := 1) rfl)) (fun _ h9 => h9) rfl dX4_ring_21 ?_
    refine lv_iload_n hx hb dX4_ring_24 rfl (lv_at hl 2 rfl) ?_
    refine kMiN hx hb hml hown hts hK hP hD hA hS gX4_ring_X2_ringBehind_n284 (hK.2 _ (List.mem_of_getElem? (i := 94) rfl)) (hts _ (List.mem_of_getElem? (i := 15) rfl)) (hts _ (List.mem_of_getElem? (i := 14) rfl)) (hts _ (List.mem_of_getElem? (i := 16) rfl)) okX2_ringBehind (qX2_ringBehind l D cI cB g B T v_ (by show sn_ B ≤ 7; omega) (by omega)) [1, 2, 3, 4, 5, 6, 7, 8, 9, 10, 11, 12, 13] rfl (by decide) (fun _ => rfl) rfl rfl rfl (by decide) hl.1 rfl rfl (Nat.le_of_ble_eq_true rfl) dX4_ring_25 (by decide) (fun r_3 u_4 H locs hw_5 hP hD hS => ?_)
    replace hw_5 : r_3 = oI_ (rg_ (hs_ v_ B) 48 0) := hw_5
    subst r_3
    replace hP : va_P D vwCl (xO g hi tc ++ miO g ++ bW cI g 4 B ++ bW cI g 10 u_4 ++ rW cI g rf) H := (va_P.m [false, true, true, true, true, true, true, true, true, true, true, true, true, true] [] hP)
    replace hD : va_D A (xO g hi tc ++ miO g ++ bW cI g 4 B ++ bW cI g 10 u_4 ++ rW cI g rf) := (va_D.m [false, true, true, true, true, true, true, true, true, true, true, true, true, true] [] hD)
    refine rMi hx hb hr hlk hS (u_4, rf) hP ?_ dX4_ring_28
    first | exact ⟨(if_neg c_9).symm, rfl⟩ | (refine ⟨?_, rfx_0 c_9⟩; rw [if_pos c_9]; (try simp only [tn_n (show v_ < 2147483648 by omega)]); first | done | (rfl))
  · skip
    refine lv_aload_n hx hb dX4_ring_12 rfl (lv_at hl 1 rfl) ?_
    refine lv_iload_n hx hb dX4_ring_13 rfl (lv_at hl 0 rfl) ?_
    refine kMiV hx hb hml hown hts hK hP hD hA hS gX4_ring_X4_refuse okX4_refuse (qX4_refuse l D cI cB g hi tc rf (ob_ v 0 99) (rc0_n (by first | exact rc0_wS _ _ | exact rc0_wSN _ _ _ | exact rc0_wSNW _ _ _ _ | exact rc0_wNW _ _ | exact rc0_wTh _ _ _ _ _ | exact rc0_nb _ _ | exact rc0_uk _ _ | exact rc0_ob _ _ _ | exact rc0_f2 (rc0_nb _ _) (rc0_nb _ _) | exact rc0_f2 (rc0_nb _ _) (rc0_uk _ _) | exact rc0_f2 (rc0_ob _ _ _) (rc0_uk _ _) | exact rc0_f2 (rc0_uk _ _) (rc0_f2 (rc0_uk _ _) (rc0_ob _ _ _)) | exact rc0_f2 (rc0_f2 (rc0_nb _ _) (rc0_nb _ _)) (rc0_if (Or.inr (Or.inl rfl)) (rc0_uk _ _))) c_9)) [0, 14] rfl (by decide) (fun _ => rfl) rfl rfl rfl (by decide) hl.1 rfl rfl (Nat.le_of_ble_eq_true rfl) dX4_ring_14 (by decide) (fun r_6 u_7 H locs hw_8 hP hD hS => ?_)
    replace hw_8 : r_6 = ob_ v 0 99 ∧ u_7 = rfx_ rf (ob_ v 0 99) := hw_8
    obtain ⟨hw_8a, hw_8b⟩ := hw_8
    subst r_6
    subst u_7
    replace hP : va_P D vwCl (xO g hi tc ++ miO g ++ bW cI g 4 B ++ bW cI g 10 T ++ rW cI g (rfx_ rf (ob_ v 0 99))) H := (va_P.m [true, false, false, false, false, false, false, false, false, false, false, false, false, false, true] [] hP)
    replace hD : va_D A (xO g hi tc ++ miO g ++ bW cI g 4 B ++ bW cI g 10 T ++ rW cI g (rfx_ rf (ob_ v 0 99))) := (va_D.m [true, false, false, false, false, false, false, false, false, false, false, false, false, false, true] [] hD)
    refine lv_goto (tgt := 28) hx hb dX4_ring_17 (by decide) ?_
    refine rMi hx hb hr hlk hS (T, (rfx_ rf (ob_ v 0 99))) hP ?_ dX4_ring_28
    first | exact ⟨(if_neg c_9).symm, rfl⟩ | (refine ⟨?_, rfx_0 c_9⟩; rw [if_pos c_9]; (try simp only [tn_n (show v_ < 2147483648 by omega)]); first | done | (rfl))

theorem okX4_hush : jok yX4_hush wsX4_hush cX4_hush 4 (some .int) 2 := ⟨⟨_, rfl⟩, by decide +kernel, by decide +kernel⟩
set_option maxHeartbeats 1000000 in
set_option maxRecDepth 100000 in
theorem qX4_hush (l : Launch) (D : va_G) (cI cB : ClassId) (g : Nat → Nat) (hi : Int32) (tc : Nat) (B : BayT) (T : BayT) (rf : Nat → Int32) (a : Int32) (v : Int32) (hn7 : sn_ B ≤ 7) : jMi D cI cB l yX4_hush wsX4_hush 7 [.ref (g 0), .int a, .int v] (xO g hi tc ++ miO g ++ bW cI g 4 B ++ bW cI g 10 T ++ rW cI g rf) (S := BayT × (Nat → Int32)) (fun r u => r = (if wSN_ (sn_ B) a v = 0 then oI_ (bs_ (hu_ B (tn_ a) (tn_ v)) (tc_ B (tn_ a) (tn_ v)) (sn_ B)).1 else wSN_ (sn_ B) a v) ∧ u.2 = rfx_ rf (wSN_ (sn_ B) a v)) (fun u => xO g hi tc ++ miO g ++ bW cI g 4 B ++ bW cI g 10 u.1 ++ rW cI g u.2) := by
  refine jMi.of (cc := cX4_hush) (maxL := 4) (ret := (some .int)) okX4_hush (Nat.le_of_ble_eq_true rfl) ?_
  intro p e s m below meth c ls A hx hb hr hts hown hlk hml hP hK hD hA hS hl
  replace hown : s.vm.findClass RX4 = some m.cls := hown
  replace hl : lv_has ls 4 [(0, .ref (g 0)), (1, .int a), (2, .int v)] := hl
  have hinX4 : ∀ w ∈ wsX40, w ∈ wsX4_hush := by decide +kernel
  refine lv_aload_n hx hb dX4_hush_0 rfl (lv_at hl 0 rfl) ?_
  refine lv_iload_n hx hb dX4_hush_1 rfl (lv_at hl 1 rfl) ?_
  refine lv_iload_n hx hb dX4_hush_2 rfl (lv_at hl 2 rfl) ?_
  refine kSiV hx hb hml hown hts hK hP gX4_hush_X4_refusalOf okX4_refusalOf (qX4_refusalOf l D cI cB g hi tc B a v (by show sn_ B ≤ 7; omega)) [0, 2, 3, 4, 5, 6, 7] rfl rfl rfl rfl (by decide) hl.1 rfl rfl (Nat.le_of_ble_eq_true rfl) dX4_hush_3 (by decide) (fun r_1 hr_2 => ?_)
  replace hr_2 : r_1 = wSN_ (sn_ B) a v := hr_2
  subst r_1
  refine lv_istore_n (lv' := [(3, .int (wSN_ (sn_ B) a v)), (0, .ref (g 0)), (1, .int a), (2, .int v)]) hx hb dX4_hush_6 rfl hl (by decide) rfl (fun ls hl => ?_)
  refine lv_iload_n hx hb dX4_hush_7 rfl (lv_at hl 0 rfl) ?_
  refine lv_if_eq (tgt := 19) hx hb dX4_hush_8 (by decide) (fun c_8 => ?_) (fun c_8 => ?_)
  · skip
    have w0 := c_8
    simp only [wS_, wSN_, wSNW_, wNW_, wTh_, f2_0, nb_0, ob_0, uk_0, lo_0, hi_0] at w0
    obtain ⟨a_, ha_, rfl⟩ := pl_lt (n := sn_ B) (by omega) w0.1
    obtain ⟨v_, hv_, rfl⟩ := pl_le (n := 99) (by decide) w0.2
    replace hl : lv_has ls 4 [(3, .int (wSN_ (sn_ B) (nI a_) (nI v_))), (0, .ref (g 0)), (1, .int (nI a_)), (2, .int (nI v_))] := hl
    refine lv_aload_n hx hb dX4_hush_19 rfl (lv_at hl 1 rfl) ?_
    refine va_get (ci := 4) (C := RX4) (T := TX4) (N := 9) hx hb hts hinX4 hown hK.1 hP 0 rfl rfl 0 (by decide) (hts _ (List.mem_of_getElem? (i := 1) rfl)) (fun _ h9 => h9) rfl dX4_hush_20 ?_
    refine lv_iload_n hx hb dX4_hush_23 rfl (lv_at hl 2 rfl) ?_
    refine lv_iload_n hx hb dX4_hush_24 rfl (lv_at hl 3 rfl) ?_
    refine kMiN hx hb hml hown hts hK hP hD hA hS gX4_hush_X2_bestHush_n287 (hK.2 _ (List.mem_of_getElem? (i := 95) rfl)) (hts _ (List.mem_of_getElem? (i := 26) rfl)) (hts _ (List.mem_of_getElem? (i := 25) rfl)) (hts _ (List.mem_of_getElem? (i := 27) rfl)) okX2_bestHush (qX2_bestHush l D cI cB g B T a_ v_ (by show sn_ B ≤ 7; omega) (by omega) (by omega)) [1, 2, 3, 4, 5, 6, 7, 8, 9, 10, 11, 12, 13] rfl (by decide) (fun _ => rfl) rfl rfl rfl (by decide) hl.1 rfl rfl (Nat.le_of_ble_eq_true rfl) dX4_hush_25 (by decide) (fun r_3 u_4 H locs hw_5 hP hD hS => ?_)
    replace hw_5 : r_3 = oI_ (bs_ (hu_ B a_ v_) (tc_ B a_ v_) (sn_ B)).1 := hw_5
    subst r_3
    replace hP : va_P D vwCl (xO g hi tc ++ miO g ++ bW cI g 4 B ++ bW cI g 10 u_4 ++ rW cI g rf) H := (va_P.m [false, true, true, true, true, true, true, true, true, true, true, true, true, true] [] hP)
    replace hD : va_D A (xO g hi tc ++ miO g ++ bW cI g 4 B ++ bW cI g 10 u_4 ++ rW cI g rf) := (va_D.m [false, true, true, true, true, true, true, true, true, true, true, true, true, true] [] hD)
    refine rMi hx hb hr hlk hS (u_4, rf) hP ?_ dX4_hush_28
    first | exact ⟨(if_neg c_8).symm, rfl⟩ | (refine ⟨?_, rfx_0 c_8⟩; rw [if_pos c_8]; (try simp only [tn_n (show a_ < 2147483648 by omega), tn_n (show v_ < 2147483648 by omega)]); first | done | (rfl))
  · skip
    refine lv_aload_n hx hb dX4_hush_11 rfl (lv_at hl 1 rfl) ?_
    refine lv_iload_n hx hb dX4_hush_12 rfl (lv_at hl 0 rfl) ?_
    refine kMiV hx hb hml hown hts hK hP hD hA hS gX4_hush_X4_refuse okX4_refuse (qX4_refuse l D cI cB g hi tc rf (wSN_ (sn_ B) a v) (rc0_n (by first | exact rc0_wS _ _ | exact rc0_wSN _ _ _ | exact rc0_wSNW _ _ _ _ | exact rc0_wNW _ _ | exact rc0_wTh _ _ _ _ _ | exact rc0_nb _ _ | exact rc0_uk _ _ | exact rc0_ob _ _ _ | exact rc0_f2 (rc0_nb _ _) (rc0_nb _ _) | exact rc0_f2 (rc0_nb _ _) (rc0_uk _ _) | exact rc0_f2 (rc0_ob _ _ _) (rc0_uk _ _) | exact rc0_f2 (rc0_uk _ _) (rc0_f2 (rc0_uk _ _) (rc0_ob _ _ _)) | exact rc0_f2 (rc0_f2 (rc0_nb _ _) (rc0_nb _ _)) (rc0_if (Or.inr (Or.inl rfl)) (rc0_uk _ _))) c_8)) [0, 14] rfl (by decide) (fun _ => rfl) rfl rfl rfl (by decide) hl.1 rfl rfl (Nat.le_of_ble_eq_true rfl) dX4_hush_13 (by decide) (fun r_6 u_7 H locs hw_8 hP hD hS => ?_)
    replace hw_8 : r_6 = wSN_ (sn_ B) a v ∧ u_7 = rfx_ rf (wSN_ (sn_ B) a v) := hw_8
    obtain ⟨hw_8a, hw_8b⟩ := hw_8
    subst r_6
    subst u_7
    replace hP : va_P D vwCl (xO g hi tc ++ miO g ++ bW cI g 4 B ++ bW cI g 10 T ++ rW cI g (rfx_ rf (wSN_ (sn_ B) a v))) H := (va_P.m [true, false, false, false, false, false, false, false, false, false, false, false, false, false, true] [] hP)
    replace hD : va_D A (xO g hi tc ++ miO g ++ bW cI g 4 B ++ bW cI g 10 T ++ rW cI g (rfx_ rf (wSN_ (sn_ B) a v))) := (va_D.m [true, false, false, false, false, false, false, false, false, false, false, false, false, false, true] [] hD)
    refine lv_goto (tgt := 28) hx hb dX4_hush_16 (by decide) ?_
    refine rMi hx hb hr hlk hS (T, (rfx_ rf (wSN_ (sn_ B) a v))) hP ?_ dX4_hush_28
    first | exact ⟨(if_neg c_8).symm, rfl⟩ | (refine ⟨?_, rfx_0 c_8⟩; rw [if_pos c_8]; (try simp only [tn_n (show a_ < 2147483648 by omega), tn_n (show v_ < 2147483648 by omega)]); first | done | (rfl))

theorem okX4_fewest : jok yX4_fewest wsX4_fewest cX4_fewest 4 (some .int) 2 := ⟨⟨_, rfl⟩, by decide +kernel, by decide +kernel⟩
set_option maxHeartbeats 1000000 in
set_option maxRecDepth 100000 in
theorem qX4_fewest (l : Launch) (D : va_G) (cI cB : ClassId) (g : Nat → Nat) (hi : Int32) (tc : Nat) (B : BayT) (T : BayT) (rf : Nat → Int32) (a : Int32) (v : Int32) (hn7 : sn_ B ≤ 7) : jMi D cI cB l yX4_fewest wsX4_fewest 7 [.ref (g 0), .int a, .int v] (xO g hi tc ++ miO g ++ bW cI g 4 B ++ bW cI g 10 T ++ rW cI g rf) (S := BayT × (Nat → Int32)) (fun r u => r = (if wSN_ (sn_ B) a v = 0 then (fw_ B (tn_ a) (tn_ v) (p2_ (sn_ B))).1 else wSN_ (sn_ B) a v) ∧ u.2 = rfx_ rf (wSN_ (sn_ B) a v)) (fun u => xO g hi tc ++ miO g ++ bW cI g 4 B ++ bW cI g 10 u.1 ++ rW cI g u.2) := by
  refine jMi.of (cc := cX4_fewest) (maxL := 4) (ret := (some .int)) okX4_fewest (Nat.le_of_ble_eq_true rfl) ?_
  intro p e s m below meth c ls A hx hb hr hts hown hlk hml hP hK hD hA hS hl
  replace hown : s.vm.findClass RX4 = some m.cls := hown
  replace hl : lv_has ls 4 [(0, .ref (g 0)), (1, .int a), (2, .int v)] := hl
  have hinX4 : ∀ w ∈ wsX40, w ∈ wsX4_fewest := by decide +kernel
  refine lv_aload_n hx hb dX4_fewest_0 rfl (lv_at hl 0 rfl) ?_
  refine lv_iload_n hx hb dX4_fewest_1 rfl (lv_at hl 1 rfl) ?_
  refine lv_iload_n hx hb dX4_fewest_2 rfl (lv_at hl 2 rfl) ?_
  refine kSiV hx hb hml hown hts hK hP gX4_fewest_X4_refusalOf okX4_refusalOf (qX4_refusalOf l D cI cB g hi tc B a v (by show sn_ B ≤ 7; omega)) [0, 2, 3, 4, 5, 6, 7] rfl rfl rfl rfl (by decide) hl.1 rfl rfl (Nat.le_of_ble_eq_true rfl) dX4_fewest_3 (by decide) (fun r_1 hr_2 => ?_)
  replace hr_2 : r_1 = wSN_ (sn_ B) a v := hr_2
  subst r_1
  refine lv_istore_n (lv' := [(3, .int (wSN_ (sn_ B) a v)), (0, .ref (g 0)), (1, .int a), (2, .int v)]) hx hb dX4_fewest_6 rfl hl (by decide) rfl (fun ls hl => ?_)
  refine lv_iload_n hx hb dX4_fewest_7 rfl (lv_at hl 0 rfl) ?_
  refine lv_if_eq (tgt := 19) hx hb dX4_fewest_8 (by decide) (fun c_8 => ?_) (fun c_8 => ?_)
  · skip
    have w0 := c_8
    simp only [wS_, wSN_, wSNW_, wNW_, wTh_, f2_0, nb_0, ob_0, uk_0, lo_0, hi_0] at w0
    obtain ⟨a_, ha_, rfl⟩ := pl_lt (n := sn_ B) (by omega) w0.1
    obtain ⟨v_, hv_, rfl⟩ := pl_le (n := 99) (by decide) w0.2
    replace hl : lv_has ls 4 [(3, .int (wSN_ (sn_ B) (nI a_) (nI v_))), (0, .ref (g 0)), (1, .int (nI a_)), (2, .int (nI v_))] := hl
    refine lv_aload_n hx hb dX4_fewest_19 rfl (lv_at hl 1 rfl) ?_
    refine va_get (ci := 4) (C := RX4) (T := TX4) (N := 9) hx hb hts hinX4 hown hK.1 hP 0 rfl rfl 0 (by decide) (hts _ (List.mem_of_getElem? (i := 1) rfl)) (fun _ h9 => h9) rfl dX4_fewest_20 ?_
    refine lv_iload_n hx hb dX4_fewest_23 rfl (lv_at hl 2 rfl) ?_
    refine lv_iload_n hx hb dX4_fewest_24 rfl (lv_at hl 3 rfl) ?_
    refine kMiN hx hb hml hown hts hK hP hD hA hS gX4_fewest_X2_fewestHushed_n290 (hK.2 _ (List.mem_of_getElem? (i := 96) rfl)) (hts _ (List.mem_of_getElem? (i := 26) rfl)) (hts _ (List.mem_of_getElem? (i := 25) rfl)) (hts _ (List.mem_of_getElem? (i := 27) rfl)) okX2_fewestHushed (qX2_fewestHushed l D cI cB g B T a_ v_ (by show sn_ B ≤ 7; omega) (by omega) (by omega)) [1, 2, 3, 4, 5, 6, 7, 8, 9, 10, 11, 12, 13] rfl (by decide) (fun _ => rfl) rfl rfl rfl (by decide) hl.1 rfl rfl (Nat.le_of_ble_eq_true rfl) dX4_fewest_25 (by decide) (fun r_3 u_4 H locs hw_5 hP hD hS => ?_)
    replace hw_5 : r_3 = (fw_ B a_ v_ (p2_ (sn_ B))).1 := hw_5
    subst r_3
    replace hP : va_P D vwCl (xO g hi tc ++ miO g ++ bW cI g 4 B ++ bW cI g 10 u_4 ++ rW cI g rf) H := (va_P.m [false, true, true, true, true, true, true, true, true, true, true, true, true, true] [] hP)
    replace hD : va_D A (xO g hi tc ++ miO g ++ bW cI g 4 B ++ bW cI g 10 u_4 ++ rW cI g rf) := (va_D.m [false, true, true, true, true, true, true, true, true, true, true, true, true, true] [] hD)
    refine rMi hx hb hr hlk hS (u_4, rf) hP ?_ dX4_fewest_28
    first | exact ⟨(if_neg c_8).symm, rfl⟩ | (refine ⟨?_, rfx_0 c_8⟩; rw [if_pos c_8]; (try simp only [tn_n (show a_ < 2147483648 by omega), tn_n (show v_ < 2147483648 by omega)]); first | done | (rfl))
  · skip
    refine lv_aload_n hx hb dX4_fewest_11 rfl (lv_at hl 1 rfl) ?_
    refine lv_iload_n hx hb dX4_fewest_12 rfl (lv_at hl 0 rfl) ?_
    refine kMiV hx hb hml hown hts hK hP hD hA hS gX4_fewest_X4_refuse okX4_refuse (qX4_refuse l D cI cB g hi tc rf (wSN_ (sn_ B) a v) (rc0_n (by first | exact rc0_wS _ _ | exact rc0_wSN _ _ _ | exact rc0_wSNW _ _ _ _ | exact rc0_wNW _ _ | exact rc0_wTh _ _ _ _ _ | exact rc0_nb _ _ | exact rc0_uk _ _ | exact rc0_ob _ _ _ | exact rc0_f2 (rc0_nb _ _) (rc0_nb _ _) | exact rc0_f2 (rc0_nb _ _) (rc0_uk _ _) | exact rc0_f2 (rc0_ob _ _ _) (rc0_uk _ _) | exact rc0_f2 (rc0_uk _ _) (rc0_f2 (rc0_uk _ _) (rc0_ob _ _ _)) | exact rc0_f2 (rc0_f2 (rc0_nb _ _) (rc0_nb _ _)) (rc0_if (Or.inr (Or.inl rfl)) (rc0_uk _ _))) c_8)) [0, 14] rfl (by decide) (fun _ => rfl) rfl rfl rfl (by decide) hl.1 rfl rfl (Nat.le_of_ble_eq_true rfl) dX4_fewest_13 (by decide) (fun r_6 u_7 H locs hw_8 hP hD hS => ?_)
    replace hw_8 : r_6 = wSN_ (sn_ B) a v ∧ u_7 = rfx_ rf (wSN_ (sn_ B) a v) := hw_8
    obtain ⟨hw_8a, hw_8b⟩ := hw_8
    subst r_6
    subst u_7
    replace hP : va_P D vwCl (xO g hi tc ++ miO g ++ bW cI g 4 B ++ bW cI g 10 T ++ rW cI g (rfx_ rf (wSN_ (sn_ B) a v))) H := (va_P.m [true, false, false, false, false, false, false, false, false, false, false, false, false, false, true] [] hP)
    replace hD : va_D A (xO g hi tc ++ miO g ++ bW cI g 4 B ++ bW cI g 10 T ++ rW cI g (rfx_ rf (wSN_ (sn_ B) a v))) := (va_D.m [true, false, false, false, false, false, false, false, false, false, false, false, false, false, true] [] hD)
    refine lv_goto (tgt := 28) hx hb dX4_fewest_16 (by decide) ?_
    refine rMi hx hb hr hlk hS (T, (rfx_ rf (wSN_ (sn_ B) a v))) hP ?_ dX4_fewest_28
    first | exact ⟨(if_neg c_8).symm, rfl⟩ | (refine ⟨?_, rfx_0 c_8⟩; rw [if_pos c_8]; (try simp only [tn_n (show a_ < 2147483648 by omega), tn_n (show v_ < 2147483648 by omega)]); first | done | (rfl))

theorem okX4_swap : jok yX4_swap wsX4_swap cX4_swap 4 (some .int) 2 := ⟨⟨_, rfl⟩, by decide +kernel, by decide +kernel⟩
set_option maxHeartbeats 1000000 in
set_option maxRecDepth 100000 in
theorem qX4_swap (l : Launch) (D : va_G) (cI cB : ClassId) (g : Nat → Nat) (hi : Int32) (tc : Nat) (B : BayT) (T : BayT) (rf : Nat → Int32) (a : Int32) (v : Int32) (hn7 : sn_ B ≤ 7) : jMi D cI cB l yX4_swap wsX4_swap 7 [.ref (g 0), .int a, .int v] (xO g hi tc ++ miO g ++ bW cI g 4 B ++ bW cI g 10 T ++ rW cI g rf) (S := BayT × (Nat → Int32)) (fun r u => r = (if wSN_ (sn_ B) a v = 0 then (s2_ B (tn_ a) (tn_ v) (sn_ B)).1 else wSN_ (sn_ B) a v) ∧ u.2 = rfx_ rf (wSN_ (sn_ B) a v)) (fun u => xO g hi tc ++ miO g ++ bW cI g 4 B ++ bW cI g 10 u.1 ++ rW cI g u.2) := by
  refine jMi.of (cc := cX4_swap) (maxL := 4) (ret := (some .int)) okX4_swap (Nat.le_of_ble_eq_true rfl) ?_
  intro p e s m below meth c ls A hx hb hr hts hown hlk hml hP hK hD hA hS hl
  replace hown : s.vm.findClass RX4 = some m.cls := hown
  replace hl : lv_has ls 4 [(0, .ref (g 0)), (1, .int a), (2, .int v)] := hl
  have hinX4 : ∀ w ∈ wsX40, w ∈ wsX4_swap := by decide +kernel
  refine lv_aload_n hx hb dX4_swap_0 rfl (lv_at hl 0 rfl) ?_
  refine lv_iload_n hx hb dX4_swap_1 rfl (lv_at hl 1 rfl) ?_
  refine lv_iload_n hx hb dX4_swap_2 rfl (lv_at hl 2 rfl) ?_
  refine kSiV hx hb hml hown hts hK hP gX4_swap_X4_refusalOf okX4_refusalOf (qX4_refusalOf l D cI cB g hi tc B a v (by show sn_ B ≤ 7; omega)) [0, 2, 3, 4, 5, 6, 7] rfl rfl rfl rfl (by decide) hl.1 rfl rfl (Nat.le_of_ble_eq_true rfl) dX4_swap_3 (by decide) (fun r_1 hr_2 => ?_)
  replace hr_2 : r_1 = wSN_ (sn_ B) a v := hr_2
  subst r_1
  refine lv_istore_n (lv' := [(3, .int (wSN_ (sn_ B) a v)), (0, .ref (g 0)), (1, .int a), (2, .int v)]) hx hb dX4_swap_6 rfl hl (by decide) rfl (fun ls hl => ?_)
  refine lv_iload_n hx hb dX4_swap_7 rfl (lv_at hl 0 rfl) ?_
  refine lv_if_eq (tgt := 19) hx hb dX4_swap_8 (by decide) (fun c_8 => ?_) (fun c_8 => ?_)
  · skip
    have w0 := c_8
    simp only [wS_, wSN_, wSNW_, wNW_, wTh_, f2_0, nb_0, ob_0, uk_0, lo_0, hi_0] at w0
    obtain ⟨a_, ha_, rfl⟩ := pl_lt (n := sn_ B) (by omega) w0.1
    obtain ⟨v_, hv_, rfl⟩ := pl_le (n := 99) (by decide) w0.2
    replace hl : lv_has ls 4 [(3, .int (wSN_ (sn_ B) (nI a_) (nI v_))), (0, .ref (g 0)), (1, .int (nI a_)), (2, .int (nI v_))] := hl
    refine lv_aload_n hx hb dX4_swap_19 rfl (lv_at hl 1 rfl) ?_
    refine va_get (ci := 4) (C := RX4) (T := TX4) (N := 9) hx hb hts hinX4 hown hK.1 hP 0 rfl rfl 0 (by decide) (hts _ (List.mem_of_getElem? (i := 1) rfl)) (fun _ h9 => h9) rfl dX4_swap_20 ?_
    refine lv_iload_n hx hb dX4_swap_23 rfl (lv_at hl 2 rfl) ?_
    refine lv_iload_n hx hb dX4_swap_24 rfl (lv_at hl 3 rfl) ?_
    refine kMiN hx hb hml hown hts hK hP hD hA hS gX4_swap_X2_bestSwap_n293 (hK.2 _ (List.mem_of_getElem? (i := 97) rfl)) (hts _ (List.mem_of_getElem? (i := 26) rfl)) (hts _ (List.mem_of_getElem? (i := 25) rfl)) (hts _ (List.mem_of_getElem? (i := 27) rfl)) okX2_bestSwap (qX2_bestSwap l D cI cB g B T a_ v_ (by show sn_ B ≤ 7; omega) (by omega) (by omega)) [1, 2, 3, 4, 5, 6, 7, 8, 9, 10, 11, 12, 13] rfl (by decide) (fun _ => rfl) rfl rfl rfl (by decide) hl.1 rfl rfl (Nat.le_of_ble_eq_true rfl) dX4_swap_25 (by decide) (fun r_3 u_4 H locs hw_5 hP hD hS => ?_)
    replace hw_5 : r_3 = (s2_ B a_ v_ (sn_ B)).1 := hw_5
    subst r_3
    replace hP : va_P D vwCl (xO g hi tc ++ miO g ++ bW cI g 4 B ++ bW cI g 10 u_4 ++ rW cI g rf) H := (va_P.m [false, true, true, true, true, true, true, true, true, true, true, true, true, true] [] hP)
    replace hD : va_D A (xO g hi tc ++ miO g ++ bW cI g 4 B ++ bW cI g 10 u_4 ++ rW cI g rf) := (va_D.m [false, true, true, true, true, true, true, true, true, true, true, true, true, true] [] hD)
    refine rMi hx hb hr hlk hS (u_4, rf) hP ?_ dX4_swap_28
    first | exact ⟨(if_neg c_8).symm, rfl⟩ | (refine ⟨?_, rfx_0 c_8⟩; rw [if_pos c_8]; (try simp only [tn_n (show a_ < 2147483648 by omega), tn_n (show v_ < 2147483648 by omega)]); first | done | (rfl))
  · skip
    refine lv_aload_n hx hb dX4_swap_11 rfl (lv_at hl 1 rfl) ?_
    refine lv_iload_n hx hb dX4_swap_12 rfl (lv_at hl 0 rfl) ?_
    refine kMiV hx hb hml hown hts hK hP hD hA hS gX4_swap_X4_refuse okX4_refuse (qX4_refuse l D cI cB g hi tc rf (wSN_ (sn_ B) a v) (rc0_n (by first | exact rc0_wS _ _ | exact rc0_wSN _ _ _ | exact rc0_wSNW _ _ _ _ | exact rc0_wNW _ _ | exact rc0_wTh _ _ _ _ _ | exact rc0_nb _ _ | exact rc0_uk _ _ | exact rc0_ob _ _ _ | exact rc0_f2 (rc0_nb _ _) (rc0_nb _ _) | exact rc0_f2 (rc0_nb _ _) (rc0_uk _ _) | exact rc0_f2 (rc0_ob _ _ _) (rc0_uk _ _) | exact rc0_f2 (rc0_uk _ _) (rc0_f2 (rc0_uk _ _) (rc0_ob _ _ _)) | exact rc0_f2 (rc0_f2 (rc0_nb _ _) (rc0_nb _ _)) (rc0_if (Or.inr (Or.inl rfl)) (rc0_uk _ _))) c_8)) [0, 14] rfl (by decide) (fun _ => rfl) rfl rfl rfl (by decide) hl.1 rfl rfl (Nat.le_of_ble_eq_true rfl) dX4_swap_13 (by decide) (fun r_6 u_7 H locs hw_8 hP hD hS => ?_)
    replace hw_8 : r_6 = wSN_ (sn_ B) a v ∧ u_7 = rfx_ rf (wSN_ (sn_ B) a v) := hw_8
    obtain ⟨hw_8a, hw_8b⟩ := hw_8
    subst r_6
    subst u_7
    replace hP : va_P D vwCl (xO g hi tc ++ miO g ++ bW cI g 4 B ++ bW cI g 10 T ++ rW cI g (rfx_ rf (wSN_ (sn_ B) a v))) H := (va_P.m [true, false, false, false, false, false, false, false, false, false, false, false, false, false, true] [] hP)
    replace hD : va_D A (xO g hi tc ++ miO g ++ bW cI g 4 B ++ bW cI g 10 T ++ rW cI g (rfx_ rf (wSN_ (sn_ B) a v))) := (va_D.m [true, false, false, false, false, false, false, false, false, false, false, false, false, false, true] [] hD)
    refine lv_goto (tgt := 28) hx hb dX4_swap_16 (by decide) ?_
    refine rMi hx hb hr hlk hS (T, (rfx_ rf (wSN_ (sn_ B) a v))) hP ?_ dX4_swap_28
    first | exact ⟨(if_neg c_8).symm, rfl⟩ | (refine ⟨?_, rfx_0 c_8⟩; rw [if_pos c_8]; (try simp only [tn_n (show a_ < 2147483648 by omega), tn_n (show v_ < 2147483648 by omega)]); first | done | (rfl))

theorem okX4_fromWhere : jok yX4_fromWhere wsX4_fromWhere cX4_fromWhere 5 (some .int) 3 := ⟨⟨_, rfl⟩, by decide +kernel, by decide +kernel⟩
set_option maxHeartbeats 1000000 in
set_option maxRecDepth 100000 in
theorem qX4_fromWhere (l : Launch) (D : va_G) (cI cB : ClassId) (g : Nat → Nat) (hi : Int32) (tc : Nat) (B : BayT) (T : BayT) (rf : Nat → Int32) (a : Int32) (v : Int32) (q : Int32) (hn7 : sn_ B ≤ 7) : jMi D cI cB l yX4_fromWhere wsX4_fromWhere 7 [.ref (g 0), .int a, .int v, .int q] (xO g hi tc ++ miO g ++ bW cI g 4 B ++ bW cI g 10 T ++ rW cI g rf) (S := BayT × (Nat → Int32)) (fun r u => r = (if wSNW_ (sn_ B) a v q = 0 then (if q = 0 then cs_ B (tn_ a) (tn_ v) 31 else oI_ (ls_ B (tn_ a) (tn_ v) 31 0)) else wSNW_ (sn_ B) a v q) ∧ u.2 = rfx_ rf (wSNW_ (sn_ B) a v q)) (fun u => xO g hi tc ++ miO g ++ bW cI g 4 B ++ bW cI g 10 u.1 ++ rW cI g u.2) := by
  refine jMi.of (cc := cX4_fromWhere) (maxL := 5) (ret := (some .int)) okX4_fromWhere (Nat.le_of_ble_eq_true rfl) ?_
  intro p e s m below meth c ls A hx hb hr hts hown hlk hml hP hK hD hA hS hl
  replace hown : s.vm.findClass RX4 = some m.cls := hown
  replace hl : lv_has ls 5 [(0, .ref (g 0)), (1, .int a), (2, .int v), (3, .int q)] := hl
  have hinX4 : ∀ w ∈ wsX40, w ∈ wsX4_fromWhere := by decide +kernel
  refine lv_aload_n hx hb dX4_fromWhere_0 rfl (lv_at hl 0 rfl) ?_
  refine lv_iload_n hx hb dX4_fromWhere_1 rfl (lv_at hl 1 rfl) ?_
  refine lv_iload_n hx hb dX4_fromWhere_2 rfl (lv_at hl 2 rfl) ?_
  refine lv_iload_n hx hb dX4_fromWhere_3 rfl (lv_at hl 3 rfl) ?_
  refine kSiV hx hb hml hown hts hK hP gX4_fromWhere_X4_refusalOf_ okX4_refusalOf_ (qX4_refusalOf_ l D cI cB g hi tc B a v q (by show sn_ B ≤ 7; omega)) [0, 2, 3, 4, 5, 6, 7] rfl rfl rfl rfl (by decide) hl.1 rfl rfl (Nat.le_of_ble_eq_true rfl) dX4_fromWhere_4 (by decide) (fun r_1 hr_2 => ?_)
  replace hr_2 : r_1 = wSNW_ (sn_ B) a v q := hr_2
  subst r_1
  refine lv_istore (lv' := [(4, .int (wSNW_ (sn_ B) a v q)), (0, .ref (g 0)), (1, .int a), (2, .int v), (3, .int q)]) hx hb dX4_fromWhere_7 hl (by decide) rfl (fun ls hl => ?_)
  refine lv_iload hx hb dX4_fromWhere_9 (lv_at hl 0 rfl) ?_
  refine lv_if_eq (tgt := 21) hx hb dX4_fromWhere_11 (by decide) (fun c_11 => ?_) (fun c_11 => ?_)
  · skip
    have w0 := c_11
    simp only [wS_, wSN_, wSNW_, wNW_, wTh_, f2_0, nb_0, ob_0, uk_0, lo_0, hi_0] at w0
    obtain ⟨a_, ha_, rfl⟩ := pl_lt (n := sn_ B) (by omega) w0.1.1
    obtain ⟨v_, hv_, rfl⟩ := pl_le (n := 99) (by decide) w0.1.2
    replace hl : lv_has ls 5 [(4, .int (wSNW_ (sn_ B) (nI a_) (nI v_) q)), (0, .ref (g 0)), (1, .int (nI a_)), (2, .int (nI v_)), (3, .int q)] := hl
    refine lv_iload_n hx hb dX4_fromWhere_21 rfl (lv_at hl 4 rfl) ?_
    refine lv_if_ne (tgt := 37) hx hb dX4_fromWhere_22 (by decide) (fun c_22 => ?_) (fun c_22 => ?_)
    · skip
      refine lv_aload_n hx hb dX4_fromWhere_37 rfl (lv_at hl 1 rfl) ?_
      refine va_get (ci := 4) (C := RX4) (T := TX4) (N := 9) hx hb hts hinX4 hown hK.1 hP 0 rfl rfl 0 (by decide) (hts _ (List.mem_of_getElem? (i := 1) rfl)) (fun _ h9 => h9) rfl dX4_fromWhere_38 ?_
      refine lv_iload_n hx hb dX4_fromWhere_41 rfl (lv_at hl 2 rfl) ?_
      refine lv_iload_n hx hb dX4_fromWhere_42 rfl (lv_at hl 3 rfl) ?_
      refine kMiN hx hb hml hown hts hK hP hD hA hS gX4_fromWhere_X2_leastStart_n299 (hK.2 _ (List.mem_of_getElem? (i := 99) rfl)) (hts _ (List.mem_of_getElem? (i := 33) rfl)) (hts _ (List.mem_of_getElem? (i := 130) rfl)) (hts _ (List.mem_of_getElem? (i := 131) rfl)) okX2_leastStart (qX2_leastStart l D cI cB g B T a_ v_ (by show sn_ B ≤ 7; omega) (by omega) (by omega)) [1, 2, 3, 4, 5, 6, 7, 8, 9, 10, 11, 12, 13] rfl (by decide) (fun _ => rfl) rfl rfl rfl (by decide) hl.1 rfl rfl (Nat.le_of_ble_eq_true rfl) dX4_fromWhere_43 (by decide) (fun r_3 u_4 H locs hw_5 hP hD hS => ?_)
      replace hw_5 : r_3 = oI_ (ls_ B a_ v_ 31 0) := hw_5
      subst r_3
      replace hP : va_P D vwCl (xO g hi tc ++ miO g ++ bW cI g 4 B ++ bW cI g 10 u_4 ++ rW cI g rf) H := (va_P.m [false, true, true, true, true, true, true, true, true, true, true, true, true, true] [] hP)
      replace hD : va_D A (xO g hi tc ++ miO g ++ bW cI g 4 B ++ bW cI g 10 u_4 ++ rW cI g rf) := (va_D.m [false, true, true, true, true, true, true, true, true, true, true, true, true, true] [] hD)
      refine rMi hx hb hr hlk hS (u_4, rf) hP ?_ dX4_fromWhere_46
      first | exact ⟨(if_neg c_11).symm, rfl⟩ | (refine ⟨?_, rfx_0 c_11⟩; rw [if_pos c_11]; (try simp only [tn_n (show a_ < 2147483648 by omega), tn_n (show v_ < 2147483648 by omega)]); first | done | (first | (rw [if_pos c_22]; done) | (rw [if_neg c_22]; done) | (rw [if_pos c_22]; rfl) | (rw [if_neg c_22]; rfl)))
    · skip
      refine lv_aload_n hx hb dX4_fromWhere_25 rfl (lv_at hl 1 rfl) ?_
      refine va_get (ci := 4) (C := RX4) (T := TX4) (N := 9) hx hb hts hinX4 hown hK.1 hP 0 rfl rfl 0 (by decide) (hts _ (List.mem_of_getElem? (i := 1) rfl)) (fun _ h9 => h9) rfl dX4_fromWhere_26 ?_
      refine lv_iload_n hx hb dX4_fromWhere_29 rfl (lv_at hl 2 rfl) ?_
      refine lv_iload_n hx hb dX4_fromWhere_30 rfl (lv_at hl 3 rfl) ?_
      refine kMiN hx hb hml hown hts hK hP hD hA hS gX4_fromWhere_X2_countStarts_n296 (hK.2 _ (List.mem_of_getElem? (i := 98) rfl)) (hts _ (List.mem_of_getElem? (i := 33) rfl)) (hts _ (List.mem_of_getElem? (i := 32) rfl)) (hts _ (List.mem_of_getElem? (i := 34) rfl)) okX2_countStarts (qX2_countStarts l D cI cB g B T a_ v_ (by show sn_ B ≤ 7; omega) (by omega) (by omega)) [1, 2, 3, 4, 5, 6, 7, 8, 9, 10, 11, 12, 13] rfl (by decide) (fun _ => rfl) rfl rfl rfl (by decide) hl.1 rfl rfl (Nat.le_of_ble_eq_true rfl) dX4_fromWhere_31 (by decide) (fun r_6 u_7 H locs hw_8 hP hD hS => ?_)
      replace hw_8 : r_6 = cs_ B a_ v_ 31 := hw_8
      subst r_6
      replace hP : va_P D vwCl (xO g hi tc ++ miO g ++ bW cI g 4 B ++ bW cI g 10 u_7 ++ rW cI g rf) H := (va_P.m [false, true, true, true, true, true, true, true, true, true, true, true, true, true] [] hP)
      replace hD : va_D A (xO g hi tc ++ miO g ++ bW cI g 4 B ++ bW cI g 10 u_7 ++ rW cI g rf) := (va_D.m [false, true, true, true, true, true, true, true, true, true, true, true, true, true] [] hD)
      refine lv_goto (tgt := 46) hx hb dX4_fromWhere_34 (by decide) ?_
      refine rMi hx hb hr hlk hS (u_7, rf) hP ?_ dX4_fromWhere_46
      first | exact ⟨(if_neg c_11).symm, rfl⟩ | (refine ⟨?_, rfx_0 c_11⟩; rw [if_pos c_11]; (try simp only [tn_n (show a_ < 2147483648 by omega), tn_n (show v_ < 2147483648 by omega)]); first | done | (first | (rw [if_pos c_22]; done) | (rw [if_neg c_22]; done) | (rw [if_pos c_22]; rfl) | (rw [if_neg c_22]; rfl)))
  · skip
    refine lv_aload_n hx hb dX4_fromWhere_14 rfl (lv_at hl 1 rfl) ?_
    refine lv_iload hx hb dX4_fromWhere_15 (lv_at hl 0 rfl) ?_
    refine kMiV hx hb hml hown hts hK hP hD hA hS gX4_fromWhere_X4_refuse okX4_refuse (qX4_refuse l D cI cB g hi tc rf (wSNW_ (sn_ B) a v q) (rc0_n (by first | exact rc0_wS _ _ | exact rc0_wSN _ _ _ | exact rc0_wSNW _ _ _ _ | exact rc0_wNW _ _ | exact rc0_wTh _ _ _ _ _ | exact rc0_nb _ _ | exact rc0_uk _ _ | exact rc0_ob _ _ _ | exact rc0_f2 (rc0_nb _ _) (rc0_nb _ _) | exact rc0_f2 (rc0_nb _ _) (rc0_uk _ _) | exact rc0_f2 (rc0_ob _ _ _) (rc0_uk _ _) | exact rc0_f2 (rc0_uk _ _) (rc0_f2 (rc0_uk _ _) (rc0_ob _ _ _)) | exact rc0_f2 (rc0_f2 (rc0_nb _ _) (rc0_nb _ _)) (rc0_if (Or.inr (Or.inl rfl)) (rc0_uk _ _))) c_11)) [0, 14] rfl (by decide) (fun _ => rfl) rfl rfl rfl (by decide) hl.1 rfl rfl (Nat.le_of_ble_eq_true rfl) dX4_fromWhere_17 (by decide) (fun r_9 u_10 H locs hw_11 hP hD hS => ?_)
    replace hw_11 : r_9 = wSNW_ (sn_ B) a v q ∧ u_10 = rfx_ rf (wSNW_ (sn_ B) a v q) := hw_11
    obtain ⟨hw_11a, hw_11b⟩ := hw_11
    subst r_9
    subst u_10
    replace hP : va_P D vwCl (xO g hi tc ++ miO g ++ bW cI g 4 B ++ bW cI g 10 T ++ rW cI g (rfx_ rf (wSNW_ (sn_ B) a v q))) H := (va_P.m [true, false, false, false, false, false, false, false, false, false, false, false, false, false, true] [] hP)
    replace hD : va_D A (xO g hi tc ++ miO g ++ bW cI g 4 B ++ bW cI g 10 T ++ rW cI g (rfx_ rf (wSNW_ (sn_ B) a v q))) := (va_D.m [true, false, false, false, false, false, false, false, false, false, false, false, false, false, true] [] hD)
    refine rMi hx hb hr hlk hS (T, (rfx_ rf (wSNW_ (sn_ B) a v q))) hP ?_ dX4_fromWhere_20
    first | exact ⟨(if_neg c_11).symm, rfl⟩ | (refine ⟨?_, rfx_0 c_11⟩; rw [if_pos c_11]; (try simp only [tn_n (show a_ < 2147483648 by omega), tn_n (show v_ < 2147483648 by omega)]); first | done | (first | (rw [if_pos c_22]; done) | (rw [if_neg c_22]; done) | (rw [if_pos c_22]; rfl) | (rw [if_neg c_22]; rfl)))

theorem okX4_powderWanted : jok yX4_powderWanted wsX4_powderWanted cX4_powderWanted 6 (some .int) 3 := ⟨⟨_, rfl⟩, by decide +kernel, by decide +kernel⟩
set_option maxHeartbeats 1000000 in
set_option maxRecDepth 100000 in
theorem qX4_powderWanted (l : Launch) (D : va_G) (cI cB : ClassId) (g : Nat → Nat) (hi : Int32) (tc : Nat) (B : BayT) (T : BayT) (rf : Nat → Int32) (a : Int32) (v : Int32) (q : Int32) (hn7 : sn_ B ≤ 7) : jMi D cI cB l yX4_powderWanted wsX4_powderWanted 7 [.ref (g 0), .int a, .int v, .int q] (xO g hi tc ++ miO g ++ bW cI g 4 B ++ bW cI g 10 T ++ rW cI g rf) (S := BayT × (Nat → Int32)) (fun r u => r = (if wSNW_ (sn_ B) a v q = 0 then (if q = 0 then bpX_ B (tn_ a) (tn_ v) else tc_ (uw_ B (tn_ a) (bpX_ B (tn_ a) (tn_ v))) (tn_ a) (tn_ v)) else wSNW_ (sn_ B) a v q) ∧ u.2 = rfx_ rf (wSNW_ (sn_ B) a v q)) (fun u => xO g hi tc ++ miO g ++ bW cI g 4 B ++ bW cI g 10 u.1 ++ rW cI g u.2) := by
  refine jMi.of (cc := cX4_powderWanted) (maxL := 6) (ret := (some .int)) okX4_powderWanted (Nat.le_of_ble_eq_true rfl) ?_
  intro p e s m below meth c ls A hx hb hr hts hown hlk hml hP hK hD hA hS hl
  replace hown : s.vm.findClass RX4 = some m.cls := hown
  replace hl : lv_has ls 6 [(0, .ref (g 0)), (1, .int a), (2, .int v), (3, .int q)] := hl
  have hinX4 : ∀ w ∈ wsX40, w ∈ wsX4_powderWanted := by decide +kernel
  refine lv_aload_n hx hb dX4_powderWanted_0 rfl (lv_at hl 0 rfl) ?_
  refine lv_iload_n hx hb dX4_powderWanted_1 rfl (lv_at hl 1 rfl) ?_
  refine lv_iload_n hx hb dX4_powderWanted_2 rfl (lv_at hl 2 rfl) ?_
  refine lv_iload_n hx hb dX4_powderWanted_3 rfl (lv_at hl 3 rfl) ?_
  refine kSiV hx hb hml hown hts hK hP gX4_powderWanted_X4_refusalOf_ okX4_refusalOf_ (qX4_refusalOf_ l D cI cB g hi tc B a v q (by show sn_ B ≤ 7; omega)) [0, 2, 3, 4, 5, 6, 7] rfl rfl rfl rfl (by decide) hl.1 rfl rfl (Nat.le_of_ble_eq_true rfl) dX4_powderWanted_4 (by decide) (fun r_1 hr_2 => ?_)
  replace hr_2 : r_1 = wSNW_ (sn_ B) a v q := hr_2
  subst r_1
  refine lv_istore (lv' := [(4, .int (wSNW_ (sn_ B) a v q)), (0, .ref (g 0)), (1, .int a), (2, .int v), (3, .int q)]) hx hb dX4_powderWanted_7 hl (by decide) rfl (fun ls hl => ?_)
  refine lv_iload hx hb dX4_powderWanted_9 (lv_at hl 0 rfl) ?_
  refine lv_if_eq (tgt := 21) hx hb dX4_powderWanted_11 (by decide) (fun c_11 => ?_) (fun c_11 => ?_)
  · skip
    have w0 := c_11
    simp only [wS_, wSN_, wSNW_, wNW_, wTh_, f2_0, nb_0, ob_0, uk_0, lo_0, hi_0] at w0
    obtain ⟨a_, ha_, rfl⟩ := pl_lt (n := sn_ B) (by omega) w0.1.1
    obtain ⟨v_, hv_, rfl⟩ := pl_le (n := 99) (by decide) w0.1.2
    replace hl : lv_has ls 6 [(4, .int (wSNW_ (sn_ B) (nI a_) (nI v_) q)), (0, .ref (g 0)), (1, .int (nI a_)), (2, .int (nI v_)), (3, .int q)] := hl
    refine lv_aload_n hx hb dX4_powderWanted_21 rfl (lv_at hl 1 rfl) ?_
    refine va_get (ci := 4) (C := RX4) (T := TX4) (N := 9) hx hb hts hinX4 hown hK.1 hP 0 rfl rfl 0 (by decide) (hts _ (List.mem_of_getElem? (i := 1) rfl)) (fun _ h9 => h9) rfl dX4_powderWanted_22 ?_
    refine lv_iload_n hx hb dX4_powderWanted_25 rfl (lv_at hl 2 rfl) ?_
    refine lv_iload_n hx hb dX4_powderWanted_26 rfl (lv_at hl 3 rfl) ?_
    refine kMiN hx hb hml hown hts hK hP hD hA hS gX4_powderWanted_X2_bestPowder_n302 (hK.2 _ (List.mem_of_getElem? (i := 100) rfl)) (hts _ (List.mem_of_getElem? (i := 33) rfl)) (hts _ (List.mem_of_getElem? (i := 32) rfl)) (hts _ (List.mem_of_getElem? (i := 34) rfl)) okX2_bestPowder (qX2_bestPowder l D cI cB g B T a_ v_ (by show sn_ B ≤ 7; omega) (by omega) (by omega)) [1, 2, 3, 4, 5, 6, 7, 8, 9, 10, 11, 12, 13] rfl (by decide) (fun _ => rfl) rfl rfl rfl (by decide) hl.1 rfl rfl (Nat.le_of_ble_eq_true rfl) dX4_powderWanted_27 (by decide) (fun r_3 u_4 H locs hw_5 hP hD hS => ?_)
    replace hw_5 : r_3 = bp_ (fun j => tc_ (uw_ B a_ (nI j)) a_ v_) (ct_ B a_) 101 0 0 0 := hw_5
    subst r_3
    replace hP : va_P D vwCl (xO g hi tc ++ miO g ++ bW cI g 4 B ++ bW cI g 10 u_4 ++ rW cI g rf) H := (va_P.m [false, true, true, true, true, true, true, true, true, true, true, true, true, true] [] hP)
    replace hD : va_D A (xO g hi tc ++ miO g ++ bW cI g 4 B ++ bW cI g 10 u_4 ++ rW cI g rf) := (va_D.m [false, true, true, true, true, true, true, true, true, true, true, true, true, true] [] hD)
    refine lv_istore (lv' := [(5, .int (bp_ (fun j => tc_ (uw_ B a_ (nI j)) a_ v_) (ct_ B a_) 101 0 0 0)), (4, .int (wSNW_ (sn_ B) (nI a_) (nI v_) q)), (0, .ref (g 0)), (1, .int (nI a_)), (2, .int (nI v_)), (3, .int q)]) hx hb dX4_powderWanted_30 hl (by decide) rfl (fun ls hl => ?_)
    refine lv_iload_n hx hb dX4_powderWanted_32 rfl (lv_at hl 5 rfl) ?_
    refine lv_if_ne (tgt := 41) hx hb dX4_powderWanted_33 (by decide) (fun c_33 => ?_) (fun c_33 => ?_)
    · skip
      refine lv_aload_n hx hb dX4_powderWanted_41 rfl (lv_at hl 2 rfl) ?_
      refine va_get (ci := 4) (C := RX4) (T := TX4) (N := 9) hx hb hts hinX4 hown hK.1 hP 0 rfl rfl 0 (by decide) (hts _ (List.mem_of_getElem? (i := 1) rfl)) (fun _ h9 => h9) rfl dX4_powderWanted_42 ?_
      refine lv_iload_n hx hb dX4_powderWanted_45 rfl (lv_at hl 3 rfl) ?_
      refine lv_iload hx hb dX4_powderWanted_46 (lv_at hl 0 rfl) ?_
      refine lv_iload_n hx hb dX4_powderWanted_48 rfl (lv_at hl 4 rfl) ?_
      refine kMiN hx hb hml hown hts hK hP hD hA hS gX4_powderWanted_X2_timesWithPowder_n305 (hK.2 _ (List.mem_of_getElem? (i := 103) rfl)) (hts _ (List.mem_of_getElem? (i := 33) rfl)) (hts _ (List.mem_of_getElem? (i := 44) rfl)) (hts _ (List.mem_of_getElem? (i := 45) rfl)) okX2_timesWithPowder (qX2_timesWithPowder l D cI cB g B u_4 a_ (bp_ (fun j => tc_ (uw_ B a_ (nI j)) a_ v_) (ct_ B a_) 101 0 0 0) v_ (by show sn_ B ≤ 7; omega) (by omega) (by omega)) [1, 2, 3, 4, 5, 6, 7, 8, 9, 10, 11, 12, 13] rfl (by decide) (fun _ => rfl) rfl rfl rfl (by decide) hl.1 rfl rfl (Nat.le_of_ble_eq_true rfl) dX4_powderWanted_49 (by decide) (fun r_6 u_7 H locs hw_8 hP hD hS => ?_)
      replace hw_8 : r_6 = tc_ (uw_ B a_ (bp_ (fun j => tc_ (uw_ B a_ (nI j)) a_ v_) (ct_ B a_) 101 0 0 0)) a_ v_ := hw_8
      subst r_6
      replace hP : va_P D vwCl (xO g hi tc ++ miO g ++ bW cI g 4 B ++ bW cI g 10 u_7 ++ rW cI g rf) H := (va_P.m [false, true, true, true, true, true, true, true, true, true, true, true, true, true] [] hP)
      replace hD : va_D A (xO g hi tc ++ miO g ++ bW cI g 4 B ++ bW cI g 10 u_7 ++ rW cI g rf) := (va_D.m [false, true, true, true, true, true, true, true, true, true, true, true, true, true] [] hD)
      refine rMi hx hb hr hlk hS (u_7, rf) hP ?_ dX4_powderWanted_52
      first | exact ⟨(if_neg c_11).symm, rfl⟩ | (refine ⟨?_, rfx_0 c_11⟩; rw [if_pos c_11]; (try simp only [tn_n (show a_ < 2147483648 by omega), tn_n (show v_ < 2147483648 by omega)]); first | done | (first | (rw [if_pos c_33]; done) | (rw [if_neg c_33]; done) | (rw [if_pos c_33]; rfl) | (rw [if_neg c_33]; rfl)))
    · skip
      refine lv_iload hx hb dX4_powderWanted_36 (lv_at hl 0 rfl) ?_
      refine lv_goto (tgt := 52) hx hb dX4_powderWanted_38 (by decide) ?_
      refine rMi hx hb hr hlk hS (u_4, rf) hP ?_ dX4_powderWanted_52
      first | exact ⟨(if_neg c_11).symm, rfl⟩ | (refine ⟨?_, rfx_0 c_11⟩; rw [if_pos c_11]; (try simp only [tn_n (show a_ < 2147483648 by omega), tn_n (show v_ < 2147483648 by omega)]); first | done | (first | (rw [if_pos c_33]; done) | (rw [if_neg c_33]; done) | (rw [if_pos c_33]; rfl) | (rw [if_neg c_33]; rfl)))
  · skip
    refine lv_aload_n hx hb dX4_powderWanted_14 rfl (lv_at hl 1 rfl) ?_
    refine lv_iload hx hb dX4_powderWanted_15 (lv_at hl 0 rfl) ?_
    refine kMiV hx hb hml hown hts hK hP hD hA hS gX4_powderWanted_X4_refuse okX4_refuse (qX4_refuse l D cI cB g hi tc rf (wSNW_ (sn_ B) a v q) (rc0_n (by first | exact rc0_wS _ _ | exact rc0_wSN _ _ _ | exact rc0_wSNW _ _ _ _ | exact rc0_wNW _ _ | exact rc0_wTh _ _ _ _ _ | exact rc0_nb _ _ | exact rc0_uk _ _ | exact rc0_ob _ _ _ | exact rc0_f2 (rc0_nb _ _) (rc0_nb _ _) | exact rc0_f2 (rc0_nb _ _) (rc0_uk _ _) | exact rc0_f2 (rc0_ob _ _ _) (rc0_uk _ _) | exact rc0_f2 (rc0_uk _ _) (rc0_f2 (rc0_uk _ _) (rc0_ob _ _ _)) | exact rc0_f2 (rc0_f2 (rc0_nb _ _) (rc0_nb _ _)) (rc0_if (Or.inr (Or.inl rfl)) (rc0_uk _ _))) c_11)) [0, 14] rfl (by decide) (fun _ => rfl) rfl rfl rfl (by decide) hl.1 rfl rfl (Nat.le_of_ble_eq_true rfl) dX4_powderWanted_17 (by decide) (fun r_9 u_10 H locs hw_11 hP hD hS => ?_)
    replace hw_11 : r_9 = wSNW_ (sn_ B) a v q ∧ u_10 = rfx_ rf (wSNW_ (sn_ B) a v q) := hw_11
    obtain ⟨hw_11a, hw_11b⟩ := hw_11
    subst r_9
    subst u_10
    replace hP : va_P D vwCl (xO g hi tc ++ miO g ++ bW cI g 4 B ++ bW cI g 10 T ++ rW cI g (rfx_ rf (wSNW_ (sn_ B) a v q))) H := (va_P.m [true, false, false, false, false, false, false, false, false, false, false, false, false, false, true] [] hP)
    replace hD : va_D A (xO g hi tc ++ miO g ++ bW cI g 4 B ++ bW cI g 10 T ++ rW cI g (rfx_ rf (wSNW_ (sn_ B) a v q))) := (va_D.m [true, false, false, false, false, false, false, false, false, false, false, false, false, false, true] [] hD)
    refine rMi hx hb hr hlk hS (T, (rfx_ rf (wSNW_ (sn_ B) a v q))) hP ?_ dX4_powderWanted_20
    first | exact ⟨(if_neg c_11).symm, rfl⟩ | (refine ⟨?_, rfx_0 c_11⟩; rw [if_pos c_11]; (try simp only [tn_n (show a_ < 2147483648 by omega), tn_n (show v_ < 2147483648 by omega)]); first | done | (first | (rw [if_pos c_33]; done) | (rw [if_neg c_33]; done) | (rw [if_pos c_33]; rfl) | (rw [if_neg c_33]; rfl)))

theorem okX4_newShore : jok yX4_newShore wsX4_newShore cX4_newShore 6 (some .int) 3 := ⟨⟨_, rfl⟩, by decide +kernel, by decide +kernel⟩
set_option maxHeartbeats 1000000 in
set_option maxRecDepth 100000 in
theorem qX4_newShore (l : Launch) (D : va_G) (cI cB : ClassId) (g : Nat → Nat) (hi : Int32) (tc : Nat) (B : BayT) (T : BayT) (rf : Nat → Int32) (w : Int32) (v : Int32) (q : Int32) (hn7 : sn_ B ≤ 7) : jMi D cI cB l yX4_newShore wsX4_newShore 7 [.ref (g 0), .int w, .int v, .int q] (xO g hi tc ++ miO g ++ bW cI g 4 B ++ bW cI g 10 T ++ rW cI g rf) (S := BayT × (Nat → Int32)) (fun r u => r = (if f2_ (uk_ w 5) (f2_ (uk_ q 1) (ob_ v 0 99)) = 0 then npX_ B w (tn_ v) q else f2_ (uk_ w 5) (f2_ (uk_ q 1) (ob_ v 0 99))) ∧ u.2 = rfx_ rf (f2_ (uk_ w 5) (f2_ (uk_ q 1) (ob_ v 0 99)))) (fun u => xO g hi tc ++ miO g ++ bW cI g 4 B ++ bW cI g 10 u.1 ++ rW cI g u.2) := by
  refine jMi.of (cc := cX4_newShore) (maxL := 6) (ret := (some .int)) okX4_newShore (Nat.le_of_ble_eq_true rfl) ?_
  intro p e s m below meth c ls A hx hb hr hts hown hlk hml hP hK hD hA hS hl
  replace hown : s.vm.findClass RX4 = some m.cls := hown
  replace hl : lv_has ls 6 [(0, .ref (g 0)), (1, .int w), (2, .int v), (3, .int q)] := hl
  have hinX4 : ∀ w ∈ wsX40, w ∈ wsX4_newShore := by decide +kernel
  refine lv_iload_n hx hb dX4_newShore_0 rfl (lv_at hl 1 rfl) ?_
  refine lv_iconst (v := 5) hx hb dX4_newShore_1 (by decide) ?_
  refine kSiS hx hb hml hown hts hK hP gX4_newShore_X4_unknown okX4_unknown (qX4_unknown l D cI cB w 5 ) [] rfl (by decide) hl.1 rfl rfl (Nat.le_of_ble_eq_true rfl) dX4_newShore_2 (by decide) (fun r_1 hr_2 => ?_)
  replace hr_2 : r_1 = uk_ w 5 := hr_2
  subst r_1
  refine lv_iload_n hx hb dX4_newShore_5 rfl (lv_at hl 3 rfl) ?_
  refine lv_iconst (v := 1) hx hb dX4_newShore_6 (by decide) ?_
  refine kSiS hx hb hml hown hts hK hP gX4_newShore_X4_unknown okX4_unknown (qX4_unknown l D cI cB q 1 ) [] rfl (by decide) hl.1 rfl rfl (Nat.le_of_ble_eq_true rfl) dX4_newShore_7 (by decide) (fun r_3 hr_4 => ?_)
  replace hr_4 : r_3 = uk_ q 1 := hr_4
  subst r_3
  refine lv_iload_n hx hb dX4_newShore_10 rfl (lv_at hl 2 rfl) ?_
  refine lv_iconst (v := 0) hx hb dX4_newShore_11 (by decide) ?_
  refine lv_bipush (v := 99) hx hb dX4_newShore_12 (by decide) ?_
  refine kSiS hx hb hml hown hts hK hP gX4_newShore_X4_outside okX4_outside (qX4_outside l D cI cB v 0 99 ) [] rfl (by decide) hl.1 rfl rfl (Nat.le_of_ble_eq_true rfl) dX4_newShore_14 (by decide) (fun r_5 hr_6 => ?_)
  replace hr_6 : r_5 = ob_ v 0 99 := hr_6
  subst r_5
  refine kSiS hx hb hml hown hts hK hP gX4_newShore_X4_firstOf okX4_firstOf (qX4_firstOf l D cI cB (uk_ q 1) (ob_ v 0 99) ) [] rfl (by decide) hl.1 rfl rfl (Nat.le_of_ble_eq_true rfl) dX4_newShore_17 (by decide) (fun r_7 hr_8 => ?_)
  replace hr_8 : r_7 = f2_ (uk_ q 1) (ob_ v 0 99) := hr_8
  subst r_7
  refine kSiS hx hb hml hown hts hK hP gX4_newShore_X4_firstOf okX4_firstOf (qX4_firstOf l D cI cB (uk_ w 5) (f2_ (uk_ q 1) (ob_ v 0 99)) ) [] rfl (by decide) hl.1 rfl rfl (Nat.le_of_ble_eq_true rfl) dX4_newShore_20 (by decide) (fun r_9 hr_10 => ?_)
  replace hr_10 : r_9 = f2_ (uk_ w 5) (f2_ (uk_ q 1) (ob_ v 0 99)) := hr_10
  subst r_9
  refine lv_istore (lv' := [(4, .int (f2_ (uk_ w 5) (f2_ (uk_ q 1) (ob_ v 0 99)))), (0, .ref (g 0)), (1, .int w), (2, .int v), (3, .int q)]) hx hb dX4_newShore_23 hl (by decide) rfl (fun ls hl => ?_)
  refine lv_iload hx hb dX4_newShore_25 (lv_at hl 0 rfl) ?_
  refine lv_if_eq (tgt := 37) hx hb dX4_newShore_27 (by decide) (fun c_27 => ?_) (fun c_27 => ?_)
  · skip
    have w0 := c_27
    simp only [wS_, wSN_, wSNW_, wNW_, wTh_, f2_0, nb_0, ob_0, uk_0, lo_0, hi_0] at w0
    obtain ⟨v_, hv_, rfl⟩ := pl_le (n := 99) (by decide) w0.2.2
    replace hl : lv_has ls 6 [(4, .int (f2_ (uk_ w 5) (f2_ (uk_ q 1) (ob_ (nI v_) 0 99)))), (0, .ref (g 0)), (1, .int w), (2, .int (nI v_)), (3, .int q)] := hl
    refine lv_aload_n hx hb dX4_newShore_37 rfl (lv_at hl 1 rfl) ?_
    refine va_get (ci := 4) (C := RX4) (T := TX4) (N := 9) hx hb hts hinX4 hown hK.1 hP 0 rfl rfl 0 (by decide) (hts _ (List.mem_of_getElem? (i := 1) rfl)) (fun _ h9 => h9) rfl dX4_newShore_38 ?_
    refine lv_iload_n hx hb dX4_newShore_41 rfl (lv_at hl 2 rfl) ?_
    refine lv_iload_n hx hb dX4_newShore_42 rfl (lv_at hl 3 rfl) ?_
    refine kMiN hx hb hml hown hts hK hP hD hA hS gX4_newShore_X2_bestNewPlace_n308 (hK.2 _ (List.mem_of_getElem? (i := 104) rfl)) (hts _ (List.mem_of_getElem? (i := 21) rfl)) (hts _ (List.mem_of_getElem? (i := 20) rfl)) (hts _ (List.mem_of_getElem? (i := 22) rfl)) okX2_bestNewPlace (qX2_bestNewPlace l D cI cB g B T w v_ (by show sn_ B ≤ 7; omega) (by omega)) [1, 2, 3, 4, 5, 6, 7, 8, 9, 10, 11, 12, 13] rfl (by decide) (fun _ => rfl) rfl rfl rfl (by decide) hl.1 rfl rfl (Nat.le_of_ble_eq_true rfl) dX4_newShore_43 (by decide) (fun r_11 u_12 H locs hw_13 hP hD hS => ?_)
    replace hw_13 : r_11 = oI_ (if sn_ B < 7 then (bs_ (np_ B w v_) (-1) 31).1 else none) := hw_13
    subst r_11
    replace hP : va_P D vwCl (xO g hi tc ++ miO g ++ bW cI g 4 B ++ bW cI g 10 u_12 ++ rW cI g rf) H := (va_P.m [false, true, true, true, true, true, true, true, true, true, true, true, true, true] [] hP)
    replace hD : va_D A (xO g hi tc ++ miO g ++ bW cI g 4 B ++ bW cI g 10 u_12 ++ rW cI g rf) := (va_D.m [false, true, true, true, true, true, true, true, true, true, true, true, true, true] [] hD)
    refine lv_istore (lv' := [(5, .int (oI_ (if sn_ B < 7 then (bs_ (np_ B w v_) (-1) 31).1 else none))), (4, .int (f2_ (uk_ w 5) (f2_ (uk_ q 1) (ob_ (nI v_) 0 99)))), (0, .ref (g 0)), (1, .int w), (2, .int (nI v_)), (3, .int q)]) hx hb dX4_newShore_46 hl (by decide) rfl (fun ls hl => ?_)
    rcases hL : if sn_ B < 7 then (bs_ (np_ B w v_) (-1) 31).1 else none with _ | t
    · rw [hL] at hl
      replace hl : lv_has ls 6 [(5, .int (-9)), (4, .int (f2_ (uk_ w 5) (f2_ (uk_ q 1) (ob_ (nI v_) 0 99)))), (0, .ref (g 0)), (1, .int w), (2, .int (nI v_)), (3, .int q)] := hl
      refine lv_iload_n hx hb dX4_newShore_48 rfl (lv_at hl 5 rfl) ?_
      refine lv_if_eq (tgt := 59) hx hb dX4_newShore_49 (by decide) (fun c_49 => ?_) (fun c_49 => ?_)
      · skip
        refine lv_iload hx hb dX4_newShore_59 (lv_at hl 0 rfl) ?_
        refine lv_goto (tgt := 75) hx hb dX4_newShore_61 (by decide) ?_
        refine rMi hx hb hr hlk hS (u_12, rf) hP ?_ dX4_newShore_75
        first | exact ⟨(if_neg c_27).symm, rfl⟩ | (refine ⟨?_, rfx_0 c_27⟩; rw [if_pos c_27]; (try simp only [tn_n (show v_ < 2147483648 by omega)]); first | done | (unfold npX_; first | (rw [if_pos c_49, hL]; rfl) | (rw [if_neg c_49, hL]; done) | (rw [if_neg c_49, hL]; rfl)))
      · skip
        refine lv_iload hx hb dX4_newShore_52 (lv_at hl 0 rfl) ?_
        refine lv_bipush (v := (-9)) hx hb dX4_newShore_54 (by decide) ?_
        refine lv_icmp_ne (tgt := 64) hx hb dX4_newShore_56 (by decide) (fun q => absurd q (by decide)) (fun _ => ?_)
        refine lv_iload hx hb dX4_newShore_59 (lv_at hl 0 rfl) ?_
        refine lv_goto (tgt := 75) hx hb dX4_newShore_61 (by decide) ?_
        refine rMi hx hb hr hlk hS (u_12, rf) hP ?_ dX4_newShore_75
        first | exact ⟨(if_neg c_27).symm, rfl⟩ | (refine ⟨?_, rfx_0 c_27⟩; rw [if_pos c_27]; (try simp only [tn_n (show v_ < 2147483648 by omega)]); first | done | (unfold npX_; first | (rw [if_pos c_49, hL]; rfl) | (rw [if_neg c_49, hL]; done) | (rw [if_neg c_49, hL]; rfl)))
    · rw [hL] at hl
      replace hl : lv_has ls 6 [(5, .int (nI t)), (4, .int (f2_ (uk_ w 5) (f2_ (uk_ q 1) (ob_ (nI v_) 0 99)))), (0, .ref (g 0)), (1, .int w), (2, .int (nI v_)), (3, .int q)] := hl
      have ht := np_lt hL
      have ht2 := ht.2
      refine lv_iload_n hx hb dX4_newShore_48 rfl (lv_at hl 5 rfl) ?_
      refine lv_if_eq (tgt := 59) hx hb dX4_newShore_49 (by decide) (fun c_49 => ?_) (fun c_49 => ?_)
      · skip
        refine lv_iload hx hb dX4_newShore_59 (lv_at hl 0 rfl) ?_
        refine lv_goto (tgt := 75) hx hb dX4_newShore_61 (by decide) ?_
        refine rMi hx hb hr hlk hS (u_12, rf) hP ?_ dX4_newShore_75
        first | exact ⟨(if_neg c_27).symm, rfl⟩ | (refine ⟨?_, rfx_0 c_27⟩; rw [if_pos c_27]; (try simp only [tn_n (show v_ < 2147483648 by omega)]); first | done | (unfold npX_; first | (rw [if_pos c_49, hL]; rfl) | (rw [if_neg c_49, hL]; done) | (rw [if_neg c_49, hL]; rfl)))
      · skip
        refine lv_iload hx hb dX4_newShore_52 (lv_at hl 0 rfl) ?_
        refine lv_bipush (v := (-9)) hx hb dX4_newShore_54 (by decide) ?_
        refine lv_icmp_ne (tgt := 64) hx hb dX4_newShore_56 (by decide) (fun _ => ?_) (fun q => absurd q (nI_m9 (by omega)))
        refine lv_aload_n hx hb dX4_newShore_64 rfl (lv_at hl 2 rfl) ?_
        refine va_get (ci := 4) (C := RX4) (T := TX4) (N := 9) hx hb hts hinX4 hown hK.1 hP 0 rfl rfl 0 (by decide) (hts _ (List.mem_of_getElem? (i := 1) rfl)) (fun _ h9 => h9) rfl dX4_newShore_65 ?_
        refine lv_iload_n hx hb dX4_newShore_68 rfl (lv_at hl 3 rfl) ?_
        refine lv_iload hx hb dX4_newShore_69 (lv_at hl 0 rfl) ?_
        refine lv_iload_n hx hb dX4_newShore_71 rfl (lv_at hl 4 rfl) ?_
        refine kMiN hx hb hml hown hts hK hP hD hA hS gX4_newShore_X2_timesFrom_n311 (hK.2 _ (List.mem_of_getElem? (i := 107) rfl)) (hts _ (List.mem_of_getElem? (i := 21) rfl)) (hts _ (List.mem_of_getElem? (i := 32) rfl)) (hts _ (List.mem_of_getElem? (i := 33) rfl)) okX2_timesFrom (qX2_timesFrom l D cI cB g B u_12 w (nI t) v_ (by omega) (by exact ht.1) (by omega)) [1, 2, 3, 4, 5, 6, 7, 8, 9, 10, 11, 12, 13] rfl (by decide) (fun _ => rfl) rfl rfl rfl (by decide) hl.1 rfl rfl (Nat.le_of_ble_eq_true rfl) dX4_newShore_72 (by decide) (fun r_14 u_15 H locs hw_16 hP hD hS => ?_)
        replace hw_16 : r_14 = tc_ (ad_ B w 5 (nI t)) (sn_ B) v_ := hw_16
        subst r_14
        replace hP : va_P D vwCl (xO g hi tc ++ miO g ++ bW cI g 4 B ++ bW cI g 10 u_15 ++ rW cI g rf) H := (va_P.m [false, true, true, true, true, true, true, true, true, true, true, true, true, true] [] hP)
        replace hD : va_D A (xO g hi tc ++ miO g ++ bW cI g 4 B ++ bW cI g 10 u_15 ++ rW cI g rf) := (va_D.m [false, true, true, true, true, true, true, true, true, true, true, true, true, true] [] hD)
        refine rMi hx hb hr hlk hS (u_15, rf) hP ?_ dX4_newShore_75
        first | exact ⟨(if_neg c_27).symm, rfl⟩ | (refine ⟨?_, rfx_0 c_27⟩; rw [if_pos c_27]; (try simp only [tn_n (show v_ < 2147483648 by omega)]); first | done | (unfold npX_; first | (rw [if_pos c_49, hL]; rfl) | (rw [if_neg c_49, hL]; done) | (rw [if_neg c_49, hL]; rfl)))
  · skip
    refine lv_aload_n hx hb dX4_newShore_30 rfl (lv_at hl 1 rfl) ?_
    refine lv_iload hx hb dX4_newShore_31 (lv_at hl 0 rfl) ?_
    refine kMiV hx hb hml hown hts hK hP hD hA hS gX4_newShore_X4_refuse okX4_refuse (qX4_refuse l D cI cB g hi tc rf (f2_ (uk_ w 5) (f2_ (uk_ q 1) (ob_ v 0 99))) (rc0_n (by first | exact rc0_wS _ _ | exact rc0_wSN _ _ _ | exact rc0_wSNW _ _ _ _ | exact rc0_wNW _ _ | exact rc0_wTh _ _ _ _ _ | exact rc0_nb _ _ | exact rc0_uk _ _ | exact rc0_ob _ _ _ | exact rc0_f2 (rc0_nb _ _) (rc0_nb _ _) | exact rc0_f2 (rc0_nb _ _) (rc0_uk _ _) | exact rc0_f2 (rc0_ob _ _ _) (rc0_uk _ _) | exact rc0_f2 (rc0_uk _ _) (rc0_f2 (rc0_uk _ _) (rc0_ob _ _ _)) | exact rc0_f2 (rc0_f2 (rc0_nb _ _) (rc0_nb _ _)) (rc0_if (Or.inr (Or.inl rfl)) (rc0_uk _ _))) c_27)) [0, 14] rfl (by decide) (fun _ => rfl) rfl rfl rfl (by decide) hl.1 rfl rfl (Nat.le_of_ble_eq_true rfl) dX4_newShore_33 (by decide) (fun r_17 u_18 H locs hw_19 hP hD hS => ?_)
    replace hw_19 : r_17 = f2_ (uk_ w 5) (f2_ (uk_ q 1) (ob_ v 0 99)) ∧ u_18 = rfx_ rf (f2_ (uk_ w 5) (f2_ (uk_ q 1) (ob_ v 0 99))) := hw_19
    obtain ⟨hw_19a, hw_19b⟩ := hw_19
    subst r_17
    subst u_18
    replace hP : va_P D vwCl (xO g hi tc ++ miO g ++ bW cI g 4 B ++ bW cI g 10 T ++ rW cI g (rfx_ rf (f2_ (uk_ w 5) (f2_ (uk_ q 1) (ob_ v 0 99))))) H := (va_P.m [true, false, false, false, false, false, false, false, false, false, false, false, false, false, true] [] hP)
    replace hD : va_D A (xO g hi tc ++ miO g ++ bW cI g 4 B ++ bW cI g 10 T ++ rW cI g (rfx_ rf (f2_ (uk_ w 5) (f2_ (uk_ q 1) (ob_ v 0 99))))) := (va_D.m [true, false, false, false, false, false, false, false, false, false, false, false, false, false, true] [] hD)
    refine rMi hx hb hr hlk hS (T, (rfx_ rf (f2_ (uk_ w 5) (f2_ (uk_ q 1) (ob_ v 0 99))))) hP ?_ dX4_newShore_36
    first | exact ⟨(if_neg c_27).symm, rfl⟩ | (refine ⟨?_, rfx_0 c_27⟩; rw [if_pos c_27]; (try simp only [tn_n (show v_ < 2147483648 by omega)]); first | done | (unfold npX_; first | (rw [if_pos c_49, hL]; rfl) | (rw [if_neg c_49, hL]; done) | (rw [if_neg c_49, hL]; rfl)))

theorem okX4_treaty : jok yX4_treaty wsX4_treaty cX4_treaty 5 (some .int) 3 := ⟨⟨_, rfl⟩, by decide +kernel, by decide +kernel⟩
set_option maxHeartbeats 1000000 in
set_option maxRecDepth 100000 in
theorem qX4_treaty (l : Launch) (D : va_G) (cI cB : ClassId) (g : Nat → Nat) (hi : Int32) (tc : Nat) (B : BayT) (T : BayT) (rf : Nat → Int32) (f1 : Nat → Int32) (f2 : Nat → Int32) (a : Int32) (b : Int32) (q : Int32) (hn7 : sn_ B ≤ 7) : jMi D cI cB l yX4_treaty wsX4_treaty 7 [.ref (g 0), .int a, .int b, .int q] (xO g hi tc ++ miO g ++ bW cI g 4 B ++ bW cI g 10 T ++ rW cI g rf ++ [(g 2, .inl (cI, 4, .inl f1))] ++ [(g 3, .inl (cI, 4, .inl f2))]) (S := BayT × (Nat → Int32) × (Nat → Int32) × (Nat → Int32)) (fun r u => r = (if wTr_ (sn_ B) a b q = 0 then trX_ B (tn_ a) (tn_ b) q else wTr_ (sn_ B) a b q) ∧ u.2.1 = rfx_ rf (wTr_ (sn_ B) a b q)) (fun u => xO g hi tc ++ miO g ++ bW cI g 4 B ++ bW cI g 10 u.1 ++ rW cI g u.2.1 ++ [(g 2, .inl (cI, 4, .inl u.2.2.1))] ++ [(g 3, .inl (cI, 4, .inl u.2.2.2))]) := by
  refine jMi.of (cc := cX4_treaty) (maxL := 5) (ret := (some .int)) okX4_treaty (Nat.le_of_ble_eq_true rfl) ?_
  intro p e s m below meth c ls A hx hb hr hts hown hlk hml hP hK hD hA hS hl
  replace hown : s.vm.findClass RX4 = some m.cls := hown
  replace hl : lv_has ls 5 [(0, .ref (g 0)), (1, .int a), (2, .int b), (3, .int q)] := hl
  have hinX0 : ∀ w ∈ wsX00, w ∈ wsX4_treaty := by decide +kernel
  have hinX4 : ∀ w ∈ wsX40, w ∈ wsX4_treaty := by decide +kernel
  refine lv_iload_n hx hb dX4_treaty_0 rfl (lv_at hl 1 rfl) ?_
  refine lv_aload_n hx hb dX4_treaty_1 rfl (lv_at hl 0 rfl) ?_
  refine va_get (ci := 4) (C := RX4) (T := TX4) (N := 9) hx hb hts hinX4 hown hK.1 hP 0 rfl rfl 1 (by decide) (hts _ (List.mem_of_getElem? (i := 1) rfl)) (fun _ h9 => h9) rfl dX4_treaty_2 ?_
  refine va_getN (ci := 0) (C := RX0) (T := TX0) (N := 11) hx hb hts hinX0 hown hK.1 hP 2 rfl rfl 6 (by decide) (va_Nw.use rfl (hK.2 _ (List.mem_of_getElem? (i := 13) rfl))) (fun _ h9 => h9) rfl dX4_treaty_5 ?_
  refine kSiS hx hb hml hown hts hK hP gX4_treaty_X4_nobody okX4_nobody (qX4_nobody l D cI cB a (nI (sn_ B)) ) [] rfl (by decide) hl.1 rfl rfl (Nat.le_of_ble_eq_true rfl) dX4_treaty_8 (by decide) (fun r_1 hr_2 => ?_)
  replace hr_2 : r_1 = nb_ a (nI (sn_ B)) := hr_2
  subst r_1
  refine lv_iload_n hx hb dX4_treaty_11 rfl (lv_at hl 2 rfl) ?_
  refine lv_aload_n hx hb dX4_treaty_12 rfl (lv_at hl 0 rfl) ?_
  refine va_get (ci := 4) (C := RX4) (T := TX4) (N := 9) hx hb hts hinX4 hown hK.1 hP 0 rfl rfl 1 (by decide) (hts _ (List.mem_of_getElem? (i := 1) rfl)) (fun _ h9 => h9) rfl dX4_treaty_13 ?_
  refine va_getN (ci := 0) (C := RX0) (T := TX0) (N := 11) hx hb hts hinX0 hown hK.1 hP 2 rfl rfl 6 (by decide) (va_Nw.use rfl (hK.2 _ (List.mem_of_getElem? (i := 13) rfl))) (fun _ h9 => h9) rfl dX4_treaty_16 ?_
  refine kSiS hx hb hml hown hts hK hP gX4_treaty_X4_nobody okX4_nobody (qX4_nobody l D cI cB b (nI (sn_ B)) ) [] rfl (by decide) hl.1 rfl rfl (Nat.le_of_ble_eq_true rfl) dX4_treaty_19 (by decide) (fun r_3 hr_4 => ?_)
  replace hr_4 : r_3 = nb_ b (nI (sn_ B)) := hr_4
  subst r_3
  refine kSiS hx hb hml hown hts hK hP gX4_treaty_X4_firstOf okX4_firstOf (qX4_firstOf l D cI cB (nb_ a (nI (sn_ B))) (nb_ b (nI (sn_ B))) ) [] rfl (by decide) hl.1 rfl rfl (Nat.le_of_ble_eq_true rfl) dX4_treaty_22 (by decide) (fun r_5 hr_6 => ?_)
  replace hr_6 : r_5 = f2_ (nb_ a (nI (sn_ B))) (nb_ b (nI (sn_ B))) := hr_6
  subst r_5
  refine lv_istore (lv' := [(4, .int (f2_ (nb_ a (nI (sn_ B))) (nb_ b (nI (sn_ B))))), (0, .ref (g 0)), (1, .int a), (2, .int b), (3, .int q)]) hx hb dX4_treaty_25 hl (by decide) rfl (fun ls hl => ?_)
  have jn_43 : ∀   (y9 : Int32), (y9 = (if a = b then -1 else uk_ q 1)) → ∀ (H : Heap) (locs : List Loc), va_P D vwCl (xO g hi tc ++ miO g ++ bW cI g 4 B ++ bW cI g 10 T ++ rW cI g rf ++ [(g 2, .inl (cI, 4, .inl f1))] ++ [(g 3, .inl (cI, 4, .inl f2))]) H → va_D A (xO g hi tc ++ miO g ++ bW cI g 4 B ++ bW cI g 10 T ++ rW cI g rf ++ [(g 2, .inl (cI, 4, .inl f1))] ++ [(g 3, .inl (cI, 4, .inl f2))]) → va_S A s.heap H locs → ∀ ls : Array Slot, lv_has ls 5 [(4, .int (f2_ (nb_ a (nI (sn_ B))) (nb_ b (nI (sn_ B))))), (0, .ref (g 0)), (1, .int a), (2, .int b), (3, .int q)] → W p l e (jR 7) s m ([.ref (g 0), .int a, .int b, .int q] : List Value).toArray below meth c H locs 0 0 (MQ below (va_Qi (S := BayT × (Nat → Int32) × (Nat → Int32) × (Nat → Int32)) (fun r u => r = (if wTr_ (sn_ B) a b q = 0 then trX_ B (tn_ a) (tn_ b) q else wTr_ (sn_ B) a b q) ∧ u.2.1 = rfx_ rf (wTr_ (sn_ B) a b q)) (fun u t => va_P D vwCl ((fun u => xO g hi tc ++ miO g ++ bW cI g 4 B ++ bW cI g 10 u.1 ++ rW cI g u.2.1 ++ [(g 2, .inl (cI, 4, .inl u.2.2.1))] ++ [(g 3, .inl (cI, 4, .inl u.2.2.2))]) u) t.heap) A) ([.ref (g 0), .int a, .int b, .int q] : List Value).toArray s 0 0 A) (F0 m 43 ls [.int y9, .int (f2_ (nb_ a (nI (sn_ B))) (nb_ b (nI (sn_ B))))]) := by
      intro y9 hy9 H locs hP hD hS ls hl
      subst y9
      replace hl : lv_has ls 5 [(4, .int (f2_ (nb_ a (nI (sn_ B))) (nb_ b (nI (sn_ B))))), (0, .ref (g 0)), (1, .int a), (2, .int b), (3, .int q)] := hl
      replace hP : va_P D vwCl (xO g hi tc ++ miO g ++ bW cI g 4 B ++ bW cI g 10 T ++ rW cI g rf ++ [(g 2, .inl (cI, 4, .inl f1))] ++ [(g 3, .inl (cI, 4, .inl f2))]) H := hP
      replace hD : va_D A (xO g hi tc ++ miO g ++ bW cI g 4 B ++ bW cI g 10 T ++ rW cI g rf ++ [(g 2, .inl (cI, 4, .inl f1))] ++ [(g 3, .inl (cI, 4, .inl f2))]) := hD
      refine kSiS hx hb hml hown hts hK hP gX4_treaty_X4_firstOf okX4_firstOf (qX4_firstOf l D cI cB (f2_ (nb_ a (nI (sn_ B))) (nb_ b (nI (sn_ B)))) (if a = b then -1 else uk_ q 1) ) [] rfl (by decide) hl.1 rfl rfl (Nat.le_of_ble_eq_true rfl) dX4_treaty_43 (by decide) (fun r_7 hr_8 => ?_)
      replace hr_8 : r_7 = f2_ (f2_ (nb_ a (nI (sn_ B))) (nb_ b (nI (sn_ B)))) (if a = b then -1 else uk_ q 1) := hr_8
      subst r_7
      refine lv_istore (lv' := [(4, .int (f2_ (f2_ (nb_ a (nI (sn_ B))) (nb_ b (nI (sn_ B)))) (if a = b then -1 else uk_ q 1))), (0, .ref (g 0)), (1, .int a), (2, .int b), (3, .int q)]) hx hb dX4_treaty_46 hl (by decide) rfl (fun ls hl => ?_)
      refine lv_iload hx hb dX4_treaty_48 (lv_at hl 0 rfl) ?_
      refine lv_if_eq (tgt := 60) hx hb dX4_treaty_50 (by decide) (fun c_50 => ?_) (fun c_50 => ?_)
      · skip
        have w0 := c_50
        simp only [wS_, wSN_, wSNW_, wNW_, wTh_, f2_0, nb_0, ob_0, uk_0, lo_0, hi_0] at w0
        obtain ⟨a_, ha_, rfl⟩ := pl_lt (n := sn_ B) (by omega) w0.1.1
        obtain ⟨b_, hb_, rfl⟩ := pl_lt (n := sn_ B) (by omega) w0.1.2
        replace hl : lv_has ls 5 [(4, .int (f2_ (f2_ (nb_ (nI a_) (nI (sn_ B))) (nb_ (nI b_) (nI (sn_ B)))) (if (nI a_) = (nI b_) then -1 else uk_ q 1))), (0, .ref (g 0)), (1, .int (nI a_)), (2, .int (nI b_)), (3, .int q)] := hl
        refine lv_aload_n hx hb dX4_treaty_60 rfl (lv_at hl 1 rfl) ?_
        refine va_get (ci := 4) (C := RX4) (T := TX4) (N := 9) hx hb hts hinX4 hown hK.1 hP 0 rfl rfl 0 (by decide) (hts _ (List.mem_of_getElem? (i := 2) rfl)) (fun _ h9 => h9) rfl dX4_treaty_61 ?_
        refine lv_iload_n hx hb dX4_treaty_64 rfl (lv_at hl 2 rfl) ?_
        refine lv_iload_n hx hb dX4_treaty_65 rfl (lv_at hl 3 rfl) ?_
        refine kMvN hx hb hml hown hts hK hP hD hA hS gX4_treaty_X2_weighTreaty_n314 (hK.2 _ (List.mem_of_getElem? (i := 108) rfl)) (hts _ (List.mem_of_getElem? (i := 19) rfl)) (hts _ (List.mem_of_getElem? (i := 18) rfl)) (hts _ (List.mem_of_getElem? (i := 20) rfl)) okX2_weighTreaty (qX2_weighTreaty l D cI cB g B T f1 f2 a_ b_ (by show sn_ B ≤ 7; omega) (by omega) (by omega)) [1, 2, 3, 4, 5, 6, 7, 8, 9, 10, 11, 12, 13, 15, 16] rfl (by decide) (fun _ => rfl) rfl rfl rfl (by decide) hl.1 rfl rfl (Nat.le_of_ble_eq_true rfl) dX4_treaty_66 (by decide) (fun u_10 H locs hw_11 hP hD hS => ?_)
        replace hP : va_P D vwCl (xO g hi tc ++ miO g ++ bW cI g 4 B ++ bW cI g 10 u_10 ++ rW cI g rf ++ [(g 2, .inl (cI, 4, .inl (fun j => tc_ (tt_ B a_ b_ j) a_ 12)))] ++ [(g 3, .inl (cI, 4, .inl (fun j => tc_ (tt_ B a_ b_ j) b_ 12)))]) H := (va_P.m [false, true, true, true, true, true, true, true, true, true, true, true, true, true, false, true, true] [] hP)
        replace hD : va_D A (xO g hi tc ++ miO g ++ bW cI g 4 B ++ bW cI g 10 u_10 ++ rW cI g rf ++ [(g 2, .inl (cI, 4, .inl (fun j => tc_ (tt_ B a_ b_ j) a_ 12)))] ++ [(g 3, .inl (cI, 4, .inl (fun j => tc_ (tt_ B a_ b_ j) b_ 12)))]) := (va_D.m [false, true, true, true, true, true, true, true, true, true, true, true, true, true, false, true, true] [] hD)
        refine lv_iload_n hx hb dX4_treaty_69 rfl (lv_at hl 4 rfl) ?_
        refine lv_iconst (v := 1) hx hb dX4_treaty_70 (by decide) ?_
        refine lv_icmp_ne (tgt := 91) hx hb dX4_treaty_71 (by decide) (fun c_71 => ?_) (fun c_71 => ?_)
        · skip
          refine lv_aload_n hx hb dX4_treaty_91 rfl (lv_at hl 1 rfl) ?_
          refine va_get (ci := 4) (C := RX4) (T := TX4) (N := 9) hx hb hts hinX4 hown hK.1 hP 0 rfl rfl 0 (by decide) (hts _ (List.mem_of_getElem? (i := 2) rfl)) (fun _ h9 => h9) rfl dX4_treaty_92 ?_
          refine kSiN hx hb hml hown hts hK hP gX4_treaty_X2_firstSettled_n320 (hK.2 _ (List.mem_of_getElem? (i := 111) rfl)) (hts _ (List.mem_of_getElem? (i := 19) rfl)) (hts _ (List.mem_of_getElem? (i := 124) rfl)) (hts _ (List.mem_of_getElem? (i := 125) rfl)) okX2_firstSettled (qX2_firstSettled l D cI cB g (fun j => tc_ (tt_ B a_ b_ j) a_ 12) (fun j => tc_ (tt_ B a_ b_ j) b_ 12) ) [1, 15, 16] rfl rfl rfl rfl (by decide) hl.1 rfl rfl (Nat.le_of_ble_eq_true rfl) dX4_treaty_95 (by decide) (fun r_12 hr_13 => ?_)
          replace hr_13 : r_12 = vs_ (fz_ (fun j => tc_ (tt_ B a_ b_ j) a_ 12) (fun j => tc_ (tt_ B a_ b_ j) b_ 12) 4 0) := hr_13
          subst r_12
          refine rMi hx hb hr hlk hS (u_10, rf, (fun j => tc_ (tt_ B a_ b_ j) a_ 12), (fun j => tc_ (tt_ B a_ b_ j) b_ 12)) hP ?_ dX4_treaty_98
          first | exact ⟨(if_neg c_50).symm, rfl⟩ | (refine ⟨?_, rfx_0 c_50⟩; rw [if_pos (show wTr_ _ _ _ _ = 0 from c_50)]; simp only [tn_n (show a_ < 2147483648 by omega), tn_n (show b_ < 2147483648 by omega)]; unfold trX_; first | (rw [if_pos c_71]; first | exact (b1_t c_82).symm | exact (b1_f c_82).symm) | (rw [if_neg c_71]; done))
        · skip
          refine lv_aload_n hx hb dX4_treaty_74 rfl (lv_at hl 1 rfl) ?_
          refine va_get (ci := 4) (C := RX4) (T := TX4) (N := 9) hx hb hts hinX4 hown hK.1 hP 0 rfl rfl 0 (by decide) (hts _ (List.mem_of_getElem? (i := 2) rfl)) (fun _ h9 => h9) rfl dX4_treaty_75 ?_
          refine lv_iconst (v := 0) hx hb dX4_treaty_78 (by decide) ?_
          refine kSiN hx hb hml hown hts hK hP gX4_treaty_X2_isSettled_n317 (hK.2 _ (List.mem_of_getElem? (i := 110) rfl)) (hts _ (List.mem_of_getElem? (i := 19) rfl)) (hts _ (List.mem_of_getElem? (i := 121) rfl)) (hts _ (List.mem_of_getElem? (i := 122) rfl)) okX2_isSettled (qX2_isSettled l D cI cB g (fun j => tc_ (tt_ B a_ b_ j) a_ 12) (fun j => tc_ (tt_ B a_ b_ j) b_ 12) 0 (by omega)) [1, 15, 16] rfl rfl rfl rfl (by decide) hl.1 rfl rfl (Nat.le_of_ble_eq_true rfl) dX4_treaty_79 (by decide) (fun r_14 hr_15 => ?_)
          replace hr_15 : r_14 = b1 (tp_ (fun j => tc_ (tt_ B a_ b_ j) a_ 12) (fun j => tc_ (tt_ B a_ b_ j) b_ 12) 0) := hr_15
          subst r_14
          refine lv_if_eq (tgt := 89) hx hb dX4_treaty_82 (by decide) (fun c_82 => ?_) (fun c_82 => ?_)
          · replace c_82 := b1_z c_82
            refine lv_iconst (v := 0) hx hb dX4_treaty_89 (by decide) ?_
            refine rMi hx hb hr hlk hS (u_10, rf, (fun j => tc_ (tt_ B a_ b_ j) a_ 12), (fun j => tc_ (tt_ B a_ b_ j) b_ 12)) hP ?_ dX4_treaty_90
            first | exact ⟨(if_neg c_50).symm, rfl⟩ | (refine ⟨?_, rfx_0 c_50⟩; rw [if_pos (show wTr_ _ _ _ _ = 0 from c_50)]; simp only [tn_n (show a_ < 2147483648 by omega), tn_n (show b_ < 2147483648 by omega)]; unfold trX_; first | (rw [if_pos c_71]; first | exact (b1_t c_82).symm | exact (b1_f c_82).symm) | (rw [if_neg c_71]; done))
          · replace c_82 := b1_n c_82
            refine lv_iconst (v := 1) hx hb dX4_treaty_85 (by decide) ?_
            refine lv_goto (tgt := 90) hx hb dX4_treaty_86 (by decide) ?_
            refine rMi hx hb hr hlk hS (u_10, rf, (fun j => tc_ (tt_ B a_ b_ j) a_ 12), (fun j => tc_ (tt_ B a_ b_ j) b_ 12)) hP ?_ dX4_treaty_90
            first | exact ⟨(if_neg c_50).symm, rfl⟩ | (refine ⟨?_, rfx_0 c_50⟩; rw [if_pos (show wTr_ _ _ _ _ = 0 from c_50)]; simp only [tn_n (show a_ < 2147483648 by omega), tn_n (show b_ < 2147483648 by omega)]; unfold trX_; first | (rw [if_pos c_71]; first | exact (b1_t c_82).symm | exact (b1_f c_82).symm) | (rw [if_neg c_71]; done))
      · skip
        refine lv_aload_n hx hb dX4_treaty_53 rfl (lv_at hl 1 rfl) ?_
        refine lv_iload hx hb dX4_treaty_54 (lv_at hl 0 rfl) ?_
        refine kMiV hx hb hml hown hts hK hP hD hA hS gX4_treaty_X4_refuse okX4_refuse (qX4_refuse l D cI cB g hi tc rf (f2_ (f2_ (nb_ a (nI (sn_ B))) (nb_ b (nI (sn_ B)))) (if a = b then -1 else uk_ q 1)) (rc0_n (by first | exact rc0_wS _ _ | exact rc0_wSN _ _ _ | exact rc0_wSNW _ _ _ _ | exact rc0_wNW _ _ | exact rc0_wTh _ _ _ _ _ | exact rc0_nb _ _ | exact rc0_uk _ _ | exact rc0_ob _ _ _ | exact rc0_f2 (rc0_nb _ _) (rc0_nb _ _) | exact rc0_f2 (rc0_nb _ _) (rc0_uk _ _) | exact rc0_f2 (rc0_ob _ _ _) (rc0_uk _ _) | exact rc0_f2 (rc0_uk _ _) (rc0_f2 (rc0_uk _ _) (rc0_ob _ _ _)) | exact rc0_f2 (rc0_f2 (rc0_nb _ _) (rc0_nb _ _)) (rc0_if (Or.inr (Or.inl rfl)) (rc0_uk _ _))) c_50)) [0, 14] rfl (by decide) (fun _ => rfl) rfl rfl rfl (by decide) hl.1 rfl rfl (Nat.le_of_ble_eq_true rfl) dX4_treaty_56 (by decide) (fun r_16 u_17 H locs hw_18 hP hD hS => ?_)
        replace hw_18 : r_16 = f2_ (f2_ (nb_ a (nI (sn_ B))) (nb_ b (nI (sn_ B)))) (if a = b then -1 else uk_ q 1) ∧ u_17 = rfx_ rf (f2_ (f2_ (nb_ a (nI (sn_ B))) (nb_ b (nI (sn_ B)))) (if a = b then -1 else uk_ q 1)) := hw_18
        obtain ⟨hw_18a, hw_18b⟩ := hw_18
        subst r_16
        subst u_17
        replace hP : va_P D vwCl (xO g hi tc ++ miO g ++ bW cI g 4 B ++ bW cI g 10 T ++ rW cI g (rfx_ rf (f2_ (f2_ (nb_ a (nI (sn_ B))) (nb_ b (nI (sn_ B)))) (if a = b then -1 else uk_ q 1))) ++ [(g 2, .inl (cI, 4, .inl f1))] ++ [(g 3, .inl (cI, 4, .inl f2))]) H := (va_P.m [true, false, false, false, false, false, false, false, false, false, false, false, false, false, true] [] hP)
        replace hD : va_D A (xO g hi tc ++ miO g ++ bW cI g 4 B ++ bW cI g 10 T ++ rW cI g (rfx_ rf (f2_ (f2_ (nb_ a (nI (sn_ B))) (nb_ b (nI (sn_ B)))) (if a = b then -1 else uk_ q 1))) ++ [(g 2, .inl (cI, 4, .inl f1))] ++ [(g 3, .inl (cI, 4, .inl f2))]) := (va_D.m [true, false, false, false, false, false, false, false, false, false, false, false, false, false, true] [] hD)
        refine rMi hx hb hr hlk hS (T, (rfx_ rf (f2_ (f2_ (nb_ a (nI (sn_ B))) (nb_ b (nI (sn_ B)))) (if a = b then -1 else uk_ q 1))), f1, f2) hP ?_ dX4_treaty_59
        first | exact ⟨(if_neg c_50).symm, rfl⟩ | (refine ⟨?_, rfx_0 c_50⟩; rw [if_pos (show wTr_ _ _ _ _ = 0 from c_50)]; simp only [tn_n (show a_ < 2147483648 by omega), tn_n (show b_ < 2147483648 by omega)]; unfold trX_; first | (rw [if_pos c_71]; first | exact (b1_t c_82).symm | exact (b1_f c_82).symm) | (rw [if_neg c_71]; done))
  refine lv_iload hx hb dX4_treaty_27 (lv_at hl 0 rfl) ?_
  refine lv_iload_n hx hb dX4_treaty_29 rfl (lv_at hl 2 rfl) ?_
  refine lv_iload_n hx hb dX4_treaty_30 rfl (lv_at hl 3 rfl) ?_
  refine lv_icmp_ne (tgt := 38) hx hb dX4_treaty_31 (by decide) (fun c_31 => ?_) (fun c_31 => ?_)
  · skip
    refine lv_iload_n hx hb dX4_treaty_38 rfl (lv_at hl 4 rfl) ?_
    refine lv_iconst (v := 1) hx hb dX4_treaty_39 (by decide) ?_
    refine kSiS hx hb hml hown hts hK hP gX4_treaty_X4_unknown okX4_unknown (qX4_unknown l D cI cB q 1 ) [] rfl (by decide) hl.1 rfl rfl (Nat.le_of_ble_eq_true rfl) dX4_treaty_40 (by decide) (fun r_19 hr_20 => ?_)
    replace hr_20 : r_19 = uk_ q 1 := hr_20
    subst r_19
    exact jn_43   (uk_ q 1) (by first | exact (if_pos (by assumption)).symm | exact (if_neg (by assumption)).symm)   _ _ hP hD hS ls (lv_sub hl [0, 1, 2, 3, 4] rfl)
  · skip
    refine lv_iconst (v := (-1)) hx hb dX4_treaty_34 (by decide) ?_
    refine lv_goto (tgt := 43) hx hb dX4_treaty_35 (by decide) ?_
    exact jn_43   (-1) (by first | exact (if_pos (by assumption)).symm | exact (if_neg (by assumption)).symm)   _ _ hP hD hS ls (lv_sub hl [0, 1, 2, 3, 4] rfl)

theorem okX4_thunder : jok yX4_thunder wsX4_thunder cX4_thunder 11 (some .long) 4 := ⟨⟨_, rfl⟩, by decide +kernel, by decide +kernel⟩
set_option maxHeartbeats 1000000 in
set_option maxRecDepth 100000 in
theorem qX4_thunder (l : Launch) (D : va_G) (cI cB : ClassId) (g : Nat → Nat) (hi : Int32) (tc : Nat) (B : BayT) (T : BayT) (rf : Nat → Int32) (a : Int32) (v : Int32) (t_9 : Int32) (p_9 : Int32) (hn7 : sn_ B ≤ 7) : jMl D cI cB l yX4_thunder wsX4_thunder 5 [.ref (g 0), .int a, .int v, .int t_9, .int p_9] (xO g hi tc ++ miO g ++ bW cI g 4 B ++ bW cI g 10 T ++ rW cI g rf) (S := BayT × (Nat → Int32)) (fun r u => r = (if wTh_ (sn_ B) a v t_9 p_9 = 0 then it_ (wy_ B (tn_ a) (tn_ v) t_9 (p2_ (tn_ v))) (pw_l t_9.toInt64 (tn_ v)) p_9 else lref_ (wTh_ (sn_ B) a v t_9 p_9)) ∧ u.2 = rfx_ rf (wTh_ (sn_ B) a v t_9 p_9)) (fun u => xO g hi tc ++ miO g ++ bW cI g 4 B ++ bW cI g 10 u.1 ++ rW cI g u.2) := by
  refine jMl.of (cc := cX4_thunder) (maxL := 11) (ret := (some .long)) okX4_thunder (Nat.le_of_ble_eq_true rfl) ?_
  intro p e s m below meth c ls A hx hb hr hts hown hlk hml hP hK hD hA hS hl
  replace hown : s.vm.findClass RX4 = some m.cls := hown
  replace hl : lv_has ls 11 [(0, .ref (g 0)), (1, .int a), (2, .int v), (3, .int t_9), (4, .int p_9)] := hl
  have hinX0 : ∀ w ∈ wsX00, w ∈ wsX4_thunder := by decide +kernel
  have hinX4 : ∀ w ∈ wsX40, w ∈ wsX4_thunder := by decide +kernel
  refine lv_iload_n hx hb dX4_thunder_0 rfl (lv_at hl 2 rfl) ?_
  refine lv_iconst (v := 0) hx hb dX4_thunder_1 (by decide) ?_
  refine kSiS hx hb hml hown hts hK hP gX4_thunder_X4_below okX4_below (qX4_below l D cI cB v 0 ) [] rfl (by decide) hl.1 rfl rfl (Nat.le_of_ble_eq_true rfl) dX4_thunder_2 (by decide) (fun r_1 hr_2 => ?_)
  replace hr_2 : r_1 = if v < 0 then -4 else 0 := hr_2
  subst r_1
  refine lv_iload_n hx hb dX4_thunder_5 rfl (lv_at hl 3 rfl) ?_
  refine lv_iconst (v := 2) hx hb dX4_thunder_6 (by decide) ?_
  refine kSiS hx hb hml hown hts hK hP gX4_thunder_X4_below okX4_below (qX4_below l D cI cB t_9 2 ) [] rfl (by decide) hl.1 rfl rfl (Nat.le_of_ble_eq_true rfl) dX4_thunder_7 (by decide) (fun r_3 hr_4 => ?_)
  replace hr_4 : r_3 = if t_9 < 2 then -4 else 0 := hr_4
  subst r_3
  refine kSiS hx hb hml hown hts hK hP gX4_thunder_X4_firstOf okX4_firstOf (qX4_firstOf l D cI cB (if v < 0 then -4 else 0) (if t_9 < 2 then -4 else 0) ) [] rfl (by decide) hl.1 rfl rfl (Nat.le_of_ble_eq_true rfl) dX4_thunder_10 (by decide) (fun r_5 hr_6 => ?_)
  replace hr_6 : r_5 = f2_ (if v < 0 then -4 else 0) (if t_9 < 2 then -4 else 0) := hr_6
  subst r_5
  refine lv_istore (lv' := [(5, .int (f2_ (if v < 0 then -4 else 0) (if t_9 < 2 then -4 else 0))), (0, .ref (g 0)), (1, .int a), (2, .int v), (3, .int t_9), (4, .int p_9)]) hx hb dX4_thunder_13 hl (by decide) rfl (fun ls hl => ?_)
  refine lv_iload_n hx hb dX4_thunder_15 rfl (lv_at hl 3 rfl) ?_
  refine lv_bipush (v := 7) hx hb dX4_thunder_16 (by decide) ?_
  refine kSiS hx hb hml hown hts hK hP gX4_thunder_X4_above okX4_above (qX4_above l D cI cB v 7 ) [] rfl (by decide) hl.1 rfl rfl (Nat.le_of_ble_eq_true rfl) dX4_thunder_18 (by decide) (fun r_7 hr_8 => ?_)
  replace hr_8 : r_7 = if 7 < v then -6 else 0 := hr_8
  subst r_7
  refine lv_iload_n hx hb dX4_thunder_21 rfl (lv_at hl 4 rfl) ?_
  refine lv_bipush (v := 20) hx hb dX4_thunder_22 (by decide) ?_
  refine kSiS hx hb hml hown hts hK hP gX4_thunder_X4_above okX4_above (qX4_above l D cI cB t_9 20 ) [] rfl (by decide) hl.1 rfl rfl (Nat.le_of_ble_eq_true rfl) dX4_thunder_24 (by decide) (fun r_9 hr_10 => ?_)
  replace hr_10 : r_9 = if 20 < t_9 then -6 else 0 := hr_10
  subst r_9
  refine kSiS hx hb hml hown hts hK hP gX4_thunder_X4_firstOf okX4_firstOf (qX4_firstOf l D cI cB (if 7 < v then -6 else 0) (if 20 < t_9 then -6 else 0) ) [] rfl (by decide) hl.1 rfl rfl (Nat.le_of_ble_eq_true rfl) dX4_thunder_27 (by decide) (fun r_11 hr_12 => ?_)
  replace hr_12 : r_11 = f2_ (if 7 < v then -6 else 0) (if 20 < t_9 then -6 else 0) := hr_12
  subst r_11
  refine lv_istore (lv' := [(6, .int (f2_ (if 7 < v then -6 else 0) (if 20 < t_9 then -6 else 0))), (5, .int (f2_ (if v < 0 then -4 else 0) (if t_9 < 2 then -4 else 0))), (0, .ref (g 0)), (1, .int a), (2, .int v), (3, .int t_9), (4, .int p_9)]) hx hb dX4_thunder_30 hl (by decide) rfl (fun ls hl => ?_)
  refine lv_iload_n hx hb dX4_thunder_32 rfl (lv_at hl 3 rfl) ?_
  refine lv_aload_n hx hb dX4_thunder_33 rfl (lv_at hl 2 rfl) ?_
  refine va_get (ci := 4) (C := RX4) (T := TX4) (N := 9) hx hb hts hinX4 hown hK.1 hP 0 rfl rfl 1 (by decide) (hts _ (List.mem_of_getElem? (i := 1) rfl)) (fun _ h9 => h9) rfl dX4_thunder_34 ?_
  refine va_getN (ci := 0) (C := RX0) (T := TX0) (N := 11) hx hb hts hinX0 hown hK.1 hP 2 rfl rfl 6 (by decide) (va_Nw.use rfl (hK.2 _ (List.mem_of_getElem? (i := 13) rfl))) (fun _ h9 => h9) rfl dX4_thunder_37 ?_
  refine kSiS hx hb hml hown hts hK hP gX4_thunder_X4_nobody okX4_nobody (qX4_nobody l D cI cB a (nI (sn_ B)) ) [] rfl (by decide) hl.1 rfl rfl (Nat.le_of_ble_eq_true rfl) dX4_thunder_40 (by decide) (fun r_13 hr_14 => ?_)
  replace hr_14 : r_13 = nb_ a (nI (sn_ B)) := hr_14
  subst r_13
  refine lv_iload hx hb dX4_thunder_43 (lv_at hl 1 rfl) ?_
  refine kSiS hx hb hml hown hts hK hP gX4_thunder_X4_firstOf okX4_firstOf (qX4_firstOf l D cI cB (nb_ a (nI (sn_ B))) (f2_ (if v < 0 then -4 else 0) (if t_9 < 2 then -4 else 0)) ) [] rfl (by decide) hl.1 rfl rfl (Nat.le_of_ble_eq_true rfl) dX4_thunder_45 (by decide) (fun r_15 hr_16 => ?_)
  replace hr_16 : r_15 = f2_ (nb_ a (nI (sn_ B))) (f2_ (if v < 0 then -4 else 0) (if t_9 < 2 then -4 else 0)) := hr_16
  subst r_15
  refine lv_iload hx hb dX4_thunder_48 (lv_at hl 0 rfl) ?_
  refine lv_iload hx hb dX4_thunder_50 (lv_at hl 6 rfl) ?_
  refine lv_iconst (v := 1) hx hb dX4_thunder_52 (by decide) ?_
  refine kSiS hx hb hml hown hts hK hP gX4_thunder_X4_unknown okX4_unknown (qX4_unknown l D cI cB p_9 1 ) [] rfl (by decide) hl.1 rfl rfl (Nat.le_of_ble_eq_true rfl) dX4_thunder_53 (by decide) (fun r_17 hr_18 => ?_)
  replace hr_18 : r_17 = uk_ p_9 1 := hr_18
  subst r_17
  refine kSiS hx hb hml hown hts hK hP gX4_thunder_X4_firstOf okX4_firstOf (qX4_firstOf l D cI cB (f2_ (if 7 < v then -6 else 0) (if 20 < t_9 then -6 else 0)) (uk_ p_9 1) ) [] rfl (by decide) hl.1 rfl rfl (Nat.le_of_ble_eq_true rfl) dX4_thunder_56 (by decide) (fun r_19 hr_20 => ?_)
  replace hr_20 : r_19 = f2_ (f2_ (if 7 < v then -6 else 0) (if 20 < t_9 then -6 else 0)) (uk_ p_9 1) := hr_20
  subst r_19
  refine kSiS hx hb hml hown hts hK hP gX4_thunder_X4_firstOf okX4_firstOf (qX4_firstOf l D cI cB (f2_ (nb_ a (nI (sn_ B))) (f2_ (if v < 0 then -4 else 0) (if t_9 < 2 then -4 else 0))) (f2_ (f2_ (if 7 < v then -6 else 0) (if 20 < t_9 then -6 else 0)) (uk_ p_9 1)) ) [] rfl (by decide) hl.1 rfl rfl (Nat.le_of_ble_eq_true rfl) dX4_thunder_59 (by decide) (fun r_21 hr_22 => ?_)
  replace hr_22 : r_21 = f2_ (f2_ (nb_ a (nI (sn_ B))) (f2_ (if v < 0 then -4 else 0) (if t_9 < 2 then -4 else 0))) (f2_ (f2_ (if 7 < v then -6 else 0) (if 20 < t_9 then -6 else 0)) (uk_ p_9 1)) := hr_22
  subst r_21
  refine lv_istore (lv' := [(7, .int (f2_ (f2_ (nb_ a (nI (sn_ B))) (f2_ (if v < 0 then -4 else 0) (if t_9 < 2 then -4 else 0))) (f2_ (f2_ (if 7 < v then -6 else 0) (if 20 < t_9 then -6 else 0)) (uk_ p_9 1)))), (6, .int (f2_ (if 7 < v then -6 else 0) (if 20 < t_9 then -6 else 0))), (5, .int (f2_ (if v < 0 then -4 else 0) (if t_9 < 2 then -4 else 0))), (0, .ref (g 0)), (1, .int a), (2, .int v), (3, .int t_9), (4, .int p_9)]) hx hb dX4_thunder_62 hl (by decide) rfl (fun ls hl => ?_)
  refine lv_iload hx hb dX4_thunder_64 (lv_at hl 0 rfl) ?_
  refine lv_if_eq (tgt := 81) hx hb dX4_thunder_66 (by decide) (fun c_66 => ?_) (fun c_66 => ?_)
  · skip
    have w0 := c_66
    simp only [wS_, wSN_, wSNW_, wNW_, wTh_, f2_0, nb_0, ob_0, uk_0, lo_0, hi_0] at w0
    obtain ⟨a_, ha_, rfl⟩ := pl_lt (n := sn_ B) (by omega) w0.1.1
    obtain ⟨v_, hv_, rfl⟩ := pl_le (n := 7) (by decide) ⟨w0.1.2.1, w0.2.1.1⟩
    replace hl : lv_has ls 11 [(7, .int (f2_ (f2_ (nb_ (nI a_) (nI (sn_ B))) (f2_ (if (nI v_) < 0 then -4 else 0) (if t_9 < 2 then -4 else 0))) (f2_ (f2_ (if 7 < (nI v_) then -6 else 0) (if 20 < t_9 then -6 else 0)) (uk_ p_9 1)))), (6, .int (f2_ (if 7 < (nI v_) then -6 else 0) (if 20 < t_9 then -6 else 0))), (5, .int (f2_ (if (nI v_) < 0 then -4 else 0) (if t_9 < 2 then -4 else 0))), (0, .ref (g 0)), (1, .int (nI a_)), (2, .int (nI v_)), (3, .int t_9), (4, .int p_9)] := hl
    refine lv_lconst (v := 1) hx hb dX4_thunder_81 rfl ?_
    refine lv_lstore (lv' := [(8, .long 1), (7, .int (f2_ (f2_ (nb_ (nI a_) (nI (sn_ B))) (f2_ (if (nI v_) < 0 then -4 else 0) (if t_9 < 2 then -4 else 0))) (f2_ (f2_ (if 7 < (nI v_) then -6 else 0) (if 20 < t_9 then -6 else 0)) (uk_ p_9 1)))), (6, .int (f2_ (if 7 < (nI v_) then -6 else 0) (if 20 < t_9 then -6 else 0))), (5, .int (f2_ (if (nI v_) < 0 then -4 else 0) (if t_9 < 2 then -4 else 0))), (0, .ref (g 0)), (1, .int (nI a_)), (2, .int (nI v_)), (3, .int t_9), (4, .int p_9)]) hx hb dX4_thunder_82 hl (by decide) rfl (fun ls hl => ?_)
    refine lv_iconst (v := 0) hx hb dX4_thunder_84 (by decide) ?_
    refine lv_istore (lv' := [(10, .int 0), (8, .long 1), (7, .int (f2_ (f2_ (nb_ (nI a_) (nI (sn_ B))) (f2_ (if (nI v_) < 0 then -4 else 0) (if t_9 < 2 then -4 else 0))) (f2_ (f2_ (if 7 < (nI v_) then -6 else 0) (if 20 < t_9 then -6 else 0)) (uk_ p_9 1)))), (6, .int (f2_ (if 7 < (nI v_) then -6 else 0) (if 20 < t_9 then -6 else 0))), (5, .int (f2_ (if (nI v_) < 0 then -4 else 0) (if t_9 < 2 then -4 else 0))), (0, .ref (g 0)), (1, .int (nI a_)), (2, .int (nI v_)), (3, .int t_9), (4, .int p_9)]) hx hb dX4_thunder_85 hl (by decide) rfl (fun ls hl => ?_)
    have lp_87 : ∀ (fu_87 : Nat) (i : Nat) (x8_87 : Int64) (x10_87 : Int32) , (x8_87 = pw_l t_9.toInt64 i) → (x10_87 = nI i) → (i ≤ v_) → v_ - i < fu_87 → ∀ (H : Heap) (locs : List Loc), va_P D vwCl (xO g hi tc ++ miO g ++ bW cI g 4 B ++ bW cI g 10 T ++ rW cI g rf) H → va_D A (xO g hi tc ++ miO g ++ bW cI g 4 B ++ bW cI g 10 T ++ rW cI g rf) → va_S A s.heap H locs → ∀ ls : Array Slot, lv_has ls 11 [(10, .int x10_87), (8, .long x8_87), (7, .int (f2_ (f2_ (nb_ (nI a_) (nI (sn_ B))) (f2_ (if (nI v_) < 0 then -4 else 0) (if t_9 < 2 then -4 else 0))) (f2_ (f2_ (if 7 < (nI v_) then -6 else 0) (if 20 < t_9 then -6 else 0)) (uk_ p_9 1)))), (6, .int (f2_ (if 7 < (nI v_) then -6 else 0) (if 20 < t_9 then -6 else 0))), (5, .int (f2_ (if (nI v_) < 0 then -4 else 0) (if t_9 < 2 then -4 else 0))), (0, .ref (g 0)), (1, .int (nI a_)), (2, .int (nI v_)), (3, .int t_9), (4, .int p_9)] → W p l e (jR 5) s m ([.ref (g 0), .int (nI a_), .int (nI v_), .int t_9, .int p_9] : List Value).toArray below meth c H locs 0 0 (MQ below (va_Ql (S := BayT × (Nat → Int32)) (fun r u => r = (if wTh_ (sn_ B) (nI a_) (nI v_) t_9 p_9 = 0 then it_ (wy_ B (tn_ (nI a_)) (tn_ (nI v_)) t_9 (p2_ (tn_ (nI v_)))) (pw_l t_9.toInt64 (tn_ (nI v_))) p_9 else lref_ (wTh_ (sn_ B) (nI a_) (nI v_) t_9 p_9)) ∧ u.2 = rfx_ rf (wTh_ (sn_ B) (nI a_) (nI v_) t_9 p_9)) (fun u t => va_P D vwCl ((fun u => xO g hi tc ++ miO g ++ bW cI g 4 B ++ bW cI g 10 u.1 ++ rW cI g u.2) u) t.heap) A) ([.ref (g 0), .int (nI a_), .int (nI v_), .int t_9, .int p_9] : List Value).toArray s 0 0 A) (F0 m 87 ls []) := by
      intro fu_87
      induction fu_87 with
      | zero => intro i x8_87 x10_87 hx8_87 hx10_87 hi9 hfu; exact absurd hfu (Nat.not_lt_zero _)
      | succ fu_87 ih_87 =>
        intro i x8_87 x10_87 hx8_87 hx10_87 hi9 hfu_87 H locs hP hD hS ls hl
        subst x8_87
        subst x10_87
        replace hl : lv_has ls 11 [(10, .int (nI i)), (8, .long (pw_l t_9.toInt64 i)), (7, .int (f2_ (f2_ (nb_ (nI a_) (nI (sn_ B))) (f2_ (if (nI v_) < 0 then -4 else 0) (if t_9 < 2 then -4 else 0))) (f2_ (f2_ (if 7 < (nI v_) then -6 else 0) (if 20 < t_9 then -6 else 0)) (uk_ p_9 1)))), (6, .int (f2_ (if 7 < (nI v_) then -6 else 0) (if 20 < t_9 then -6 else 0))), (5, .int (f2_ (if (nI v_) < 0 then -4 else 0) (if t_9 < 2 then -4 else 0))), (0, .ref (g 0)), (1, .int (nI a_)), (2, .int (nI v_)), (3, .int t_9), (4, .int p_9)] := hl
        replace hP : va_P D vwCl (xO g hi tc ++ miO g ++ bW cI g 4 B ++ bW cI g 10 T ++ rW cI g rf) H := hP
        replace hD : va_D A (xO g hi tc ++ miO g ++ bW cI g 4 B ++ bW cI g 10 T ++ rW cI g rf) := hD
        refine lv_iload hx hb dX4_thunder_87 (lv_at hl 0 rfl) ?_
        refine lv_iload_n hx hb dX4_thunder_89 rfl (lv_at hl 7 rfl) ?_
        refine lv_icmp_ge (tgt := 106) hx hb dX4_thunder_90 (by decide) (fun c_90 => ?_) (fun c_90 => ?_)
        · replace c_90 : nI v_ ≤ nI i := c_90
          rw [jle (by omega) (by omega)] at c_90
          refine lv_aload_n hx hb dX4_thunder_106 rfl (lv_at hl 5 rfl) ?_
          refine va_get (ci := 4) (C := RX4) (T := TX4) (N := 9) hx hb hts hinX4 hown hK.1 hP 0 rfl rfl 0 (by decide) (hts _ (List.mem_of_getElem? (i := 3) rfl)) (fun _ h9 => h9) rfl dX4_thunder_107 ?_
          refine lv_iload_n hx hb dX4_thunder_110 rfl (lv_at hl 6 rfl) ?_
          refine lv_iload_n hx hb dX4_thunder_111 rfl (lv_at hl 7 rfl) ?_
          refine lv_iload_n hx hb dX4_thunder_112 rfl (lv_at hl 8 rfl) ?_
          refine kMlN hx hb hml hown hts hK hP hD hA hS gX4_thunder_X2_thunderWays_n326 (hK.2 _ (List.mem_of_getElem? (i := 112) rfl)) (hts _ (List.mem_of_getElem? (i := 26) rfl)) (hts _ (List.mem_of_getElem? (i := 25) rfl)) (hts _ (List.mem_of_getElem? (i := 27) rfl)) okX2_thunderWays (qX2_thunderWays l D cI cB g B T a_ v_ t_9 (by show sn_ B ≤ 7; omega) (by omega) (by omega)) [1, 2, 3, 4, 5, 6, 7, 8, 9, 10, 11, 12, 13] rfl (by decide) (fun _ => rfl) rfl rfl rfl (by decide) hl.1 rfl rfl (Nat.le_of_ble_eq_true rfl) dX4_thunder_113 (by decide) (fun r_23 u_24 H locs hw_25 hP hD hS => ?_)
          replace hw_25 : r_23 = wy_ B a_ v_ t_9 (p2_ v_) := hw_25
          subst r_23
          replace hP : va_P D vwCl (xO g hi tc ++ miO g ++ bW cI g 4 B ++ bW cI g 10 u_24 ++ rW cI g rf) H := (va_P.m [false, true, true, true, true, true, true, true, true, true, true, true, true, true] [] hP)
          replace hD : va_D A (xO g hi tc ++ miO g ++ bW cI g 4 B ++ bW cI g 10 u_24 ++ rW cI g rf) := (va_D.m [false, true, true, true, true, true, true, true, true, true, true, true, true, true] [] hD)
          refine lv_lload hx hb dX4_thunder_116 (lv_at hl 1 rfl) ?_
          refine lv_iload hx hb dX4_thunder_118 (lv_at hl 9 rfl) ?_
          refine kSlS hx hb hml hown hts hK hP gX4_thunder_X4_inLowestTerms okX4_inLowestTerms (qX4_inLowestTerms l D cI cB (wy_ B a_ v_ t_9 (p2_ v_)) (pw_l t_9.toInt64 i) p_9 ) [] rfl (by decide) hl.1 rfl rfl (Nat.le_of_ble_eq_true rfl) dX4_thunder_120 (by decide) (fun r_26 hr_27 => ?_)
          replace hr_27 : r_26 = it_ (wy_ B a_ v_ t_9 (p2_ v_)) (pw_l t_9.toInt64 i) p_9 := hr_27
          subst r_26
          refine rMl hx hb hr hlk hS (u_24, rf) hP ?_ dX4_thunder_123
          first | exact ⟨(if_neg c_66).symm, rfl⟩ | (have e9 : i = v_ := (by omega); refine ⟨?_, rfx_0 c_66⟩; rw [if_pos (show wTh_ _ _ _ _ _ = 0 from c_66), e9]; simp only [tn_n (show a_ < 2147483648 by omega), tn_n (show v_ < 2147483648 by omega)]; try rfl)
        · replace c_90 : ¬ nI v_ ≤ nI i := c_90
          rw [jle (by omega) (by omega)] at c_90
          refine lv_lload hx hb dX4_thunder_93 (lv_at hl 1 rfl) ?_
          refine lv_iload_n hx hb dX4_thunder_95 rfl (lv_at hl 8 rfl) ?_
          refine lv_i2l (v := (t_9 : Int32).toInt64) hx hb dX4_thunder_96 rfl ?_
          refine lv_lmul hx hb dX4_thunder_97 ?_
          refine lv_lstore (lv' := [(8, .long ((pw_l t_9.toInt64 i) * ((t_9 : Int32).toInt64))), (10, .int (nI i)), (7, .int (f2_ (f2_ (nb_ (nI a_) (nI (sn_ B))) (f2_ (if (nI v_) < 0 then -4 else 0) (if t_9 < 2 then -4 else 0))) (f2_ (f2_ (if 7 < (nI v_) then -6 else 0) (if 20 < t_9 then -6 else 0)) (uk_ p_9 1)))), (6, .int (f2_ (if 7 < (nI v_) then -6 else 0) (if 20 < t_9 then -6 else 0))), (5, .int (f2_ (if (nI v_) < 0 then -4 else 0) (if t_9 < 2 then -4 else 0))), (0, .ref (g 0)), (1, .int (nI a_)), (2, .int (nI v_)), (3, .int t_9), (4, .int p_9)]) hx hb dX4_thunder_98 hl (by decide) rfl (fun ls hl => ?_)
          refine lv_iinc (v := (nI i) + 1) (lv' := [(10, .int ((nI i) + 1)), (8, .long ((pw_l t_9.toInt64 i) * ((t_9 : Int32).toInt64))), (7, .int (f2_ (f2_ (nb_ (nI a_) (nI (sn_ B))) (f2_ (if (nI v_) < 0 then -4 else 0) (if t_9 < 2 then -4 else 0))) (f2_ (f2_ (if 7 < (nI v_) then -6 else 0) (if 20 < t_9 then -6 else 0)) (uk_ p_9 1)))), (6, .int (f2_ (if 7 < (nI v_) then -6 else 0) (if 20 < t_9 then -6 else 0))), (5, .int (f2_ (if (nI v_) < 0 then -4 else 0) (if t_9 < 2 then -4 else 0))), (0, .ref (g 0)), (1, .int (nI a_)), (2, .int (nI v_)), (3, .int t_9), (4, .int p_9)]) hx hb dX4_thunder_100 hl (k := 1) rfl (by first | rfl | decide) (by decide) rfl (fun ls hl => ?_)
          refine lv_goto (tgt := 87) hx hb dX4_thunder_103 (by decide) ?_
          exact ih_87 (i + 1) ((pw_l t_9.toInt64 i) * ((t_9 : Int32).toInt64)) ((nI i) + 1)  (rfl) (by first | rfl | exact nI_1 _) (by omega) (by omega) _ _ hP hD hS ls (lv_sub hl [0, 1, 2, 3, 4, 5, 6, 7, 8, 9] rfl)
    exact lp_87 (v_ + 1) 0 1 0  (rfl) (by first | rfl | exact nI_0.symm) (by omega) (by omega) _ _ hP hD hS ls (lv_sub hl [0, 1, 2, 3, 4, 5, 6, 7, 8, 9] rfl)
  · skip
    refine lv_ldc2 hx hb hown (hts _ (List.mem_of_getElem? (i := 2) rfl)) dX4_thunder_69 ?_
    refine lv_aload_n hx hb dX4_thunder_72 rfl (lv_at hl 3 rfl) ?_
    refine lv_iload hx hb dX4_thunder_73 (lv_at hl 0 rfl) ?_
    refine kMiV hx hb hml hown hts hK hP hD hA hS gX4_thunder_X4_refuse okX4_refuse (qX4_refuse l D cI cB g hi tc rf (f2_ (f2_ (nb_ a (nI (sn_ B))) (f2_ (if v < 0 then -4 else 0) (if t_9 < 2 then -4 else 0))) (f2_ (f2_ (if 7 < v then -6 else 0) (if 20 < t_9 then -6 else 0)) (uk_ p_9 1))) (rc0_n (by first | exact rc0_wS _ _ | exact rc0_wSN _ _ _ | exact rc0_wSNW _ _ _ _ | exact rc0_wNW _ _ | exact rc0_wTh _ _ _ _ _ | exact rc0_nb _ _ | exact rc0_uk _ _ | exact rc0_ob _ _ _ | exact rc0_f2 (rc0_nb _ _) (rc0_nb _ _) | exact rc0_f2 (rc0_nb _ _) (rc0_uk _ _) | exact rc0_f2 (rc0_ob _ _ _) (rc0_uk _ _) | exact rc0_f2 (rc0_uk _ _) (rc0_f2 (rc0_uk _ _) (rc0_ob _ _ _)) | exact rc0_f2 (rc0_f2 (rc0_nb _ _) (rc0_nb _ _)) (rc0_if (Or.inr (Or.inl rfl)) (rc0_uk _ _))) c_66)) [0, 14] rfl (by decide) (fun _ => rfl) rfl rfl rfl (by decide) hl.1 rfl rfl (Nat.le_of_ble_eq_true rfl) dX4_thunder_75 (by decide) (fun r_28 u_29 H locs hw_30 hP hD hS => ?_)
    replace hw_30 : r_28 = f2_ (f2_ (nb_ a (nI (sn_ B))) (f2_ (if v < 0 then -4 else 0) (if t_9 < 2 then -4 else 0))) (f2_ (f2_ (if 7 < v then -6 else 0) (if 20 < t_9 then -6 else 0)) (uk_ p_9 1)) ∧ u_29 = rfx_ rf (f2_ (f2_ (nb_ a (nI (sn_ B))) (f2_ (if v < 0 then -4 else 0) (if t_9 < 2 then -4 else 0))) (f2_ (f2_ (if 7 < v then -6 else 0) (if 20 < t_9 then -6 else 0)) (uk_ p_9 1))) := hw_30
    obtain ⟨hw_30a, hw_30b⟩ := hw_30
    subst r_28
    subst u_29
    replace hP : va_P D vwCl (xO g hi tc ++ miO g ++ bW cI g 4 B ++ bW cI g 10 T ++ rW cI g (rfx_ rf (f2_ (f2_ (nb_ a (nI (sn_ B))) (f2_ (if v < 0 then -4 else 0) (if t_9 < 2 then -4 else 0))) (f2_ (f2_ (if 7 < v then -6 else 0) (if 20 < t_9 then -6 else 0)) (uk_ p_9 1))))) H := (va_P.m [true, false, false, false, false, false, false, false, false, false, false, false, false, false, true] [] hP)
    replace hD : va_D A (xO g hi tc ++ miO g ++ bW cI g 4 B ++ bW cI g 10 T ++ rW cI g (rfx_ rf (f2_ (f2_ (nb_ a (nI (sn_ B))) (f2_ (if v < 0 then -4 else 0) (if t_9 < 2 then -4 else 0))) (f2_ (f2_ (if 7 < v then -6 else 0) (if 20 < t_9 then -6 else 0)) (uk_ p_9 1))))) := (va_D.m [true, false, false, false, false, false, false, false, false, false, false, false, false, false, true] [] hD)
    refine lv_i2l (v := (f2_ (f2_ (nb_ a (nI (sn_ B))) (f2_ (if v < 0 then -4 else 0) (if t_9 < 2 then -4 else 0))) (f2_ (f2_ (if 7 < v then -6 else 0) (if 20 < t_9 then -6 else 0)) (uk_ p_9 1)) : Int32).toInt64) hx hb dX4_thunder_78 rfl ?_
    refine lv_lsub hx hb dX4_thunder_79 ?_
    refine rMl hx hb hr hlk hS (T, (rfx_ rf (f2_ (f2_ (nb_ a (nI (sn_ B))) (f2_ (if v < 0 then -4 else 0) (if t_9 < 2 then -4 else 0))) (f2_ (f2_ (if 7 < v then -6 else 0) (if 20 < t_9 then -6 else 0)) (uk_ p_9 1))))) hP ?_ dX4_thunder_80
    first | exact ⟨(if_neg c_66).symm, rfl⟩ | (have e9 : i = v_ := (by omega); refine ⟨?_, rfx_0 c_66⟩; rw [if_pos (show wTh_ _ _ _ _ _ = 0 from c_66), e9]; simp only [tn_n (show a_ < 2147483648 by omega), tn_n (show v_ < 2147483648 by omega)]; try rfl)

theorem okX4_lots : jok yX4_lots wsX4_lots cX4_lots 5 (some .int) 3 := ⟨⟨_, rfl⟩, by decide +kernel, by decide +kernel⟩
set_option maxHeartbeats 1000000 in
set_option maxRecDepth 100000 in
theorem qX4_lots (l : Launch) (D : va_G) (cI cB : ClassId) (g : Nat → Nat) (hi : Int32) (tc : Nat) (B : BayT) (T : BayT) (rf : Nat → Int32) (v : Int32) (z : Int32) (q : Int32) (hn7 : sn_ B ≤ 7) : jMi D cI cB l yX4_lots wsX4_lots 6 [.ref (g 0), .int v, .int z, .int q] (xO g hi tc ++ miO g ++ bW cI g 4 B ++ bW cI g 10 T ++ rW cI g rf) (S := BayT × (Nat → Int32)) (fun r u => r = (if f2_ (ob_ v 1 20) (uk_ q 1) = 0 then (if q = 0 then (dlz_ B z (tn_ v)).2.1 else (dlz_ B z (tn_ v)).2.2) else f2_ (ob_ v 1 20) (uk_ q 1)) ∧ u.2 = rfx_ rf (f2_ (ob_ v 1 20) (uk_ q 1))) (fun u => xO g hi tc ++ miO g ++ bW cI g 4 B ++ bW cI g 10 u.1 ++ rW cI g u.2) := by
  refine jMi.of (cc := cX4_lots) (maxL := 5) (ret := (some .int)) okX4_lots (Nat.le_of_ble_eq_true rfl) ?_
  intro p e s m below meth c ls A hx hb hr hts hown hlk hml hP hK hD hA hS hl
  replace hown : s.vm.findClass RX4 = some m.cls := hown
  replace hl : lv_has ls 5 [(0, .ref (g 0)), (1, .int v), (2, .int z), (3, .int q)] := hl
  have hinX4 : ∀ w ∈ wsX40, w ∈ wsX4_lots := by decide +kernel
  refine lv_iload_n hx hb dX4_lots_0 rfl (lv_at hl 1 rfl) ?_
  refine lv_iconst (v := 1) hx hb dX4_lots_1 (by decide) ?_
  refine lv_bipush (v := 20) hx hb dX4_lots_2 (by decide) ?_
  refine kSiS hx hb hml hown hts hK hP gX4_lots_X4_outside okX4_outside (qX4_outside l D cI cB v 1 20 ) [] rfl (by decide) hl.1 rfl rfl (Nat.le_of_ble_eq_true rfl) dX4_lots_4 (by decide) (fun r_1 hr_2 => ?_)
  replace hr_2 : r_1 = ob_ v 1 20 := hr_2
  subst r_1
  refine lv_iload_n hx hb dX4_lots_7 rfl (lv_at hl 3 rfl) ?_
  refine lv_iconst (v := 1) hx hb dX4_lots_8 (by decide) ?_
  refine kSiS hx hb hml hown hts hK hP gX4_lots_X4_unknown okX4_unknown (qX4_unknown l D cI cB q 1 ) [] rfl (by decide) hl.1 rfl rfl (Nat.le_of_ble_eq_true rfl) dX4_lots_9 (by decide) (fun r_3 hr_4 => ?_)
  replace hr_4 : r_3 = uk_ q 1 := hr_4
  subst r_3
  refine kSiS hx hb hml hown hts hK hP gX4_lots_X4_firstOf okX4_firstOf (qX4_firstOf l D cI cB (ob_ v 1 20) (uk_ q 1) ) [] rfl (by decide) hl.1 rfl rfl (Nat.le_of_ble_eq_true rfl) dX4_lots_12 (by decide) (fun r_5 hr_6 => ?_)
  replace hr_6 : r_5 = f2_ (ob_ v 1 20) (uk_ q 1) := hr_6
  subst r_5
  refine lv_istore (lv' := [(4, .int (f2_ (ob_ v 1 20) (uk_ q 1))), (0, .ref (g 0)), (1, .int v), (2, .int z), (3, .int q)]) hx hb dX4_lots_15 hl (by decide) rfl (fun ls hl => ?_)
  refine lv_iload hx hb dX4_lots_17 (lv_at hl 0 rfl) ?_
  refine lv_if_eq (tgt := 31) hx hb dX4_lots_19 (by decide) (fun c_19 => ?_) (fun c_19 => ?_)
  · skip
    have w0 := c_19
    simp only [wS_, wSN_, wSNW_, wNW_, wTh_, f2_0, nb_0, ob_0, uk_0, lo_0, hi_0] at w0
    obtain ⟨v_, hv_, rfl⟩ := pl_le (n := 20) (by decide) ⟨Int32.le_trans (by decide) w0.1.1, w0.1.2⟩
    replace hl : lv_has ls 5 [(4, .int (f2_ (ob_ (nI v_) 1 20) (uk_ q 1))), (0, .ref (g 0)), (1, .int (nI v_)), (2, .int z), (3, .int q)] := hl
    refine lv_aload_n hx hb dX4_lots_31 rfl (lv_at hl 1 rfl) ?_
    refine va_get (ci := 4) (C := RX4) (T := TX4) (N := 9) hx hb hts hinX4 hown hK.1 hP 0 rfl rfl 0 (by decide) (hts _ (List.mem_of_getElem? (i := 1) rfl)) (fun _ h9 => h9) rfl dX4_lots_32 ?_
    refine lv_iload_n hx hb dX4_lots_35 rfl (lv_at hl 2 rfl) ?_
    refine lv_iload_n hx hb dX4_lots_36 rfl (lv_at hl 3 rfl) ?_
    refine lv_iload_n hx hb dX4_lots_37 rfl (lv_at hl 4 rfl) ?_
    refine kMiN hx hb hml hown hts hK hP hD hA hS gX4_lots_X2_drawLots_n330 (hK.2 _ (List.mem_of_getElem? (i := 113) rfl)) (hts _ (List.mem_of_getElem? (i := 21) rfl)) (hts _ (List.mem_of_getElem? (i := 20) rfl)) (hts _ (List.mem_of_getElem? (i := 22) rfl)) okX2_drawLots (qX2_drawLots l D cI cB g B T v_ z q (by show sn_ B ≤ 7; omega) (by omega)) [1, 2, 3, 4, 5, 6, 7, 8, 9, 10, 11, 12, 13] rfl (by decide) (fun _ => rfl) rfl rfl rfl (by decide) hl.1 rfl rfl (Nat.le_of_ble_eq_true rfl) dX4_lots_38 (by decide) (fun r_7 u_8 H locs hw_9 hP hD hS => ?_)
    replace hw_9 : r_7 = if q = 0 then (dlz_ B z v_).2.1 else (dlz_ B z v_).2.2 := hw_9
    subst r_7
    replace hP : va_P D vwCl (xO g hi tc ++ miO g ++ bW cI g 4 B ++ bW cI g 10 u_8 ++ rW cI g rf) H := (va_P.m [false, true, true, true, true, true, true, true, true, true, true, true, true, true] [] hP)
    replace hD : va_D A (xO g hi tc ++ miO g ++ bW cI g 4 B ++ bW cI g 10 u_8 ++ rW cI g rf) := (va_D.m [false, true, true, true, true, true, true, true, true, true, true, true, true, true] [] hD)
    refine rMi hx hb hr hlk hS (u_8, rf) hP ?_ dX4_lots_41
    first | exact ⟨(if_neg c_19).symm, rfl⟩ | (refine ⟨?_, rfx_0 c_19⟩; rw [if_pos c_19]; (try simp only [tn_n (show v_ < 2147483648 by omega)]); first | done | (rfl))
  · skip
    refine lv_aload_n hx hb dX4_lots_22 rfl (lv_at hl 1 rfl) ?_
    refine lv_iload hx hb dX4_lots_23 (lv_at hl 0 rfl) ?_
    refine kMiV hx hb hml hown hts hK hP hD hA hS gX4_lots_X4_refuse okX4_refuse (qX4_refuse l D cI cB g hi tc rf (f2_ (ob_ v 1 20) (uk_ q 1)) (rc0_n (by first | exact rc0_wS _ _ | exact rc0_wSN _ _ _ | exact rc0_wSNW _ _ _ _ | exact rc0_wNW _ _ | exact rc0_wTh _ _ _ _ _ | exact rc0_nb _ _ | exact rc0_uk _ _ | exact rc0_ob _ _ _ | exact rc0_f2 (rc0_nb _ _) (rc0_nb _ _) | exact rc0_f2 (rc0_nb _ _) (rc0_uk _ _) | exact rc0_f2 (rc0_ob _ _ _) (rc0_uk _ _) | exact rc0_f2 (rc0_uk _ _) (rc0_f2 (rc0_uk _ _) (rc0_ob _ _ _)) | exact rc0_f2 (rc0_f2 (rc0_nb _ _) (rc0_nb _ _)) (rc0_if (Or.inr (Or.inl rfl)) (rc0_uk _ _))) c_19)) [0, 14] rfl (by decide) (fun _ => rfl) rfl rfl rfl (by decide) hl.1 rfl rfl (Nat.le_of_ble_eq_true rfl) dX4_lots_25 (by decide) (fun r_10 u_11 H locs hw_12 hP hD hS => ?_)
    replace hw_12 : r_10 = f2_ (ob_ v 1 20) (uk_ q 1) ∧ u_11 = rfx_ rf (f2_ (ob_ v 1 20) (uk_ q 1)) := hw_12
    obtain ⟨hw_12a, hw_12b⟩ := hw_12
    subst r_10
    subst u_11
    replace hP : va_P D vwCl (xO g hi tc ++ miO g ++ bW cI g 4 B ++ bW cI g 10 T ++ rW cI g (rfx_ rf (f2_ (ob_ v 1 20) (uk_ q 1)))) H := (va_P.m [true, false, false, false, false, false, false, false, false, false, false, false, false, false, true] [] hP)
    replace hD : va_D A (xO g hi tc ++ miO g ++ bW cI g 4 B ++ bW cI g 10 T ++ rW cI g (rfx_ rf (f2_ (ob_ v 1 20) (uk_ q 1)))) := (va_D.m [true, false, false, false, false, false, false, false, false, false, false, false, false, false, true] [] hD)
    refine lv_goto (tgt := 41) hx hb dX4_lots_28 (by decide) ?_
    refine rMi hx hb hr hlk hS (T, (rfx_ rf (f2_ (ob_ v 1 20) (uk_ q 1)))) hP ?_ dX4_lots_41
    first | exact ⟨(if_neg c_19).symm, rfl⟩ | (refine ⟨?_, rfx_0 c_19⟩; rw [if_pos c_19]; (try simp only [tn_n (show v_ < 2147483648 by omega)]); first | done | (rfl))
