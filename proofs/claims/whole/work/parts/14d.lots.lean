theorem okX2_layOut : jok yX2_layOut wsX2_layOut cX2_layOut 5 (some .int) 1 := ⟨⟨_, rfl⟩, by decide +kernel, by decide +kernel⟩
set_option maxHeartbeats 1000000 in
set_option maxRecDepth 100000 in
theorem qX2_layOut (l : Launch) (D : va_G) (cI cB : ClassId) (g : Nat → Nat) (B : BayT) (T : BayT) (z : Int32) (hn7 : sn_ B ≤ 7) : jMi D cI cB l yX2_layOut wsX2_layOut 3 [.ref (g 1), .int z] (miO g ++ bW cI g 4 B ++ bW cI g 10 T) (S := BayT) (fun r u => r = (lqz_ B z (sn_ B)).1 ∧ u = layz_ B z (sn_ B)) (fun u => miO g ++ bW cI g 4 B ++ bW cI g 10 u) := by
  refine jMi.of (cc := cX2_layOut) (maxL := 5) (ret := (some .int)) okX2_layOut (Nat.le_of_ble_eq_true rfl) ?_
  intro p e s m below meth c ls A hx hb hr hts hown hlk hml hP hK hD hA hS hl
  replace hown : s.vm.findClass RX2 = some m.cls := hown
  replace hl : lv_has ls 5 [(0, .ref (g 1)), (1, .int z)] := hl
  have hinX0 : ∀ w ∈ wsX00, w ∈ wsX2_layOut := by decide +kernel
  refine lv_aload_n hx hb dX2_layOut_0 rfl (lv_at hl 0 rfl) ?_
  refine kMrV hx hb hml hown hts hK hP hD hA hS gX2_layOut_X2_asNow okX2_asNow (qX2_asNow l D cI cB g B T ) [0, 1, 2, 3, 4, 5, 6, 7, 8, 9, 10, 11, 12] rfl (by decide) (fun _ => rfl) rfl rfl rfl (by decide) hl.1 rfl rfl (Nat.le_of_ble_eq_true rfl) dX2_layOut_1 (by decide) (fun u_2 H locs hw_3 hP hD hS => ?_)
  replace hw_3 : u_2 = B := hw_3
  subst u_2
  replace hP : va_P D vwCl (miO g ++ bW cI g 4 B ++ bW cI g 10 (B)) H := hP
  replace hD : va_D A (miO g ++ bW cI g 4 B ++ bW cI g 10 (B)) := hD
  refine lv_astore_n (lv' := [(2, .ref (g 10)), (0, .ref (g 1)), (1, .int z)]) hx hb dX2_layOut_4 rfl hl (by decide) rfl (fun ls hl => ?_)
  refine lv_iload_n hx hb dX2_layOut_5 rfl (lv_at hl 2 rfl) ?_
  refine kSiS hx hb hml hown hts hK hP gX2_layOut_X2_nextSeed okX2_nextSeed (qX2_nextSeedZ l D cI cB z ) [] rfl (by decide) hl.1 rfl rfl (Nat.le_of_ble_eq_true rfl) dX2_layOut_6 (by decide) (fun r_4 hr_5 => ?_)
  replace hr_5 : r_4 = nz_ z := hr_5
  subst r_4
  refine lv_istore_n (lv' := [(3, .int (nz_ z)), (2, .ref (g 10)), (0, .ref (g 1)), (1, .int z)]) hx hb dX2_layOut_9 rfl hl (by decide) rfl (fun ls hl => ?_)
  refine lv_aload_n hx hb dX2_layOut_10 rfl (lv_at hl 1 rfl) ?_
  refine lv_iload_n hx hb dX2_layOut_11 rfl (lv_at hl 0 rfl) ?_
  refine lv_bipush (v := 31) hx hb dX2_layOut_12 (by decide) ?_
  refine kSiS hx hb hml hown hts hK hP gX2_layOut_X2_drawn okX2_drawn (qX2_drawnZ l D cI cB (nz_ z) 31 (by decide)) [] rfl (by decide) hl.1 rfl rfl (Nat.le_of_ble_eq_true rfl) dX2_layOut_14 (by decide) (fun r_6 hr_7 => ?_)
  replace hr_7 : r_6 = dz_ (nz_ z) 31 := hr_7
  subst r_6
  refine lv_topi (fun y_8 ey_8 => ?_)
  replace ey_8 : y_8 = dz_ (nz_ z) 31 := ey_8
  refine va_putN (ci := 0) (ty := .int) (C := RX0) (T := TX0) (N := 11) hx hb hts hinX0 tyX0 tyX0_ok nmX0 hown hK.1 hP hD hS 7 rfl rfl 7 (by decide) (va_Nw.use rfl (hK.2 _ (List.mem_of_getElem? (i := 15) rfl))) (fun _ h9 => h9) rfl (by decide +kernel) (rfl) (rfl) (Nat.le_of_ble_eq_true rfl) dX2_layOut_17 (fun H locs hP hD hS => ?_)
  replace hP : va_P D vwCl (miO g ++ bW cI g 4 B ++ bW cI g 10 (mkB (kd_ (B)) (fg_ (B)) (pl_ (B)) (pw_ (B)) (jy_ (B)) (qt_ (B)) (sn_ (B)) y_8 (pa_ (B)) (ho_ (B)) (dy_ (B)))) H := hP
  replace hD : va_D A (miO g ++ bW cI g 4 B ++ bW cI g 10 (mkB (kd_ (B)) (fg_ (B)) (pl_ (B)) (pw_ (B)) (jy_ (B)) (qt_ (B)) (sn_ (B)) y_8 (pa_ (B)) (ho_ (B)) (dy_ (B)))) := hD
  refine lv_iconst (v := 0) hx hb dX2_layOut_20 (by decide) ?_
  refine lv_istore (lv' := [(4, .int 0), (3, .int (nz_ z)), (2, .ref (g 10)), (0, .ref (g 1)), (1, .int z)]) hx hb dX2_layOut_21 hl (by decide) rfl (fun ls hl => ?_)
  (try rw [ey_8] at hP); (try rw [ey_8] at hD); (try rw [ey_8] at hl); (try rw [ey_8])
  have lp_23 : ∀ (fu_23 : Nat) (i : Nat) (x3_23 : Int32) (x4_23 : Int32) (T2 : BayT), (x3_23 = (lqz_ B z i).1) → (x4_23 = nI i) → (T2 = layz_ B z i) → (i ≤ sn_ B) → sn_ B - i < fu_23 → ∀ (H : Heap) (locs : List Loc), va_P D vwCl (miO g ++ bW cI g 4 B ++ bW cI g 10 T2) H → va_D A (miO g ++ bW cI g 4 B ++ bW cI g 10 T2) → va_S A s.heap H locs → ∀ ls : Array Slot, lv_has ls 5 [(4, .int x4_23), (3, .int x3_23), (2, .ref (g 10)), (0, .ref (g 1)), (1, .int z)] → W p l e (jR 3) s m ([.ref (g 1), .int z] : List Value).toArray below meth c H locs 0 0 (MQ below (va_Qi (S := BayT) (fun r u => r = (lqz_ B z (sn_ B)).1 ∧ u = layz_ B z (sn_ B)) (fun u t => va_P D vwCl ((fun u => miO g ++ bW cI g 4 B ++ bW cI g 10 u) u) t.heap) A) ([.ref (g 1), .int z] : List Value).toArray s 0 0 A) (F0 m 23 ls []) := by
    intro fu_23
    induction fu_23 with
    | zero => intro i x3_23 x4_23 T2 hx3_23 hx4_23 hT2 hi hfu; exact absurd hfu (Nat.not_lt_zero _)
    | succ fu_23 ih_23 =>
      intro i x3_23 x4_23 T2 hx3_23 hx4_23 hT2 hi hfu_23 H locs hP hD hS ls hl
      subst x3_23
      subst x4_23
      subst T2
      replace hl : lv_has ls 5 [(4, .int (nI i)), (3, .int ((lqz_ B z i).1)), (2, .ref (g 10)), (0, .ref (g 1)), (1, .int z)] := hl
      replace hP : va_P D vwCl (miO g ++ bW cI g 4 B ++ bW cI g 10 (layz_ B z i)) H := hP
      replace hD : va_D A (miO g ++ bW cI g 4 B ++ bW cI g 10 (layz_ B z i)) := hD
      refine lv_iload hx hb dX2_layOut_23 (lv_at hl 0 rfl) ?_
      refine lv_aload_n hx hb dX2_layOut_25 rfl (lv_at hl 2 rfl) ?_
      refine va_getN (ci := 0) (C := RX0) (T := TX0) (N := 11) hx hb hts hinX0 hown hK.1 hP 7 rfl rfl 6 (by decide) (va_Nw.use rfl (hK.2 _ (List.mem_of_getElem? (i := 12) rfl))) (fun _ h9 => h9) rfl dX2_layOut_26 ?_
      refine lv_icmp_ge (tgt := 62) hx hb dX2_layOut_29 (by decide) (fun c_29 => ?_) (fun c_29 => ?_)
      · replace c_29 : nI (sn_ B) ≤ nI i := c_29
        rw [jle (by omega) (by omega)] at c_29
        refine lv_iload_n hx hb dX2_layOut_62 rfl (lv_at hl 1 rfl) ?_
        refine rMi hx hb hr hlk hS (layz_ B z i) hP ?_ dX2_layOut_63
        have e9 : i = sn_ B := by omega
        rw [e9]; exact ⟨rfl, rfl⟩
      · replace c_29 : ¬ nI (sn_ B) ≤ nI i := c_29
        rw [jle (by omega) (by omega)] at c_29
        refine lv_iload_n hx hb dX2_layOut_32 rfl (lv_at hl 1 rfl) ?_
        refine kSiS hx hb hml hown hts hK hP gX2_layOut_X2_nextSeed okX2_nextSeed (qX2_nextSeedZ l D cI cB ((lqz_ B z i).1) ) [] rfl (by decide) hl.1 rfl rfl (Nat.le_of_ble_eq_true rfl) dX2_layOut_33 (by decide) (fun r_9 hr_10 => ?_)
        replace hr_10 : r_9 = nz_ ((lqz_ B z i).1) := hr_10
        subst r_9
        refine lv_istore_n (lv' := [(3, .int (nz_ ((lqz_ B z i).1))), (4, .int (nI i)), (2, .ref (g 10)), (0, .ref (g 1)), (1, .int z)]) hx hb dX2_layOut_36 rfl hl (by decide) rfl (fun ls hl => ?_)
        refine lv_aload_n hx hb dX2_layOut_37 rfl (lv_at hl 2 rfl) ?_
        refine lv_iload hx hb dX2_layOut_38 (lv_at hl 1 rfl) ?_
        refine lv_iload_n hx hb dX2_layOut_40 rfl (lv_at hl 0 rfl) ?_
        refine lv_iconst (v := 4) hx hb dX2_layOut_41 (by decide) ?_
        refine kSiS hx hb hml hown hts hK hP gX2_layOut_X2_drawn okX2_drawn (qX2_drawnZ l D cI cB (nz_ ((lqz_ B z i).1)) 4 (by decide)) [] rfl (by decide) hl.1 rfl rfl (Nat.le_of_ble_eq_true rfl) dX2_layOut_42 (by decide) (fun r_11 hr_12 => ?_)
        replace hr_12 : r_11 = dz_ (nz_ ((lqz_ B z i).1)) 4 := hr_12
        subst r_11
        refine lv_if_ne (tgt := 52) hx hb dX2_layOut_45 (by decide) (fun c_45 => ?_) (fun c_45 => ?_)
        · skip
          refine lv_iconst (v := 0) hx hb dX2_layOut_52 (by decide) ?_
          refine kMvN hx hb hml hown hts hK hP hD hA hS gX2_layOut_X0_setQuiet_n144 (hK.2 _ (List.mem_of_getElem? (i := 109) rfl)) (hts _ (List.mem_of_getElem? (i := 9) rfl)) (hts _ (List.mem_of_getElem? (i := 35) rfl)) (hts _ (List.mem_of_getElem? (i := 36) rfl)) okX0_setQuiet (qX0_setQuiet l D cI cB g 10 (layz_ B z i) i False inferInstance (by show sn_ B ≤ 7; omega) (by omega)) [7, 8, 9, 10, 11, 12] rfl (by decide) (fun _ => rfl) rfl rfl rfl (by decide) hl.1 rfl rfl (Nat.le_of_ble_eq_true rfl) dX2_layOut_53 (by decide) (fun u_14 H locs hw_15 hP hD hS => ?_)
          replace hw_15 : u_14 = uq_ (layz_ B z i) (sq_ False (qt_ (layz_ B z i)) i) := hw_15
          subst u_14
          replace hP : va_P D vwCl (miO g ++ bW cI g 4 B ++ bW cI g 10 (uq_ (layz_ B z i) (sq_ False (qt_ (layz_ B z i)) i))) H := hP
          replace hD : va_D A (miO g ++ bW cI g 4 B ++ bW cI g 10 (uq_ (layz_ B z i) (sq_ False (qt_ (layz_ B z i)) i))) := hD
          refine lv_iinc (v := (nI i) + 1) (lv' := [(4, .int ((nI i) + 1)), (3, .int (nz_ ((lqz_ B z i).1))), (2, .ref (g 10)), (0, .ref (g 1)), (1, .int z)]) hx hb dX2_layOut_56 hl (k := 1) rfl (by first | rfl | decide) (by decide) rfl (fun ls hl => ?_)
          refine lv_goto (tgt := 23) hx hb dX2_layOut_59 (by decide) ?_
          exact ih_23 (i + 1) (nz_ ((lqz_ B z i).1)) ((nI i) + 1) (uq_ (layz_ B z i) (sq_ False (qt_ (layz_ B z i)) i)) (lqz_1 _ _ _) (by first | rfl | exact nI_1 _) (by first | exact layz_s True ⟨fun _ => c_45, fun _ => trivial⟩ | exact layz_s False ⟨fun q => q.elim, fun q => absurd q c_45⟩) (by omega) (by omega) _ _ hP hD hS ls (lv_sub hl [0, 1, 2, 3, 4] rfl)
        · skip
          refine lv_iconst (v := 1) hx hb dX2_layOut_48 (by decide) ?_
          refine lv_goto (tgt := 53) hx hb dX2_layOut_49 (by decide) ?_
          refine kMvN hx hb hml hown hts hK hP hD hA hS gX2_layOut_X0_setQuiet_n144 (hK.2 _ (List.mem_of_getElem? (i := 109) rfl)) (hts _ (List.mem_of_getElem? (i := 9) rfl)) (hts _ (List.mem_of_getElem? (i := 35) rfl)) (hts _ (List.mem_of_getElem? (i := 36) rfl)) okX0_setQuiet (qX0_setQuiet l D cI cB g 10 (layz_ B z i) i True inferInstance (by show sn_ B ≤ 7; omega) (by omega)) [7, 8, 9, 10, 11, 12] rfl (by decide) (fun _ => rfl) rfl rfl rfl (by decide) hl.1 rfl rfl (Nat.le_of_ble_eq_true rfl) dX2_layOut_53 (by decide) (fun u_17 H locs hw_18 hP hD hS => ?_)
          replace hw_18 : u_17 = uq_ (layz_ B z i) (sq_ True (qt_ (layz_ B z i)) i) := hw_18
          subst u_17
          replace hP : va_P D vwCl (miO g ++ bW cI g 4 B ++ bW cI g 10 (uq_ (layz_ B z i) (sq_ True (qt_ (layz_ B z i)) i))) H := hP
          replace hD : va_D A (miO g ++ bW cI g 4 B ++ bW cI g 10 (uq_ (layz_ B z i) (sq_ True (qt_ (layz_ B z i)) i))) := hD
          refine lv_iinc (v := (nI i) + 1) (lv' := [(4, .int ((nI i) + 1)), (3, .int (nz_ ((lqz_ B z i).1))), (2, .ref (g 10)), (0, .ref (g 1)), (1, .int z)]) hx hb dX2_layOut_56 hl (k := 1) rfl (by first | rfl | decide) (by decide) rfl (fun ls hl => ?_)
          refine lv_goto (tgt := 23) hx hb dX2_layOut_59 (by decide) ?_
          exact ih_23 (i + 1) (nz_ ((lqz_ B z i).1)) ((nI i) + 1) (uq_ (layz_ B z i) (sq_ True (qt_ (layz_ B z i)) i)) (lqz_1 _ _ _) (by first | rfl | exact nI_1 _) (by first | exact layz_s True ⟨fun _ => c_45, fun _ => trivial⟩ | exact layz_s False ⟨fun q => q.elim, fun q => absurd q c_45⟩) (by omega) (by omega) _ _ hP hD hS ls (lv_sub hl [0, 1, 2, 3, 4] rfl)
  exact lp_23 ((sn_ B) + 1) 0 (nz_ z) 0 (mkB (kd_ (B)) (fg_ (B)) (pl_ (B)) (pw_ (B)) (jy_ (B)) (qt_ (B)) (sn_ (B)) (dz_ (nz_ z) 31) (pa_ (B)) (ho_ (B)) (dy_ (B))) (by rw [lqz_]) (by first | rfl | exact nI_0.symm) (layz_0 B z) (by omega) (by omega) _ _ hP hD hS ls (lv_sub hl [0, 1, 2, 3, 4] rfl)

theorem okX2_drawLots : jok yX2_drawLots wsX2_drawLots cX2_drawLots 8 (some .int) 3 := ⟨⟨_, rfl⟩, by decide +kernel, by decide +kernel⟩
set_option maxHeartbeats 1000000 in
set_option maxRecDepth 100000 in
theorem qX2_drawLots (l : Launch) (D : va_G) (cI cB : ClassId) (g : Nat → Nat) (B : BayT) (T : BayT) (n : Nat) (z : Int32) (w : Int32) (hn7 : sn_ B ≤ 7) (hn : n ≤ 20) : jMi D cI cB l yX2_drawLots wsX2_drawLots 5 [.ref (g 1), .int (nI n), .int z, .int w] (miO g ++ bW cI g 4 B ++ bW cI g 10 T) (S := BayT) (fun r u => r = if w = 0 then (dlz_ B z n).2.1 else (dlz_ B z n).2.2) (fun u => miO g ++ bW cI g 4 B ++ bW cI g 10 u) := by
  refine jMi.of (cc := cX2_drawLots) (maxL := 8) (ret := (some .int)) okX2_drawLots (Nat.le_of_ble_eq_true rfl) ?_
  intro p e s m below meth c ls A hx hb hr hts hown hlk hml hP hK hD hA hS hl
  replace hown : s.vm.findClass RX2 = some m.cls := hown
  replace hl : lv_has ls 8 [(0, .ref (g 1)), (1, .int (nI n)), (2, .int z), (3, .int w)] := hl
  have hinX2 : ∀ w ∈ wsX20, w ∈ wsX2_drawLots := by decide +kernel
  refine lv_iload_n hx hb dX2_drawLots_0 rfl (lv_at hl 2 rfl) ?_
  refine lv_istore (lv' := [(4, .int z), (0, .ref (g 1)), (1, .int (nI n)), (2, .int z), (3, .int w)]) hx hb dX2_drawLots_1 hl (by decide) rfl (fun ls hl => ?_)
  refine lv_iconst (v := 0) hx hb dX2_drawLots_3 (by decide) ?_
  refine lv_istore (lv' := [(5, .int 0), (4, .int z), (0, .ref (g 1)), (1, .int (nI n)), (2, .int z), (3, .int w)]) hx hb dX2_drawLots_4 hl (by decide) rfl (fun ls hl => ?_)
  refine lv_iconst (v := 0) hx hb dX2_drawLots_6 (by decide) ?_
  refine lv_istore (lv' := [(6, .int 0), (5, .int 0), (4, .int z), (0, .ref (g 1)), (1, .int (nI n)), (2, .int z), (3, .int w)]) hx hb dX2_drawLots_7 hl (by decide) rfl (fun ls hl => ?_)
  refine lv_iconst (v := 0) hx hb dX2_drawLots_9 (by decide) ?_
  refine lv_istore (lv' := [(7, .int 0), (6, .int 0), (5, .int 0), (4, .int z), (0, .ref (g 1)), (1, .int (nI n)), (2, .int z), (3, .int w)]) hx hb dX2_drawLots_10 hl (by decide) rfl (fun ls hl => ?_)
  have lp_12 : ∀ (fu_12 : Nat) (i : Nat) (x4_12 : Int32) (x5_12 : Int32) (x6_12 : Int32) (x7_12 : Int32) (T2 : BayT), (x4_12 = (dlz_ B z i).1) → (x5_12 = (dlz_ B z i).2.1) → (x6_12 = (dlz_ B z i).2.2) → (x7_12 = nI i) → (i ≤ n) → n - i < fu_12 → ∀ (H : Heap) (locs : List Loc), va_P D vwCl (miO g ++ bW cI g 4 B ++ bW cI g 10 T2) H → va_D A (miO g ++ bW cI g 4 B ++ bW cI g 10 T2) → va_S A s.heap H locs → ∀ ls : Array Slot, lv_has ls 8 [(7, .int x7_12), (6, .int x6_12), (5, .int x5_12), (4, .int x4_12), (0, .ref (g 1)), (1, .int (nI n)), (2, .int z), (3, .int w)] → W p l e (jR 5) s m ([.ref (g 1), .int (nI n), .int z, .int w] : List Value).toArray below meth c H locs 0 0 (MQ below (va_Qi (S := BayT) (fun r u => r = if w = 0 then (dlz_ B z n).2.1 else (dlz_ B z n).2.2) (fun u t => va_P D vwCl ((fun u => miO g ++ bW cI g 4 B ++ bW cI g 10 u) u) t.heap) A) ([.ref (g 1), .int (nI n), .int z, .int w] : List Value).toArray s 0 0 A) (F0 m 12 ls []) := by
    intro fu_12
    induction fu_12 with
    | zero => intro i x4_12 x5_12 x6_12 x7_12 T2 hx4_12 hx5_12 hx6_12 hx7_12 hi hfu; exact absurd hfu (Nat.not_lt_zero _)
    | succ fu_12 ih_12 =>
      intro i x4_12 x5_12 x6_12 x7_12 T2 hx4_12 hx5_12 hx6_12 hx7_12 hi hfu_12 H locs hP hD hS ls hl
      subst x4_12
      subst x5_12
      subst x6_12
      subst x7_12
      replace hl : lv_has ls 8 [(7, .int (nI i)), (6, .int ((dlz_ B z i).2.2)), (5, .int ((dlz_ B z i).2.1)), (4, .int ((dlz_ B z i).1)), (0, .ref (g 1)), (1, .int (nI n)), (2, .int z), (3, .int w)] := hl
      replace hP : va_P D vwCl (miO g ++ bW cI g 4 B ++ bW cI g 10 T2) H := hP
      replace hD : va_D A (miO g ++ bW cI g 4 B ++ bW cI g 10 T2) := hD
      refine lv_iload hx hb dX2_drawLots_12 (lv_at hl 0 rfl) ?_
      refine lv_iload_n hx hb dX2_drawLots_14 rfl (lv_at hl 5 rfl) ?_
      refine lv_icmp_ge (tgt := 83) hx hb dX2_drawLots_15 (by decide) (fun c_15 => ?_) (fun c_15 => ?_)
      · replace c_15 : nI n ≤ nI i := c_15
        rw [jle (by omega) (by omega)] at c_15
        refine lv_iload_n hx hb dX2_drawLots_83 rfl (lv_at hl 7 rfl) ?_
        refine lv_if_ne (tgt := 92) hx hb dX2_drawLots_84 (by decide) (fun c_84 => ?_) (fun c_84 => ?_)
        · skip
          refine lv_iload hx hb dX2_drawLots_92 (lv_at hl 1 rfl) ?_
          refine rMi hx hb hr hlk hS T2 hP ?_ dX2_drawLots_94
          have e9 : i = n := by omega
          subst e9
          first | rw [if_pos c_84] | rw [if_neg c_84]
        · skip
          refine lv_iload hx hb dX2_drawLots_87 (lv_at hl 2 rfl) ?_
          refine lv_goto (tgt := 94) hx hb dX2_drawLots_89 (by decide) ?_
          refine rMi hx hb hr hlk hS T2 hP ?_ dX2_drawLots_94
          have e9 : i = n := by omega
          subst e9
          first | rw [if_pos c_84] | rw [if_neg c_84]
      · replace c_15 : ¬ nI n ≤ nI i := c_15
        rw [jle (by omega) (by omega)] at c_15
        refine lv_aload_n hx hb dX2_drawLots_18 rfl (lv_at hl 4 rfl) ?_
        refine lv_iload hx hb dX2_drawLots_19 (lv_at hl 3 rfl) ?_
        refine kMiV hx hb hml hown hts hK hP hD hA hS gX2_drawLots_X2_layOut okX2_layOut (qX2_layOut l D cI cB g B T2 ((dlz_ B z i).1) (by show sn_ B ≤ 7; omega)) [0, 1, 2, 3, 4, 5, 6, 7, 8, 9, 10, 11, 12] rfl (by decide) (fun _ => rfl) rfl rfl rfl (by decide) hl.1 rfl rfl (Nat.le_of_ble_eq_true rfl) dX2_drawLots_21 (by decide) (fun r_1 u_2 H locs hw_3 hP hD hS => ?_)
        replace hw_3 : r_1 = (lqz_ B ((dlz_ B z i).1) (sn_ B)).1 ∧ u_2 = layz_ B ((dlz_ B z i).1) (sn_ B) := hw_3
        obtain ⟨hw_3a, hw_3b⟩ := hw_3
        subst r_1
        subst u_2
        replace hP : va_P D vwCl (miO g ++ bW cI g 4 B ++ bW cI g 10 (layz_ B ((dlz_ B z i).1) (sn_ B))) H := hP
        replace hD : va_D A (miO g ++ bW cI g 4 B ++ bW cI g 10 (layz_ B ((dlz_ B z i).1) (sn_ B))) := hD
        refine lv_istore (lv' := [(4, .int ((lqz_ B ((dlz_ B z i).1) (sn_ B)).1)), (7, .int (nI i)), (6, .int ((dlz_ B z i).2.2)), (5, .int ((dlz_ B z i).2.1)), (0, .ref (g 1)), (1, .int (nI n)), (2, .int z), (3, .int w)]) hx hb dX2_drawLots_24 hl (by decide) rfl (fun ls hl => ?_)
        refine lv_aload_n hx hb dX2_drawLots_26 rfl (lv_at hl 4 rfl) ?_
        refine va_get (ci := 2) (C := RX2) (T := TX2) (N := 4) hx hb hts hinX2 hown hK.1 hP 0 rfl rfl 1 (by decide) (hts _ (List.mem_of_getElem? (i := 1) rfl)) (fun _ h9 => h9) rfl dX2_drawLots_27 ?_
        refine lv_bipush (v := 24) hx hb dX2_drawLots_30 (by decide) ?_
        refine kMvN hx hb hml hown hts hK hP hD hA hS gX2_drawLots_X0_passHours_n36 (hK.2 _ (List.mem_of_getElem? (i := 82) rfl)) (hts _ (List.mem_of_getElem? (i := 13) rfl)) (hts _ (List.mem_of_getElem? (i := 42) rfl)) (hts _ (List.mem_of_getElem? (i := 43) rfl)) okX0_passHours (qX0_passHours l D cI cB g 10 (layz_ B ((dlz_ B z i).1) (sn_ B)) 24 (by show sn_ (layz_ _ _ _) ≤ 7; exact hn7) (by decide)) [7, 8, 9, 10, 11, 12] rfl (by decide) (fun _ => rfl) rfl rfl rfl (by decide) hl.1 rfl rfl (Nat.le_of_ble_eq_true rfl) dX2_drawLots_32 (by decide) (fun u_5 H locs hw_6 hP hD hS => ?_)
        replace hw_6 : u_5 = hs_ 24 (layz_ B ((dlz_ B z i).1) (sn_ B)) := hw_6
        subst u_5
        replace hP : va_P D vwCl (miO g ++ bW cI g 4 B ++ bW cI g 10 (hs_ 24 (layz_ B ((dlz_ B z i).1) (sn_ B)))) H := hP
        replace hD : va_D A (miO g ++ bW cI g 4 B ++ bW cI g 10 (hs_ 24 (layz_ B ((dlz_ B z i).1) (sn_ B)))) := hD
        refine lv_iload hx hb dX2_drawLots_35 (lv_at hl 3 rfl) ?_
        refine lv_aload_n hx hb dX2_drawLots_37 rfl (lv_at hl 4 rfl) ?_
        refine va_get (ci := 2) (C := RX2) (T := TX2) (N := 4) hx hb hts hinX2 hown hK.1 hP 0 rfl rfl 1 (by decide) (hts _ (List.mem_of_getElem? (i := 1) rfl)) (fun _ h9 => h9) rfl dX2_drawLots_38 ?_
        refine kSiN hx hb hml hown hts hK hP gX2_drawLots_X0_joyTogether_n154 (hK.2 _ (List.mem_of_getElem? (i := 114) rfl)) (hts _ (List.mem_of_getElem? (i := 13) rfl)) (hts _ (List.mem_of_getElem? (i := 107) rfl)) (hts _ (List.mem_of_getElem? (i := 108) rfl)) okX0_joyTogether (qX0_joyTogether l D cI cB g 10 (hs_ 24 (layz_ B ((dlz_ B z i).1) (sn_ B))) (by show sn_ (hs_ _ _) ≤ 7; rw [sn_hs]; exact hn7)) [7, 8, 9, 10, 11, 12] rfl rfl rfl rfl (by decide) hl.1 rfl rfl (Nat.le_of_ble_eq_true rfl) dX2_drawLots_41 (by decide) (fun r_7 hr_8 => ?_)
        replace hr_8 : r_7 = su_ (jy_ (hs_ 24 (layz_ B ((dlz_ B z i).1) (sn_ B)))) (sn_ (hs_ 24 (layz_ B ((dlz_ B z i).1) (sn_ B)))) := hr_8
        subst r_7
        refine lv_aload_n hx hb dX2_drawLots_44 rfl (lv_at hl 4 rfl) ?_
        refine va_get (ci := 2) (C := RX2) (T := TX2) (N := 4) hx hb hts hinX2 hown hK.1 hP 0 rfl rfl 0 (by decide) (hts _ (List.mem_of_getElem? (i := 2) rfl)) (fun _ h9 => h9) rfl dX2_drawLots_45 ?_
        refine kSiN hx hb hml hown hts hK hP gX2_drawLots_X0_joyTogether_n154 (hK.2 _ (List.mem_of_getElem? (i := 114) rfl)) (hts _ (List.mem_of_getElem? (i := 13) rfl)) (hts _ (List.mem_of_getElem? (i := 107) rfl)) (hts _ (List.mem_of_getElem? (i := 108) rfl)) okX0_joyTogether (qX0_joyTogether l D cI cB g 4 B (by show sn_ B ≤ 7; omega)) [1, 2, 3, 4, 5, 6] rfl rfl rfl rfl (by decide) hl.1 rfl rfl (Nat.le_of_ble_eq_true rfl) dX2_drawLots_48 (by decide) (fun r_9 hr_10 => ?_)
        replace hr_10 : r_9 = su_ (jy_ B) (sn_ B) := hr_10
        subst r_9
        refine lv_isub hx hb dX2_drawLots_51 ?_
        refine lv_iadd hx hb dX2_drawLots_52 ?_
        refine lv_istore (lv' := [(5, .int (((dlz_ B z i).2.1) + ((su_ (jy_ (hs_ 24 (layz_ B ((dlz_ B z i).1) (sn_ B)))) (sn_ (hs_ 24 (layz_ B ((dlz_ B z i).1) (sn_ B))))) - (su_ (jy_ B) (sn_ B))))), (4, .int ((lqz_ B ((dlz_ B z i).1) (sn_ B)).1)), (7, .int (nI i)), (6, .int ((dlz_ B z i).2.2)), (0, .ref (g 1)), (1, .int (nI n)), (2, .int z), (3, .int w)]) hx hb dX2_drawLots_53 hl (by decide) rfl (fun ls hl => ?_)
        refine lv_iload hx hb dX2_drawLots_55 (lv_at hl 3 rfl) ?_
        refine lv_aload_n hx hb dX2_drawLots_57 rfl (lv_at hl 4 rfl) ?_
        refine va_get (ci := 2) (C := RX2) (T := TX2) (N := 4) hx hb hts hinX2 hown hK.1 hP 0 rfl rfl 1 (by decide) (hts _ (List.mem_of_getElem? (i := 1) rfl)) (fun _ h9 => h9) rfl dX2_drawLots_58 ?_
        refine kSiN hx hb hml hown hts hK hP gX2_drawLots_X0_owner_n52 (hK.2 _ (List.mem_of_getElem? (i := 87) rfl)) (hts _ (List.mem_of_getElem? (i := 13) rfl)) (hts _ (List.mem_of_getElem? (i := 100) rfl)) (hts _ (List.mem_of_getElem? (i := 101) rfl)) okX0_owner (qX0_owner l D cI cB g 10 (hs_ 24 (layz_ B ((dlz_ B z i).1) (sn_ B))) (by show sn_ (hs_ _ _) ≤ 7; rw [sn_hs]; exact hn7)) [7, 8, 9, 10, 11, 12] rfl rfl rfl rfl (by decide) hl.1 rfl rfl (Nat.le_of_ble_eq_true rfl) dX2_drawLots_61 (by decide) (fun r_11 hr_12 => ?_)
        replace hr_12 : r_11 = oI_ (ow_ (hs_ 24 (layz_ B ((dlz_ B z i).1) (sn_ B)))) := hr_12
        subst r_11
        refine lv_bipush (v := (-9)) hx hb dX2_drawLots_64 (by decide) ?_
        refine lv_icmp_eq (tgt := 73) hx hb dX2_drawLots_66 (by decide) (fun c_66 => ?_) (fun c_66 => ?_)
        · rw [show ow_ (hs_ 24 (layz_ B (dlz_ B z i).1 (sn_ B))) = sa_ (hs_ 24 (layz_ B (dlz_ B z i).1 (sn_ B))) (il_ (hs_ 24 (layz_ B (dlz_ B z i).1 (sn_ B)))) from rfl, sa_9 (by rw [sn_hs]; exact hn7)] at c_66
          refine lv_iconst (v := 0) hx hb dX2_drawLots_73 (by decide) ?_
          refine lv_iadd hx hb dX2_drawLots_74 ?_
          refine lv_istore (lv' := [(6, .int (((dlz_ B z i).2.2) + 0)), (5, .int (((dlz_ B z i).2.1) + ((su_ (jy_ (hs_ 24 (layz_ B ((dlz_ B z i).1) (sn_ B)))) (sn_ (hs_ 24 (layz_ B ((dlz_ B z i).1) (sn_ B))))) - (su_ (jy_ B) (sn_ B))))), (4, .int ((lqz_ B ((dlz_ B z i).1) (sn_ B)).1)), (7, .int (nI i)), (0, .ref (g 1)), (1, .int (nI n)), (2, .int z), (3, .int w)]) hx hb dX2_drawLots_75 hl (by decide) rfl (fun ls hl => ?_)
          refine lv_iinc (v := (nI i) + 1) (lv' := [(7, .int ((nI i) + 1)), (6, .int (((dlz_ B z i).2.2) + 0)), (5, .int (((dlz_ B z i).2.1) + ((su_ (jy_ (hs_ 24 (layz_ B ((dlz_ B z i).1) (sn_ B)))) (sn_ (hs_ 24 (layz_ B ((dlz_ B z i).1) (sn_ B))))) - (su_ (jy_ B) (sn_ B))))), (4, .int ((lqz_ B ((dlz_ B z i).1) (sn_ B)).1)), (0, .ref (g 1)), (1, .int (nI n)), (2, .int z), (3, .int w)]) hx hb dX2_drawLots_77 hl (k := 3) rfl (by first | rfl | decide) (by decide) rfl (fun ls hl => ?_)
          refine lv_goto (tgt := 12) hx hb dX2_drawLots_80 (by decide) ?_
          exact ih_12 (i + 1) ((lqz_ B ((dlz_ B z i).1) (sn_ B)).1) (((dlz_ B z i).2.1) + ((su_ (jy_ (hs_ 24 (layz_ B ((dlz_ B z i).1) (sn_ B)))) (sn_ (hs_ 24 (layz_ B ((dlz_ B z i).1) (sn_ B))))) - (su_ (jy_ B) (sn_ B)))) (((dlz_ B z i).2.2) + 0) ((nI i) + 1) (hs_ 24 (layz_ B ((dlz_ B z i).1) (sn_ B))) (dlz_z) (dlz_j (by rw [sn_hs]; rfl)) (by first | exact dlz_a c_66 | exact dlz_b c_66) (by first | rfl | exact nI_1 _) (by omega) (by omega) _ _ hP hD hS ls (lv_sub hl [0, 1, 2, 3, 4, 5, 6, 7] rfl)
        · rw [show ow_ (hs_ 24 (layz_ B (dlz_ B z i).1 (sn_ B))) = sa_ (hs_ 24 (layz_ B (dlz_ B z i).1 (sn_ B))) (il_ (hs_ 24 (layz_ B (dlz_ B z i).1 (sn_ B)))) from rfl, sa_9 (by rw [sn_hs]; exact hn7)] at c_66
          refine lv_iconst (v := 1) hx hb dX2_drawLots_69 (by decide) ?_
          refine lv_goto (tgt := 74) hx hb dX2_drawLots_70 (by decide) ?_
          refine lv_iadd hx hb dX2_drawLots_74 ?_
          refine lv_istore (lv' := [(6, .int (((dlz_ B z i).2.2) + 1)), (5, .int (((dlz_ B z i).2.1) + ((su_ (jy_ (hs_ 24 (layz_ B ((dlz_ B z i).1) (sn_ B)))) (sn_ (hs_ 24 (layz_ B ((dlz_ B z i).1) (sn_ B))))) - (su_ (jy_ B) (sn_ B))))), (4, .int ((lqz_ B ((dlz_ B z i).1) (sn_ B)).1)), (7, .int (nI i)), (0, .ref (g 1)), (1, .int (nI n)), (2, .int z), (3, .int w)]) hx hb dX2_drawLots_75 hl (by decide) rfl (fun ls hl => ?_)
          refine lv_iinc (v := (nI i) + 1) (lv' := [(7, .int ((nI i) + 1)), (6, .int (((dlz_ B z i).2.2) + 1)), (5, .int (((dlz_ B z i).2.1) + ((su_ (jy_ (hs_ 24 (layz_ B ((dlz_ B z i).1) (sn_ B)))) (sn_ (hs_ 24 (layz_ B ((dlz_ B z i).1) (sn_ B))))) - (su_ (jy_ B) (sn_ B))))), (4, .int ((lqz_ B ((dlz_ B z i).1) (sn_ B)).1)), (0, .ref (g 1)), (1, .int (nI n)), (2, .int z), (3, .int w)]) hx hb dX2_drawLots_77 hl (k := 3) rfl (by first | rfl | decide) (by decide) rfl (fun ls hl => ?_)
          refine lv_goto (tgt := 12) hx hb dX2_drawLots_80 (by decide) ?_
          exact ih_12 (i + 1) ((lqz_ B ((dlz_ B z i).1) (sn_ B)).1) (((dlz_ B z i).2.1) + ((su_ (jy_ (hs_ 24 (layz_ B ((dlz_ B z i).1) (sn_ B)))) (sn_ (hs_ 24 (layz_ B ((dlz_ B z i).1) (sn_ B))))) - (su_ (jy_ B) (sn_ B)))) (((dlz_ B z i).2.2) + 1) ((nI i) + 1) (hs_ 24 (layz_ B ((dlz_ B z i).1) (sn_ B))) (dlz_z) (dlz_j (by rw [sn_hs]; rfl)) (by first | exact dlz_a c_66 | exact dlz_b c_66) (by first | rfl | exact nI_1 _) (by omega) (by omega) _ _ hP hD hS ls (lv_sub hl [0, 1, 2, 3, 4, 5, 6, 7] rfl)
  exact lp_12 (n + 1) 0 z 0 0 0 T (by rw [dlz_]) (by rw [dlz_]) (by rw [dlz_]) (by first | rfl | exact nI_0.symm) (by omega) (by omega) _ _ hP hD hS ls (lv_sub hl [0, 1, 2, 3, 4, 5, 6, 7] rfl)

