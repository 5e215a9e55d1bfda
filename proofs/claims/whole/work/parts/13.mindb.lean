theorem okJ6_bitCount_0f7a4 : jok yJ6_bitCount_0f7a4 wsJ6_bitCount_0f7a4 cJ6_bitCount_0f7a4 1 (some .int) 1 := ⟨⟨_, rfl⟩, by decide +kernel, by decide +kernel⟩
set_option maxHeartbeats 1000000 in
set_option maxRecDepth 100000 in
theorem qJ6_bitCount_0f7a4 (l : Launch) (D : va_G) (cI cB : ClassId) (b : Nat) (hb128 : b < 128) : jSi D cI cB l yJ6_bitCount_0f7a4 wsJ6_bitCount_0f7a4 0 [.int (nI b)] ([] : va_W) (fun r => r = nI (pn_ b)) := by
  refine jSi.of (cc := cJ6_bitCount_0f7a4) (maxL := 1) (ret := (some .int)) okJ6_bitCount_0f7a4 (Nat.le_of_ble_eq_true rfl) ?_
  intro p e s m below meth c ls hx hb hr hts hown hlk hml hP hK hl
  replace hown : s.vm.findClass RJ6 = some m.cls := hown
  replace hl : lv_has ls 1 [(0, .int (nI b))] := hl
  refine lv_iload_n hx hb dJ6_bitCount_0f7a4_0 rfl (lv_at hl 0 rfl) ?_
  refine lv_iload_n hx hb dJ6_bitCount_0f7a4_1 rfl (lv_at hl 0 rfl) ?_
  refine lv_iconst (v := 1) hx hb dJ6_bitCount_0f7a4_2 (by decide) ?_
  refine lv_iushr hx hb dJ6_bitCount_0f7a4_3 rfl ?_
  refine lv_ldcw hx hb hown (hts _ (List.mem_of_getElem? (i := 1) rfl)) dJ6_bitCount_0f7a4_4 ?_
  refine lv_iand hx hb dJ6_bitCount_0f7a4_7 ?_
  refine lv_isub hx hb dJ6_bitCount_0f7a4_8 ?_
  refine lv_istore_n (lv' := [(0, .int ((nI b) - ((((nI b).toUInt32 >>> ((1 : Int32).toUInt32 &&& Int32.toUInt32 31)).toInt32) &&& 1431655765)))]) hx hb dJ6_bitCount_0f7a4_9 rfl hl (by decide) rfl (fun ls hl => ?_)
  refine lv_iload_n hx hb dJ6_bitCount_0f7a4_10 rfl (lv_at hl 0 rfl) ?_
  refine lv_ldcw hx hb hown (hts _ (List.mem_of_getElem? (i := 2) rfl)) dJ6_bitCount_0f7a4_11 ?_
  refine lv_iand hx hb dJ6_bitCount_0f7a4_14 ?_
  refine lv_iload_n hx hb dJ6_bitCount_0f7a4_15 rfl (lv_at hl 0 rfl) ?_
  refine lv_iconst (v := 2) hx hb dJ6_bitCount_0f7a4_16 (by decide) ?_
  refine lv_iushr hx hb dJ6_bitCount_0f7a4_17 rfl ?_
  refine lv_ldcw hx hb hown (hts _ (List.mem_of_getElem? (i := 2) rfl)) dJ6_bitCount_0f7a4_18 ?_
  refine lv_iand hx hb dJ6_bitCount_0f7a4_21 ?_
  refine lv_iadd hx hb dJ6_bitCount_0f7a4_22 ?_
  refine lv_istore_n (lv' := [(0, .int ((((nI b) - ((((nI b).toUInt32 >>> ((1 : Int32).toUInt32 &&& Int32.toUInt32 31)).toInt32) &&& 1431655765)) &&& 858993459) + (((((nI b) - ((((nI b).toUInt32 >>> ((1 : Int32).toUInt32 &&& Int32.toUInt32 31)).toInt32) &&& 1431655765)).toUInt32 >>> ((2 : Int32).toUInt32 &&& Int32.toUInt32 31)).toInt32) &&& 858993459)))]) hx hb dJ6_bitCount_0f7a4_23 rfl hl (by decide) rfl (fun ls hl => ?_)
  refine lv_iload_n hx hb dJ6_bitCount_0f7a4_24 rfl (lv_at hl 0 rfl) ?_
  refine lv_iload_n hx hb dJ6_bitCount_0f7a4_25 rfl (lv_at hl 0 rfl) ?_
  refine lv_iconst (v := 4) hx hb dJ6_bitCount_0f7a4_26 (by decide) ?_
  refine lv_iushr hx hb dJ6_bitCount_0f7a4_27 rfl ?_
  refine lv_iadd hx hb dJ6_bitCount_0f7a4_28 ?_
  refine lv_ldcw hx hb hown (hts _ (List.mem_of_getElem? (i := 3) rfl)) dJ6_bitCount_0f7a4_29 ?_
  refine lv_iand hx hb dJ6_bitCount_0f7a4_32 ?_
  refine lv_istore_n (lv' := [(0, .int ((((((nI b) - ((((nI b).toUInt32 >>> ((1 : Int32).toUInt32 &&& Int32.toUInt32 31)).toInt32) &&& 1431655765)) &&& 858993459) + (((((nI b) - ((((nI b).toUInt32 >>> ((1 : Int32).toUInt32 &&& Int32.toUInt32 31)).toInt32) &&& 1431655765)).toUInt32 >>> ((2 : Int32).toUInt32 &&& Int32.toUInt32 31)).toInt32) &&& 858993459)) + ((((((nI b) - ((((nI b).toUInt32 >>> ((1 : Int32).toUInt32 &&& Int32.toUInt32 31)).toInt32) &&& 1431655765)) &&& 858993459) + (((((nI b) - ((((nI b).toUInt32 >>> ((1 : Int32).toUInt32 &&& Int32.toUInt32 31)).toInt32) &&& 1431655765)).toUInt32 >>> ((2 : Int32).toUInt32 &&& Int32.toUInt32 31)).toInt32) &&& 858993459)).toUInt32 >>> ((4 : Int32).toUInt32 &&& Int32.toUInt32 31)).toInt32)) &&& 252645135))]) hx hb dJ6_bitCount_0f7a4_33 rfl hl (by decide) rfl (fun ls hl => ?_)
  refine lv_iload_n hx hb dJ6_bitCount_0f7a4_34 rfl (lv_at hl 0 rfl) ?_
  refine lv_iload_n hx hb dJ6_bitCount_0f7a4_35 rfl (lv_at hl 0 rfl) ?_
  refine lv_bipush (v := 8) hx hb dJ6_bitCount_0f7a4_36 (by decide) ?_
  refine lv_iushr hx hb dJ6_bitCount_0f7a4_38 rfl ?_
  refine lv_iadd hx hb dJ6_bitCount_0f7a4_39 ?_
  refine lv_istore_n (lv' := [(0, .int (((((((nI b) - ((((nI b).toUInt32 >>> ((1 : Int32).toUInt32 &&& Int32.toUInt32 31)).toInt32) &&& 1431655765)) &&& 858993459) + (((((nI b) - ((((nI b).toUInt32 >>> ((1 : Int32).toUInt32 &&& Int32.toUInt32 31)).toInt32) &&& 1431655765)).toUInt32 >>> ((2 : Int32).toUInt32 &&& Int32.toUInt32 31)).toInt32) &&& 858993459)) + ((((((nI b) - ((((nI b).toUInt32 >>> ((1 : Int32).toUInt32 &&& Int32.toUInt32 31)).toInt32) &&& 1431655765)) &&& 858993459) + (((((nI b) - ((((nI b).toUInt32 >>> ((1 : Int32).toUInt32 &&& Int32.toUInt32 31)).toInt32) &&& 1431655765)).toUInt32 >>> ((2 : Int32).toUInt32 &&& Int32.toUInt32 31)).toInt32) &&& 858993459)).toUInt32 >>> ((4 : Int32).toUInt32 &&& Int32.toUInt32 31)).toInt32)) &&& 252645135) + ((((((((nI b) - ((((nI b).toUInt32 >>> ((1 : Int32).toUInt32 &&& Int32.toUInt32 31)).toInt32) &&& 1431655765)) &&& 858993459) + (((((nI b) - ((((nI b).toUInt32 >>> ((1 : Int32).toUInt32 &&& Int32.toUInt32 31)).toInt32) &&& 1431655765)).toUInt32 >>> ((2 : Int32).toUInt32 &&& Int32.toUInt32 31)).toInt32) &&& 858993459)) + ((((((nI b) - ((((nI b).toUInt32 >>> ((1 : Int32).toUInt32 &&& Int32.toUInt32 31)).toInt32) &&& 1431655765)) &&& 858993459) + (((((nI b) - ((((nI b).toUInt32 >>> ((1 : Int32).toUInt32 &&& Int32.toUInt32 31)).toInt32) &&& 1431655765)).toUInt32 >>> ((2 : Int32).toUInt32 &&& Int32.toUInt32 31)).toInt32) &&& 858993459)).toUInt32 >>> ((4 : Int32).toUInt32 &&& Int32.toUInt32 31)).toInt32)) &&& 252645135).toUInt32 >>> ((8 : Int32).toUInt32 &&& Int32.toUInt32 31)).toInt32)))]) hx hb dJ6_bitCount_0f7a4_40 rfl hl (by decide) rfl (fun ls hl => ?_)
  refine lv_iload_n hx hb dJ6_bitCount_0f7a4_41 rfl (lv_at hl 0 rfl) ?_
  refine lv_iload_n hx hb dJ6_bitCount_0f7a4_42 rfl (lv_at hl 0 rfl) ?_
  refine lv_bipush (v := 16) hx hb dJ6_bitCount_0f7a4_43 (by decide) ?_
  refine lv_iushr hx hb dJ6_bitCount_0f7a4_45 rfl ?_
  refine lv_iadd hx hb dJ6_bitCount_0f7a4_46 ?_
  refine lv_istore_n (lv' := [(0, .int ((((((((nI b) - ((((nI b).toUInt32 >>> ((1 : Int32).toUInt32 &&& Int32.toUInt32 31)).toInt32) &&& 1431655765)) &&& 858993459) + (((((nI b) - ((((nI b).toUInt32 >>> ((1 : Int32).toUInt32 &&& Int32.toUInt32 31)).toInt32) &&& 1431655765)).toUInt32 >>> ((2 : Int32).toUInt32 &&& Int32.toUInt32 31)).toInt32) &&& 858993459)) + ((((((nI b) - ((((nI b).toUInt32 >>> ((1 : Int32).toUInt32 &&& Int32.toUInt32 31)).toInt32) &&& 1431655765)) &&& 858993459) + (((((nI b) - ((((nI b).toUInt32 >>> ((1 : Int32).toUInt32 &&& Int32.toUInt32 31)).toInt32) &&& 1431655765)).toUInt32 >>> ((2 : Int32).toUInt32 &&& Int32.toUInt32 31)).toInt32) &&& 858993459)).toUInt32 >>> ((4 : Int32).toUInt32 &&& Int32.toUInt32 31)).toInt32)) &&& 252645135) + ((((((((nI b) - ((((nI b).toUInt32 >>> ((1 : Int32).toUInt32 &&& Int32.toUInt32 31)).toInt32) &&& 1431655765)) &&& 858993459) + (((((nI b) - ((((nI b).toUInt32 >>> ((1 : Int32).toUInt32 &&& Int32.toUInt32 31)).toInt32) &&& 1431655765)).toUInt32 >>> ((2 : Int32).toUInt32 &&& Int32.toUInt32 31)).toInt32) &&& 858993459)) + ((((((nI b) - ((((nI b).toUInt32 >>> ((1 : Int32).toUInt32 &&& Int32.toUInt32 31)).toInt32) &&& 1431655765)) &&& 858993459) + (((((nI b) - ((((nI b).toUInt32 >>> ((1 : Int32).toUInt32 &&& Int32.toUInt32 31)).toInt32) &&& 1431655765)).toUInt32 >>> ((2 : Int32).toUInt32 &&& Int32.toUInt32 31)).toInt32) &&& 858993459)).toUInt32 >>> ((4 : Int32).toUInt32 &&& Int32.toUInt32 31)).toInt32)) &&& 252645135).toUInt32 >>> ((8 : Int32).toUInt32 &&& Int32.toUInt32 31)).toInt32)) + (((((((((nI b) - ((((nI b).toUInt32 >>> ((1 : Int32).toUInt32 &&& Int32.toUInt32 31)).toInt32) &&& 1431655765)) &&& 858993459) + (((((nI b) - ((((nI b).toUInt32 >>> ((1 : Int32).toUInt32 &&& Int32.toUInt32 31)).toInt32) &&& 1431655765)).toUInt32 >>> ((2 : Int32).toUInt32 &&& Int32.toUInt32 31)).toInt32) &&& 858993459)) + ((((((nI b) - ((((nI b).toUInt32 >>> ((1 : Int32).toUInt32 &&& Int32.toUInt32 31)).toInt32) &&& 1431655765)) &&& 858993459) + (((((nI b) - ((((nI b).toUInt32 >>> ((1 : Int32).toUInt32 &&& Int32.toUInt32 31)).toInt32) &&& 1431655765)).toUInt32 >>> ((2 : Int32).toUInt32 &&& Int32.toUInt32 31)).toInt32) &&& 858993459)).toUInt32 >>> ((4 : Int32).toUInt32 &&& Int32.toUInt32 31)).toInt32)) &&& 252645135) + ((((((((nI b) - ((((nI b).toUInt32 >>> ((1 : Int32).toUInt32 &&& Int32.toUInt32 31)).toInt32) &&& 1431655765)) &&& 858993459) + (((((nI b) - ((((nI b).toUInt32 >>> ((1 : Int32).toUInt32 &&& Int32.toUInt32 31)).toInt32) &&& 1431655765)).toUInt32 >>> ((2 : Int32).toUInt32 &&& Int32.toUInt32 31)).toInt32) &&& 858993459)) + ((((((nI b) - ((((nI b).toUInt32 >>> ((1 : Int32).toUInt32 &&& Int32.toUInt32 31)).toInt32) &&& 1431655765)) &&& 858993459) + (((((nI b) - ((((nI b).toUInt32 >>> ((1 : Int32).toUInt32 &&& Int32.toUInt32 31)).toInt32) &&& 1431655765)).toUInt32 >>> ((2 : Int32).toUInt32 &&& Int32.toUInt32 31)).toInt32) &&& 858993459)).toUInt32 >>> ((4 : Int32).toUInt32 &&& Int32.toUInt32 31)).toInt32)) &&& 252645135).toUInt32 >>> ((8 : Int32).toUInt32 &&& Int32.toUInt32 31)).toInt32)).toUInt32 >>> ((16 : Int32).toUInt32 &&& Int32.toUInt32 31)).toInt32)))]) hx hb dJ6_bitCount_0f7a4_47 rfl hl (by decide) rfl (fun ls hl => ?_)
  refine lv_iload_n hx hb dJ6_bitCount_0f7a4_48 rfl (lv_at hl 0 rfl) ?_
  refine lv_bipush (v := 63) hx hb dJ6_bitCount_0f7a4_49 (by decide) ?_
  refine lv_iand hx hb dJ6_bitCount_0f7a4_51 ?_
  refine rSi hx hb hr hlk ?_ dJ6_bitCount_0f7a4_52
  show (((((((((nI b) - ((((nI b).toUInt32 >>> ((1 : Int32).toUInt32 &&& Int32.toUInt32 31)).toInt32) &&& 1431655765)) &&& 858993459) + (((((nI b) - ((((nI b).toUInt32 >>> ((1 : Int32).toUInt32 &&& Int32.toUInt32 31)).toInt32) &&& 1431655765)).toUInt32 >>> ((2 : Int32).toUInt32 &&& Int32.toUInt32 31)).toInt32) &&& 858993459)) + ((((((nI b) - ((((nI b).toUInt32 >>> ((1 : Int32).toUInt32 &&& Int32.toUInt32 31)).toInt32) &&& 1431655765)) &&& 858993459) + (((((nI b) - ((((nI b).toUInt32 >>> ((1 : Int32).toUInt32 &&& Int32.toUInt32 31)).toInt32) &&& 1431655765)).toUInt32 >>> ((2 : Int32).toUInt32 &&& Int32.toUInt32 31)).toInt32) &&& 858993459)).toUInt32 >>> ((4 : Int32).toUInt32 &&& Int32.toUInt32 31)).toInt32)) &&& 252645135) + ((((((((nI b) - ((((nI b).toUInt32 >>> ((1 : Int32).toUInt32 &&& Int32.toUInt32 31)).toInt32) &&& 1431655765)) &&& 858993459) + (((((nI b) - ((((nI b).toUInt32 >>> ((1 : Int32).toUInt32 &&& Int32.toUInt32 31)).toInt32) &&& 1431655765)).toUInt32 >>> ((2 : Int32).toUInt32 &&& Int32.toUInt32 31)).toInt32) &&& 858993459)) + ((((((nI b) - ((((nI b).toUInt32 >>> ((1 : Int32).toUInt32 &&& Int32.toUInt32 31)).toInt32) &&& 1431655765)) &&& 858993459) + (((((nI b) - ((((nI b).toUInt32 >>> ((1 : Int32).toUInt32 &&& Int32.toUInt32 31)).toInt32) &&& 1431655765)).toUInt32 >>> ((2 : Int32).toUInt32 &&& Int32.toUInt32 31)).toInt32) &&& 858993459)).toUInt32 >>> ((4 : Int32).toUInt32 &&& Int32.toUInt32 31)).toInt32)) &&& 252645135).toUInt32 >>> ((8 : Int32).toUInt32 &&& Int32.toUInt32 31)).toInt32)) + (((((((((nI b) - ((((nI b).toUInt32 >>> ((1 : Int32).toUInt32 &&& Int32.toUInt32 31)).toInt32) &&& 1431655765)) &&& 858993459) + (((((nI b) - ((((nI b).toUInt32 >>> ((1 : Int32).toUInt32 &&& Int32.toUInt32 31)).toInt32) &&& 1431655765)).toUInt32 >>> ((2 : Int32).toUInt32 &&& Int32.toUInt32 31)).toInt32) &&& 858993459)) + ((((((nI b) - ((((nI b).toUInt32 >>> ((1 : Int32).toUInt32 &&& Int32.toUInt32 31)).toInt32) &&& 1431655765)) &&& 858993459) + (((((nI b) - ((((nI b).toUInt32 >>> ((1 : Int32).toUInt32 &&& Int32.toUInt32 31)).toInt32) &&& 1431655765)).toUInt32 >>> ((2 : Int32).toUInt32 &&& Int32.toUInt32 31)).toInt32) &&& 858993459)).toUInt32 >>> ((4 : Int32).toUInt32 &&& Int32.toUInt32 31)).toInt32)) &&& 252645135) + ((((((((nI b) - ((((nI b).toUInt32 >>> ((1 : Int32).toUInt32 &&& Int32.toUInt32 31)).toInt32) &&& 1431655765)) &&& 858993459) + (((((nI b) - ((((nI b).toUInt32 >>> ((1 : Int32).toUInt32 &&& Int32.toUInt32 31)).toInt32) &&& 1431655765)).toUInt32 >>> ((2 : Int32).toUInt32 &&& Int32.toUInt32 31)).toInt32) &&& 858993459)) + ((((((nI b) - ((((nI b).toUInt32 >>> ((1 : Int32).toUInt32 &&& Int32.toUInt32 31)).toInt32) &&& 1431655765)) &&& 858993459) + (((((nI b) - ((((nI b).toUInt32 >>> ((1 : Int32).toUInt32 &&& Int32.toUInt32 31)).toInt32) &&& 1431655765)).toUInt32 >>> ((2 : Int32).toUInt32 &&& Int32.toUInt32 31)).toInt32) &&& 858993459)).toUInt32 >>> ((4 : Int32).toUInt32 &&& Int32.toUInt32 31)).toInt32)) &&& 252645135).toUInt32 >>> ((8 : Int32).toUInt32 &&& Int32.toUInt32 31)).toInt32)).toUInt32 >>> ((16 : Int32).toUInt32 &&& Int32.toUInt32 31)).toInt32)) &&& 63) = _
  exact pn_d ⟨b, hb128⟩

theorem okX2_timesWithHushed : jok yX2_timesWithHushed wsX2_timesWithHushed cX2_timesWithHushed 4 (some .int) 3 := ⟨⟨_, rfl⟩, by decide +kernel, by decide +kernel⟩
set_option maxHeartbeats 1000000 in
set_option maxRecDepth 100000 in
theorem qX2_timesWithHushed (l : Launch) (D : va_G) (cI cB : ClassId) (g : Nat → Nat) (B : BayT) (T : BayT) (k : Nat) (q : Int32) (n : Nat) (hn7 : sn_ B ≤ 7) (hk : k < 7) (hn : n ≤ 99) : jMi D cI cB l yX2_timesWithHushed wsX2_timesWithHushed 5 [.ref (g 1), .int (nI k), .int q, .int (nI n)] (miO g ++ bW cI g 4 B ++ bW cI g 10 T) (S := BayT) (fun r u => r = tc_ (uq_ B (qt_ B ||| q)) k n) (fun u => miO g ++ bW cI g 4 B ++ bW cI g 10 u) := by
  refine jMi.of (cc := cX2_timesWithHushed) (maxL := 4) (ret := (some .int)) okX2_timesWithHushed (Nat.le_of_ble_eq_true rfl) ?_
  intro p e s m below meth c ls A hx hb hr hts hown hlk hml hP hK hD hA hS hl
  replace hown : s.vm.findClass RX2 = some m.cls := hown
  replace hl : lv_has ls 4 [(0, .ref (g 1)), (1, .int (nI k)), (2, .int q), (3, .int (nI n))] := hl
  have hinX0 : ∀ w ∈ wsX00, w ∈ wsX2_timesWithHushed := by decide +kernel
  refine lv_aload_n hx hb dX2_timesWithHushed_0 rfl (lv_at hl 0 rfl) ?_
  refine kMrV hx hb hml hown hts hK hP hD hA hS gX2_timesWithHushed_X2_asNow okX2_asNow (qX2_asNow l D cI cB g B T ) [0, 1, 2, 3, 4, 5, 6, 7, 8, 9, 10, 11, 12] rfl (by decide) (fun _ => rfl) rfl rfl rfl (by decide) hl.1 rfl rfl (Nat.le_of_ble_eq_true rfl) dX2_timesWithHushed_1 (by decide) (fun u_2 H locs hw_3 hP hD hS => ?_)
  replace hw_3 : u_2 = B := hw_3
  subst u_2
  replace hP : va_P D vwCl (miO g ++ bW cI g 4 B ++ bW cI g 10 (B)) H := hP
  replace hD : va_D A (miO g ++ bW cI g 4 B ++ bW cI g 10 (B)) := hD
  refine lv_dup hx hb dX2_timesWithHushed_4 rfl ?_
  refine va_getN (ci := 0) (C := RX0) (T := TX0) (N := 11) hx hb hts hinX0 hown hK.1 hP 7 rfl rfl 5 (by decide) (va_Nw.use rfl (hK.2 _ (List.mem_of_getElem? (i := 10) rfl))) (fun _ h9 => h9) rfl dX2_timesWithHushed_5 ?_
  refine lv_iload_n hx hb dX2_timesWithHushed_8 rfl (lv_at hl 2 rfl) ?_
  refine lv_ior hx hb dX2_timesWithHushed_9 ?_
  refine lv_topi (fun y_4 ey_4 => ?_)
  replace ey_4 : y_4 = (qt_ (B)) ||| q := ey_4
  refine va_putN (ci := 0) (ty := .int) (C := RX0) (T := TX0) (N := 11) hx hb hts hinX0 tyX0 tyX0_ok nmX0 hown hK.1 hP hD hS 7 rfl rfl 5 (by decide) (va_Nw.use rfl (hK.2 _ (List.mem_of_getElem? (i := 10) rfl))) (fun _ h9 => h9) rfl (by decide +kernel) (rfl) (rfl) (Nat.le_of_ble_eq_true rfl) dX2_timesWithHushed_10 (fun H locs hP hD hS => ?_)
  replace hP : va_P D vwCl (miO g ++ bW cI g 4 B ++ bW cI g 10 (mkB (kd_ (B)) (fg_ (B)) (pl_ (B)) (pw_ (B)) (jy_ (B)) y_4 (sn_ (B)) (il_ (B)) (pa_ (B)) (ho_ (B)) (dy_ (B)))) H := hP
  replace hD : va_D A (miO g ++ bW cI g 4 B ++ bW cI g 10 (mkB (kd_ (B)) (fg_ (B)) (pl_ (B)) (pw_ (B)) (jy_ (B)) y_4 (sn_ (B)) (il_ (B)) (pa_ (B)) (ho_ (B)) (dy_ (B)))) := hD
  refine lv_aload_n hx hb dX2_timesWithHushed_13 rfl (lv_at hl 0 rfl) ?_
  refine lv_iload_n hx hb dX2_timesWithHushed_14 rfl (lv_at hl 1 rfl) ?_
  refine lv_iload_n hx hb dX2_timesWithHushed_15 rfl (lv_at hl 3 rfl) ?_
  refine kMiV hx hb hml hown hts hK hP hD hA hS gX2_timesWithHushed_X2_timesFromHere okX2_timesFromHere (qX2_timesFromHere l D cI cB g B (mkB (kd_ (B)) (fg_ (B)) (pl_ (B)) (pw_ (B)) (jy_ (B)) y_4 (sn_ (B)) (il_ (B)) (pa_ (B)) (ho_ (B)) (dy_ (B))) k n (by show sn_ B ≤ 7; omega) (by show sn_ B ≤ 7; omega) (by omega) (by omega)) [0, 1, 2, 3, 4, 5, 6, 7, 8, 9, 10, 11, 12] rfl (by decide) (fun _ => rfl) rfl rfl rfl (by decide) hl.1 rfl rfl (Nat.le_of_ble_eq_true rfl) dX2_timesWithHushed_16 (by decide) (fun r_5 u_6 H locs hw_7 hP hD hS => ?_)
  replace hw_7 : r_5 = tc_ (mkB (kd_ (B)) (fg_ (B)) (pl_ (B)) (pw_ (B)) (jy_ (B)) y_4 (sn_ (B)) (il_ (B)) (pa_ (B)) (ho_ (B)) (dy_ (B))) k n ∧ u_6 = hs_ n (mkB (kd_ (B)) (fg_ (B)) (pl_ (B)) (pw_ (B)) (jy_ (B)) y_4 (sn_ (B)) (il_ (B)) (pa_ (B)) (ho_ (B)) (dy_ (B))) := hw_7
  obtain ⟨hw_7a, hw_7b⟩ := hw_7
  subst r_5
  subst u_6
  replace hP : va_P D vwCl (miO g ++ bW cI g 4 B ++ bW cI g 10 (hs_ n (mkB (kd_ (B)) (fg_ (B)) (pl_ (B)) (pw_ (B)) (jy_ (B)) y_4 (sn_ (B)) (il_ (B)) (pa_ (B)) (ho_ (B)) (dy_ (B))))) H := hP
  replace hD : va_D A (miO g ++ bW cI g 4 B ++ bW cI g 10 (hs_ n (mkB (kd_ (B)) (fg_ (B)) (pl_ (B)) (pw_ (B)) (jy_ (B)) y_4 (sn_ (B)) (il_ (B)) (pa_ (B)) (ho_ (B)) (dy_ (B))))) := hD
  (try rw [ey_4] at hP); (try rw [ey_4] at hD); (try rw [ey_4] at hl); (try rw [ey_4])
  refine rMi hx hb hr hlk hS (hs_ n (mkB (kd_ (B)) (fg_ (B)) (pl_ (B)) (pw_ (B)) (jy_ (B)) ((qt_ (B)) ||| q) (sn_ (B)) (il_ (B)) (pa_ (B)) (ho_ (B)) (dy_ (B)))) hP ?_ dX2_timesWithHushed_19
  first | rfl | exact ⟨rfl, rfl⟩

theorem okX2_bestHush : jok yX2_bestHush wsX2_bestHush cX2_bestHush 7 (some .int) 2 := ⟨⟨_, rfl⟩, by decide +kernel, by decide +kernel⟩
set_option maxHeartbeats 1000000 in
set_option maxRecDepth 100000 in
theorem qX2_bestHush (l : Launch) (D : va_G) (cI cB : ClassId) (g : Nat → Nat) (B : BayT) (T : BayT) (k : Nat) (n : Nat) (hn7 : sn_ B ≤ 7) (hk : k < 7) (hn : n ≤ 99) : jMi D cI cB l yX2_bestHush wsX2_bestHush 6 [.ref (g 1), .int (nI k), .int (nI n)] (miO g ++ bW cI g 4 B ++ bW cI g 10 T) (S := BayT) (fun r u => r = oI_ (bs_ (hu_ B k n) (tc_ B k n) (sn_ B)).1) (fun u => miO g ++ bW cI g 4 B ++ bW cI g 10 u) := by
  refine jMi.of (cc := cX2_bestHush) (maxL := 7) (ret := (some .int)) okX2_bestHush (Nat.le_of_ble_eq_true rfl) ?_
  intro p e s m below meth c ls A hx hb hr hts hown hlk hml hP hK hD hA hS hl
  replace hown : s.vm.findClass RX2 = some m.cls := hown
  replace hl : lv_has ls 7 [(0, .ref (g 1)), (1, .int (nI k)), (2, .int (nI n))] := hl
  have hinX0 : ∀ w ∈ wsX00, w ∈ wsX2_bestHush := by decide +kernel
  have hinX2 : ∀ w ∈ wsX20, w ∈ wsX2_bestHush := by decide +kernel
  refine lv_bipush (v := (-9)) hx hb dX2_bestHush_0 (by decide) ?_
  refine lv_istore_n (lv' := [(3, .int (-9)), (0, .ref (g 1)), (1, .int (nI k)), (2, .int (nI n))]) hx hb dX2_bestHush_2 rfl hl (by decide) rfl (fun ls hl => ?_)
  refine lv_aload_n hx hb dX2_bestHush_3 rfl (lv_at hl 1 rfl) ?_
  refine lv_iload_n hx hb dX2_bestHush_4 rfl (lv_at hl 2 rfl) ?_
  refine lv_iload_n hx hb dX2_bestHush_5 rfl (lv_at hl 3 rfl) ?_
  refine kMiV hx hb hml hown hts hK hP hD hA hS gX2_bestHush_X2_timesHad okX2_timesHad (qX2_timesHad l D cI cB g B T k n (by show sn_ B ≤ 7; omega) (by omega) (by omega)) [0, 1, 2, 3, 4, 5, 6, 7, 8, 9, 10, 11, 12] rfl (by decide) (fun _ => rfl) rfl rfl rfl (by decide) hl.1 rfl rfl (Nat.le_of_ble_eq_true rfl) dX2_bestHush_6 (by decide) (fun r_1 u_2 H locs hw_3 hP hD hS => ?_)
  replace hw_3 : r_1 = tc_ B k n := hw_3
  subst r_1
  replace hP : va_P D vwCl (miO g ++ bW cI g 4 B ++ bW cI g 10 u_2) H := hP
  replace hD : va_D A (miO g ++ bW cI g 4 B ++ bW cI g 10 u_2) := hD
  refine lv_istore (lv' := [(4, .int (tc_ B k n)), (3, .int (-9)), (0, .ref (g 1)), (1, .int (nI k)), (2, .int (nI n))]) hx hb dX2_bestHush_9 hl (by decide) rfl (fun ls hl => ?_)
  refine lv_iconst (v := 0) hx hb dX2_bestHush_11 (by decide) ?_
  refine lv_istore (lv' := [(5, .int 0), (4, .int (tc_ B k n)), (3, .int (-9)), (0, .ref (g 1)), (1, .int (nI k)), (2, .int (nI n))]) hx hb dX2_bestHush_12 hl (by decide) rfl (fun ls hl => ?_)
  have lp_14 : ∀ (fu_14 : Nat) (i : Nat) (x3_14 : Int32) (x4_14 : Int32) (x5_14 : Int32) (T2 : BayT), (x3_14 = oI_ (bs_ (hu_ B k n) (tc_ B k n) i).1) → (x4_14 = (bs_ (hu_ B k n) (tc_ B k n) i).2) → (x5_14 = nI i) → (i ≤ sn_ B) → sn_ B - i < fu_14 → ∀ (H : Heap) (locs : List Loc), va_P D vwCl (miO g ++ bW cI g 4 B ++ bW cI g 10 T2) H → va_D A (miO g ++ bW cI g 4 B ++ bW cI g 10 T2) → va_S A s.heap H locs → ∀ ls : Array Slot, lv_has ls 7 [(5, .int x5_14), (4, .int x4_14), (3, .int x3_14), (0, .ref (g 1)), (1, .int (nI k)), (2, .int (nI n))] → W p l e (jR 6) s m ([.ref (g 1), .int (nI k), .int (nI n)] : List Value).toArray below meth c H locs 0 0 (MQ below (va_Qi (S := BayT) (fun r u => r = oI_ (bs_ (hu_ B k n) (tc_ B k n) (sn_ B)).1) (fun u t => va_P D vwCl ((fun u => miO g ++ bW cI g 4 B ++ bW cI g 10 u) u) t.heap) A) ([.ref (g 1), .int (nI k), .int (nI n)] : List Value).toArray s 0 0 A) (F0 m 14 ls []) := by
    intro fu_14
    induction fu_14 with
    | zero => intro i x3_14 x4_14 x5_14 T2 hx3_14 hx4_14 hx5_14 hi hfu; exact absurd hfu (Nat.not_lt_zero _)
    | succ fu_14 ih_14 =>
      intro i x3_14 x4_14 x5_14 T2 hx3_14 hx4_14 hx5_14 hi hfu_14 H locs hP hD hS ls hl
      subst x3_14
      subst x4_14
      subst x5_14
      replace hl : lv_has ls 7 [(5, .int (nI i)), (4, .int ((bs_ (hu_ B k n) (tc_ B k n) i).2)), (3, .int (oI_ (bs_ (hu_ B k n) (tc_ B k n) i).1)), (0, .ref (g 1)), (1, .int (nI k)), (2, .int (nI n))] := hl
      replace hP : va_P D vwCl (miO g ++ bW cI g 4 B ++ bW cI g 10 T2) H := hP
      replace hD : va_D A (miO g ++ bW cI g 4 B ++ bW cI g 10 T2) := hD
      refine lv_iload hx hb dX2_bestHush_14 (lv_at hl 0 rfl) ?_
      refine lv_aload_n hx hb dX2_bestHush_16 rfl (lv_at hl 3 rfl) ?_
      refine va_get (ci := 2) (C := RX2) (T := TX2) (N := 4) hx hb hts hinX2 hown hK.1 hP 0 rfl rfl 0 (by decide) (hts _ (List.mem_of_getElem? (i := 1) rfl)) (fun _ h9 => h9) rfl dX2_bestHush_17 ?_
      refine va_getN (ci := 0) (C := RX0) (T := TX0) (N := 11) hx hb hts hinX0 hown hK.1 hP 1 rfl rfl 6 (by decide) (va_Nw.use rfl (hK.2 _ (List.mem_of_getElem? (i := 12) rfl))) (fun _ h9 => h9) rfl dX2_bestHush_20 ?_
      refine lv_icmp_ge (tgt := 68) hx hb dX2_bestHush_23 (by decide) (fun c_23 => ?_) (fun c_23 => ?_)
      · replace c_23 : nI (sn_ B) ≤ nI i := c_23
        rw [jle (by omega) (by omega)] at c_23
        refine lv_iload_n hx hb dX2_bestHush_68 rfl (lv_at hl 2 rfl) ?_
        refine rMi hx hb hr hlk hS T2 hP ?_ dX2_bestHush_69
        have e9 : i = sn_ B := by omega
        rw [e9]
      · replace c_23 : ¬ nI (sn_ B) ≤ nI i := c_23
        rw [jle (by omega) (by omega)] at c_23
        refine lv_iload hx hb dX2_bestHush_26 (lv_at hl 0 rfl) ?_
        refine lv_iload_n hx hb dX2_bestHush_28 rfl (lv_at hl 4 rfl) ?_
        refine lv_icmp_ne (tgt := 36) hx hb dX2_bestHush_29 (by decide) (fun c_29 => ?_) (fun c_29 => ?_)
        · replace c_29 : ¬ nI i = nI k := c_29
          rw [jeq (by omega) (by omega)] at c_29
          refine lv_aload_n hx hb dX2_bestHush_36 rfl (lv_at hl 3 rfl) ?_
          refine lv_iload_n hx hb dX2_bestHush_37 rfl (lv_at hl 4 rfl) ?_
          refine lv_iconst (v := 1) hx hb dX2_bestHush_38 (by decide) ?_
          refine lv_iload hx hb dX2_bestHush_39 (lv_at hl 0 rfl) ?_
          refine lv_ishl hx hb dX2_bestHush_41 ?_
          refine lv_iload_n hx hb dX2_bestHush_42 rfl (lv_at hl 5 rfl) ?_
          refine kMiV hx hb hml hown hts hK hP hD hA hS gX2_bestHush_X2_timesWithHushed okX2_timesWithHushed (qX2_timesWithHushed l D cI cB g B T2 k (1 <<< ((nI i) &&& 31)) n (by show sn_ B ≤ 7; omega) (by omega) (by omega)) [0, 1, 2, 3, 4, 5, 6, 7, 8, 9, 10, 11, 12] rfl (by decide) (fun _ => rfl) rfl rfl rfl (by decide) hl.1 rfl rfl (Nat.le_of_ble_eq_true rfl) dX2_bestHush_43 (by decide) (fun r_4 u_5 H locs hw_6 hP hD hS => ?_)
          replace hw_6 : r_4 = tc_ (uq_ B (qt_ B ||| (1 <<< ((nI i) &&& 31)))) k n := hw_6
          subst r_4
          replace hP : va_P D vwCl (miO g ++ bW cI g 4 B ++ bW cI g 10 u_5) H := hP
          replace hD : va_D A (miO g ++ bW cI g 4 B ++ bW cI g 10 u_5) := hD
          refine lv_istore (lv' := [(6, .int (tc_ (uq_ B (qt_ B ||| (1 <<< ((nI i) &&& 31)))) k n)), (5, .int (nI i)), (4, .int ((bs_ (hu_ B k n) (tc_ B k n) i).2)), (3, .int (oI_ (bs_ (hu_ B k n) (tc_ B k n) i).1)), (0, .ref (g 1)), (1, .int (nI k)), (2, .int (nI n))]) hx hb dX2_bestHush_46 hl (by decide) rfl (fun ls hl => ?_)
          refine lv_iload hx hb dX2_bestHush_48 (lv_at hl 0 rfl) ?_
          refine lv_iload hx hb dX2_bestHush_50 (lv_at hl 2 rfl) ?_
          refine lv_icmp_le (tgt := 62) hx hb dX2_bestHush_52 (by decide) (fun c_52 => ?_) (fun c_52 => ?_)
          · have d_52 := Int32.not_lt.mpr c_52
            refine lv_iinc (v := (nI i) + 1) (lv' := [(5, .int ((nI i) + 1)), (6, .int (tc_ (uq_ B (qt_ B ||| (1 <<< ((nI i) &&& 31)))) k n)), (4, .int ((bs_ (hu_ B k n) (tc_ B k n) i).2)), (3, .int (oI_ (bs_ (hu_ B k n) (tc_ B k n) i).1)), (0, .ref (g 1)), (1, .int (nI k)), (2, .int (nI n))]) hx hb dX2_bestHush_62 hl (k := 1) rfl (by first | rfl | decide) (by decide) rfl (fun ls hl => ?_)
            refine lv_goto (tgt := 14) hx hb dX2_bestHush_65 (by decide) ?_
            exact ih_14 (i + 1) (oI_ (bs_ (hu_ B k n) (tc_ B k n) i).1) ((bs_ (hu_ B k n) (tc_ B k n) i).2) ((nI i) + 1) u_5 (by first | exact bs_o1 (f := hu_ B k n) (by unfold hu_; first | exact (if_pos (by assumption)).symm | exact (if_neg (by assumption)).symm) c_52 | exact bs_o2 (f := hu_ B k n) (by unfold hu_; first | exact (if_pos (by assumption)).symm | exact (if_neg (by assumption)).symm) c_52) (by first | exact bs_m1 (f := hu_ B k n) (by unfold hu_; first | exact (if_pos (by assumption)).symm | exact (if_neg (by assumption)).symm) c_52 | exact bs_m2 (f := hu_ B k n) (by unfold hu_; first | exact (if_pos (by assumption)).symm | exact (if_neg (by assumption)).symm) c_52) (by first | rfl | exact nI_1 _) (by omega) (by omega) _ _ hP hD hS ls (lv_sub hl [0, 2, 3, 4, 5, 6] rfl)
          · have d_52 := Int32.not_le.mp c_52
            refine lv_iload hx hb dX2_bestHush_55 (lv_at hl 1 rfl) ?_
            refine lv_istore_n (lv' := [(3, .int (nI i)), (6, .int (tc_ (uq_ B (qt_ B ||| (1 <<< ((nI i) &&& 31)))) k n)), (5, .int (nI i)), (4, .int ((bs_ (hu_ B k n) (tc_ B k n) i).2)), (0, .ref (g 1)), (1, .int (nI k)), (2, .int (nI n))]) hx hb dX2_bestHush_57 rfl hl (by decide) rfl (fun ls hl => ?_)
            refine lv_iload hx hb dX2_bestHush_58 (lv_at hl 1 rfl) ?_
            refine lv_istore (lv' := [(4, .int (tc_ (uq_ B (qt_ B ||| (1 <<< ((nI i) &&& 31)))) k n)), (3, .int (nI i)), (6, .int (tc_ (uq_ B (qt_ B ||| (1 <<< ((nI i) &&& 31)))) k n)), (5, .int (nI i)), (0, .ref (g 1)), (1, .int (nI k)), (2, .int (nI n))]) hx hb dX2_bestHush_60 hl (by decide) rfl (fun ls hl => ?_)
            refine lv_iinc (v := (nI i) + 1) (lv' := [(5, .int ((nI i) + 1)), (4, .int (tc_ (uq_ B (qt_ B ||| (1 <<< ((nI i) &&& 31)))) k n)), (3, .int (nI i)), (6, .int (tc_ (uq_ B (qt_ B ||| (1 <<< ((nI i) &&& 31)))) k n)), (0, .ref (g 1)), (1, .int (nI k)), (2, .int (nI n))]) hx hb dX2_bestHush_62 hl (k := 3) rfl (by first | rfl | decide) (by decide) rfl (fun ls hl => ?_)
            refine lv_goto (tgt := 14) hx hb dX2_bestHush_65 (by decide) ?_
            exact ih_14 (i + 1) (nI i) (tc_ (uq_ B (qt_ B ||| (1 <<< ((nI i) &&& 31)))) k n) ((nI i) + 1) u_5 (by first | exact bs_o1 (f := hu_ B k n) (by unfold hu_; first | exact (if_pos (by assumption)).symm | exact (if_neg (by assumption)).symm) c_52 | exact bs_o2 (f := hu_ B k n) (by unfold hu_; first | exact (if_pos (by assumption)).symm | exact (if_neg (by assumption)).symm) c_52) (by first | exact bs_m1 (f := hu_ B k n) (by unfold hu_; first | exact (if_pos (by assumption)).symm | exact (if_neg (by assumption)).symm) c_52 | exact bs_m2 (f := hu_ B k n) (by unfold hu_; first | exact (if_pos (by assumption)).symm | exact (if_neg (by assumption)).symm) c_52) (by first | rfl | exact nI_1 _) (by omega) (by omega) _ _ hP hD hS ls (lv_sub hl [0, 1, 2, 4, 5, 6] rfl)
        · replace c_29 : nI i = nI k := c_29
          rw [jeq (by omega) (by omega)] at c_29
          refine lv_iconst (v := 0) hx hb dX2_bestHush_32 (by decide) ?_
          refine lv_goto (tgt := 46) hx hb dX2_bestHush_33 (by decide) ?_
          refine lv_istore (lv' := [(6, .int 0), (5, .int (nI i)), (4, .int ((bs_ (hu_ B k n) (tc_ B k n) i).2)), (3, .int (oI_ (bs_ (hu_ B k n) (tc_ B k n) i).1)), (0, .ref (g 1)), (1, .int (nI k)), (2, .int (nI n))]) hx hb dX2_bestHush_46 hl (by decide) rfl (fun ls hl => ?_)
          refine lv_iload hx hb dX2_bestHush_48 (lv_at hl 0 rfl) ?_
          refine lv_iload hx hb dX2_bestHush_50 (lv_at hl 2 rfl) ?_
          refine lv_icmp_le (tgt := 62) hx hb dX2_bestHush_52 (by decide) (fun c_52 => ?_) (fun c_52 => ?_)
          · have d_52 := Int32.not_lt.mpr c_52
            refine lv_iinc (v := (nI i) + 1) (lv' := [(5, .int ((nI i) + 1)), (6, .int 0), (4, .int ((bs_ (hu_ B k n) (tc_ B k n) i).2)), (3, .int (oI_ (bs_ (hu_ B k n) (tc_ B k n) i).1)), (0, .ref (g 1)), (1, .int (nI k)), (2, .int (nI n))]) hx hb dX2_bestHush_62 hl (k := 1) rfl (by first | rfl | decide) (by decide) rfl (fun ls hl => ?_)
            refine lv_goto (tgt := 14) hx hb dX2_bestHush_65 (by decide) ?_
            exact ih_14 (i + 1) (oI_ (bs_ (hu_ B k n) (tc_ B k n) i).1) ((bs_ (hu_ B k n) (tc_ B k n) i).2) ((nI i) + 1) T2 (by first | exact bs_o1 (f := hu_ B k n) (by unfold hu_; first | exact (if_pos (by assumption)).symm | exact (if_neg (by assumption)).symm) c_52 | exact bs_o2 (f := hu_ B k n) (by unfold hu_; first | exact (if_pos (by assumption)).symm | exact (if_neg (by assumption)).symm) c_52) (by first | exact bs_m1 (f := hu_ B k n) (by unfold hu_; first | exact (if_pos (by assumption)).symm | exact (if_neg (by assumption)).symm) c_52 | exact bs_m2 (f := hu_ B k n) (by unfold hu_; first | exact (if_pos (by assumption)).symm | exact (if_neg (by assumption)).symm) c_52) (by first | rfl | exact nI_1 _) (by omega) (by omega) _ _ hP hD hS ls (lv_sub hl [0, 2, 3, 4, 5, 6] rfl)
          · have d_52 := Int32.not_le.mp c_52
            refine lv_iload hx hb dX2_bestHush_55 (lv_at hl 1 rfl) ?_
            refine lv_istore_n (lv' := [(3, .int (nI i)), (6, .int 0), (5, .int (nI i)), (4, .int ((bs_ (hu_ B k n) (tc_ B k n) i).2)), (0, .ref (g 1)), (1, .int (nI k)), (2, .int (nI n))]) hx hb dX2_bestHush_57 rfl hl (by decide) rfl (fun ls hl => ?_)
            refine lv_iload hx hb dX2_bestHush_58 (lv_at hl 1 rfl) ?_
            refine lv_istore (lv' := [(4, .int 0), (3, .int (nI i)), (6, .int 0), (5, .int (nI i)), (0, .ref (g 1)), (1, .int (nI k)), (2, .int (nI n))]) hx hb dX2_bestHush_60 hl (by decide) rfl (fun ls hl => ?_)
            refine lv_iinc (v := (nI i) + 1) (lv' := [(5, .int ((nI i) + 1)), (4, .int 0), (3, .int (nI i)), (6, .int 0), (0, .ref (g 1)), (1, .int (nI k)), (2, .int (nI n))]) hx hb dX2_bestHush_62 hl (k := 3) rfl (by first | rfl | decide) (by decide) rfl (fun ls hl => ?_)
            refine lv_goto (tgt := 14) hx hb dX2_bestHush_65 (by decide) ?_
            exact ih_14 (i + 1) (nI i) 0 ((nI i) + 1) T2 (by first | exact bs_o1 (f := hu_ B k n) (by unfold hu_; first | exact (if_pos (by assumption)).symm | exact (if_neg (by assumption)).symm) c_52 | exact bs_o2 (f := hu_ B k n) (by unfold hu_; first | exact (if_pos (by assumption)).symm | exact (if_neg (by assumption)).symm) c_52) (by first | exact bs_m1 (f := hu_ B k n) (by unfold hu_; first | exact (if_pos (by assumption)).symm | exact (if_neg (by assumption)).symm) c_52 | exact bs_m2 (f := hu_ B k n) (by unfold hu_; first | exact (if_pos (by assumption)).symm | exact (if_neg (by assumption)).symm) c_52) (by first | rfl | exact nI_1 _) (by omega) (by omega) _ _ hP hD hS ls (lv_sub hl [0, 1, 2, 4, 5, 6] rfl)
  exact lp_14 ((sn_ B) + 1) 0 (-9) (tc_ B k n) 0 u_2 (by first | rfl | exact nI_0.symm) (by first | rfl | exact nI_0.symm) (by first | rfl | exact nI_0.symm) (by omega) (by omega) _ _ hP hD hS ls (lv_sub hl [0, 1, 2, 3, 4, 5] rfl)

theorem okX2_fewestHushed : jok yX2_fewestHushed wsX2_fewestHushed cX2_fewestHushed 7 (some .int) 2 := ⟨⟨_, rfl⟩, by decide +kernel, by decide +kernel⟩
set_option maxHeartbeats 1000000 in
set_option maxRecDepth 100000 in
theorem qX2_fewestHushed (l : Launch) (D : va_G) (cI cB : ClassId) (g : Nat → Nat) (B : BayT) (T : BayT) (k : Nat) (n : Nat) (hn7 : sn_ B ≤ 7) (hk : k < 7) (hn : n ≤ 99) : jMi D cI cB l yX2_fewestHushed wsX2_fewestHushed 6 [.ref (g 1), .int (nI k), .int (nI n)] (miO g ++ bW cI g 4 B ++ bW cI g 10 T) (S := BayT) (fun r u => r = (fw_ B k n (p2_ (sn_ B))).1) (fun u => miO g ++ bW cI g 4 B ++ bW cI g 10 u) := by
  refine jMi.of (cc := cX2_fewestHushed) (maxL := 7) (ret := (some .int)) okX2_fewestHushed (Nat.le_of_ble_eq_true rfl) ?_
  intro p e s m below meth c ls A hx hb hr hts hown hlk hml hP hK hD hA hS hl
  replace hown : s.vm.findClass RX2 = some m.cls := hown
  replace hl : lv_has ls 7 [(0, .ref (g 1)), (1, .int (nI k)), (2, .int (nI n))] := hl
  have hp2 := p2_7 hn7
  have hinX0 : ∀ w ∈ wsX00, w ∈ wsX2_fewestHushed := by decide +kernel
  have hinX2 : ∀ w ∈ wsX20, w ∈ wsX2_fewestHushed := by decide +kernel
  refine lv_bipush (v := (-9)) hx hb dX2_fewestHushed_0 (by decide) ?_
  refine lv_istore_n (lv' := [(3, .int (-9)), (0, .ref (g 1)), (1, .int (nI k)), (2, .int (nI n))]) hx hb dX2_fewestHushed_2 rfl hl (by decide) rfl (fun ls hl => ?_)
  refine lv_bipush (v := 7) hx hb dX2_fewestHushed_3 (by decide) ?_
  refine lv_istore (lv' := [(4, .int 7), (3, .int (-9)), (0, .ref (g 1)), (1, .int (nI k)), (2, .int (nI n))]) hx hb dX2_fewestHushed_5 hl (by decide) rfl (fun ls hl => ?_)
  refine lv_iconst (v := 0) hx hb dX2_fewestHushed_7 (by decide) ?_
  refine lv_istore (lv' := [(5, .int 0), (4, .int 7), (3, .int (-9)), (0, .ref (g 1)), (1, .int (nI k)), (2, .int (nI n))]) hx hb dX2_fewestHushed_8 hl (by decide) rfl (fun ls hl => ?_)
  have lp_10 : ∀ (fu_10 : Nat) (i : Nat) (x3_10 : Int32) (x4_10 : Int32) (x5_10 : Int32) (T2 : BayT), (x3_10 = (fw_ B k n i).1) → (x4_10 = (fw_ B k n i).2) → (x5_10 = nI i) → (i ≤ p2_ (sn_ B)) → p2_ (sn_ B) - i < fu_10 → ∀ (H : Heap) (locs : List Loc), va_P D vwCl (miO g ++ bW cI g 4 B ++ bW cI g 10 T2) H → va_D A (miO g ++ bW cI g 4 B ++ bW cI g 10 T2) → va_S A s.heap H locs → ∀ ls : Array Slot, lv_has ls 7 [(5, .int x5_10), (4, .int x4_10), (3, .int x3_10), (0, .ref (g 1)), (1, .int (nI k)), (2, .int (nI n))] → W p l e (jR 6) s m ([.ref (g 1), .int (nI k), .int (nI n)] : List Value).toArray below meth c H locs 0 0 (MQ below (va_Qi (S := BayT) (fun r u => r = (fw_ B k n (p2_ (sn_ B))).1) (fun u t => va_P D vwCl ((fun u => miO g ++ bW cI g 4 B ++ bW cI g 10 u) u) t.heap) A) ([.ref (g 1), .int (nI k), .int (nI n)] : List Value).toArray s 0 0 A) (F0 m 10 ls []) := by
    intro fu_10
    induction fu_10 with
    | zero => intro i x3_10 x4_10 x5_10 T2 hx3_10 hx4_10 hx5_10 hi hfu; exact absurd hfu (Nat.not_lt_zero _)
    | succ fu_10 ih_10 =>
      intro i x3_10 x4_10 x5_10 T2 hx3_10 hx4_10 hx5_10 hi hfu_10 H locs hP hD hS ls hl
      subst x3_10
      subst x4_10
      subst x5_10
      replace hl : lv_has ls 7 [(5, .int (nI i)), (4, .int ((fw_ B k n i).2)), (3, .int ((fw_ B k n i).1)), (0, .ref (g 1)), (1, .int (nI k)), (2, .int (nI n))] := hl
      replace hP : va_P D vwCl (miO g ++ bW cI g 4 B ++ bW cI g 10 T2) H := hP
      replace hD : va_D A (miO g ++ bW cI g 4 B ++ bW cI g 10 T2) := hD
      refine lv_iload hx hb dX2_fewestHushed_10 (lv_at hl 0 rfl) ?_
      refine lv_iconst (v := 1) hx hb dX2_fewestHushed_12 (by decide) ?_
      refine lv_aload_n hx hb dX2_fewestHushed_13 rfl (lv_at hl 3 rfl) ?_
      refine va_get (ci := 2) (C := RX2) (T := TX2) (N := 4) hx hb hts hinX2 hown hK.1 hP 0 rfl rfl 0 (by decide) (hts _ (List.mem_of_getElem? (i := 1) rfl)) (fun _ h9 => h9) rfl dX2_fewestHushed_14 ?_
      refine va_getN (ci := 0) (C := RX0) (T := TX0) (N := 11) hx hb hts hinX0 hown hK.1 hP 1 rfl rfl 6 (by decide) (va_Nw.use rfl (hK.2 _ (List.mem_of_getElem? (i := 12) rfl))) (fun _ h9 => h9) rfl dX2_fewestHushed_17 ?_
      refine lv_ishl hx hb dX2_fewestHushed_20 ?_
      refine lv_icmp_ge (tgt := 82) hx hb dX2_fewestHushed_21 (by decide) (fun c_21 => ?_) (fun c_21 => ?_)
      · rw [sh_n hn7, jle (by omega) (by omega)] at c_21
        refine lv_iload_n hx hb dX2_fewestHushed_82 rfl (lv_at hl 2 rfl) ?_
        refine rMi hx hb hr hlk hS T2 hP ?_ dX2_fewestHushed_83
        have e9 : i = p2_ (sn_ B) := by omega
        rw [e9]
      · rw [sh_n hn7, jle (by omega) (by omega)] at c_21
        refine lv_iload hx hb dX2_fewestHushed_24 (lv_at hl 0 rfl) ?_
        refine lv_iload_n hx hb dX2_fewestHushed_26 rfl (lv_at hl 4 rfl) ?_
        refine lv_ishr hx hb dX2_fewestHushed_27 ?_
        refine lv_iconst (v := 1) hx hb dX2_fewestHushed_28 (by decide) ?_
        refine lv_iand hx hb dX2_fewestHushed_29 ?_
        refine lv_if_ne (tgt := 47) hx hb dX2_fewestHushed_30 (by decide) (fun c_30 => ?_) (fun c_30 => ?_)
        · skip
          refine lv_iconst (v := 0) hx hb dX2_fewestHushed_47 (by decide) ?_
          refine lv_istore (lv' := [(6, .int 0), (5, .int (nI i)), (4, .int ((fw_ B k n i).2)), (3, .int ((fw_ B k n i).1)), (0, .ref (g 1)), (1, .int (nI k)), (2, .int (nI n))]) hx hb dX2_fewestHushed_48 hl (by decide) rfl (fun ls hl => ?_)
          refine lv_iload hx hb dX2_fewestHushed_50 (lv_at hl 0 rfl) ?_
          refine lv_if_eq (tgt := 76) hx hb dX2_fewestHushed_52 (by decide) (fun _ => ?_) (fun q => absurd q (by decide))
          refine lv_iinc (v := (nI i) + 1) (lv' := [(5, .int ((nI i) + 1)), (6, .int 0), (4, .int ((fw_ B k n i).2)), (3, .int ((fw_ B k n i).1)), (0, .ref (g 1)), (1, .int (nI k)), (2, .int (nI n))]) hx hb dX2_fewestHushed_76 hl (k := 1) rfl (by first | rfl | decide) (by decide) rfl (fun ls hl => ?_)
          refine lv_goto (tgt := 10) hx hb dX2_fewestHushed_79 (by decide) ?_
          exact ih_10 (i + 1) ((fw_ B k n i).1) ((fw_ B k n i).2) ((nI i) + 1) T2 (by first | exact (fw_y c_30 c_40 c_63).1 | exact (fw_n1 c_30).1 | exact (fw_n2 c_40).1 | exact (fw_n3 c_63).1) (by first | exact (fw_y c_30 c_40 c_63).2 | exact (fw_n1 c_30).2 | exact (fw_n2 c_40).2 | exact (fw_n3 c_63).2) (by first | rfl | exact nI_1 _) (by omega) (by omega) _ _ hP hD hS ls (lv_sub hl [0, 2, 3, 4, 5, 6] rfl)
        · skip
          refine lv_iload hx hb dX2_fewestHushed_33 (lv_at hl 0 rfl) ?_
          refine kSiS hx hb hml hown hts hK hP gX2_fewestHushed_J6_bitCount_0f7a4 okJ6_bitCount_0f7a4 (qJ6_bitCount_0f7a4 l D cI cB i (by omega)) [] rfl (by decide) hl.1 rfl rfl (Nat.le_of_ble_eq_true rfl) dX2_fewestHushed_35 (by decide) (fun r_1 hr_2 => ?_)
          replace hr_2 : r_1 = nI (pn_ i) := hr_2
          subst r_1
          refine lv_iload hx hb dX2_fewestHushed_38 (lv_at hl 1 rfl) ?_
          refine lv_icmp_ge (tgt := 47) hx hb dX2_fewestHushed_40 (by decide) (fun c_40 => ?_) (fun c_40 => ?_)
          · have d_40 := Int32.not_lt.mpr c_40
            refine lv_iconst (v := 0) hx hb dX2_fewestHushed_47 (by decide) ?_
            refine lv_istore (lv' := [(6, .int 0), (5, .int (nI i)), (4, .int ((fw_ B k n i).2)), (3, .int ((fw_ B k n i).1)), (0, .ref (g 1)), (1, .int (nI k)), (2, .int (nI n))]) hx hb dX2_fewestHushed_48 hl (by decide) rfl (fun ls hl => ?_)
            refine lv_iload hx hb dX2_fewestHushed_50 (lv_at hl 0 rfl) ?_
            refine lv_if_eq (tgt := 76) hx hb dX2_fewestHushed_52 (by decide) (fun _ => ?_) (fun q => absurd q (by decide))
            refine lv_iinc (v := (nI i) + 1) (lv' := [(5, .int ((nI i) + 1)), (6, .int 0), (4, .int ((fw_ B k n i).2)), (3, .int ((fw_ B k n i).1)), (0, .ref (g 1)), (1, .int (nI k)), (2, .int (nI n))]) hx hb dX2_fewestHushed_76 hl (k := 1) rfl (by first | rfl | decide) (by decide) rfl (fun ls hl => ?_)
            refine lv_goto (tgt := 10) hx hb dX2_fewestHushed_79 (by decide) ?_
            exact ih_10 (i + 1) ((fw_ B k n i).1) ((fw_ B k n i).2) ((nI i) + 1) T2 (by first | exact (fw_y c_30 c_40 c_63).1 | exact (fw_n1 c_30).1 | exact (fw_n2 c_40).1 | exact (fw_n3 c_63).1) (by first | exact (fw_y c_30 c_40 c_63).2 | exact (fw_n1 c_30).2 | exact (fw_n2 c_40).2 | exact (fw_n3 c_63).2) (by first | rfl | exact nI_1 _) (by omega) (by omega) _ _ hP hD hS ls (lv_sub hl [0, 2, 3, 4, 5, 6] rfl)
          · have d_40 := Int32.not_le.mp c_40
            refine lv_iconst (v := 1) hx hb dX2_fewestHushed_43 (by decide) ?_
            refine lv_goto (tgt := 48) hx hb dX2_fewestHushed_44 (by decide) ?_
            refine lv_istore (lv' := [(6, .int 1), (5, .int (nI i)), (4, .int ((fw_ B k n i).2)), (3, .int ((fw_ B k n i).1)), (0, .ref (g 1)), (1, .int (nI k)), (2, .int (nI n))]) hx hb dX2_fewestHushed_48 hl (by decide) rfl (fun ls hl => ?_)
            refine lv_iload hx hb dX2_fewestHushed_50 (lv_at hl 0 rfl) ?_
            refine lv_if_eq (tgt := 76) hx hb dX2_fewestHushed_52 (by decide) (fun q => absurd q (by decide)) (fun _ => ?_)
            refine lv_aload_n hx hb dX2_fewestHushed_55 rfl (lv_at hl 4 rfl) ?_
            refine lv_iload_n hx hb dX2_fewestHushed_56 rfl (lv_at hl 5 rfl) ?_
            refine lv_iload hx hb dX2_fewestHushed_57 (lv_at hl 1 rfl) ?_
            refine lv_iload_n hx hb dX2_fewestHushed_59 rfl (lv_at hl 6 rfl) ?_
            refine kMiV hx hb hml hown hts hK hP hD hA hS gX2_fewestHushed_X2_timesWithHushed okX2_timesWithHushed (qX2_timesWithHushed l D cI cB g B T2 k (nI i) n (by show sn_ B ≤ 7; omega) (by omega) (by omega)) [0, 1, 2, 3, 4, 5, 6, 7, 8, 9, 10, 11, 12] rfl (by decide) (fun _ => rfl) rfl rfl rfl (by decide) hl.1 rfl rfl (Nat.le_of_ble_eq_true rfl) dX2_fewestHushed_60 (by decide) (fun r_3 u_4 H locs hw_5 hP hD hS => ?_)
            replace hw_5 : r_3 = tc_ (uq_ B (qt_ B ||| (nI i))) k n := hw_5
            subst r_3
            replace hP : va_P D vwCl (miO g ++ bW cI g 4 B ++ bW cI g 10 u_4) H := hP
            replace hD : va_D A (miO g ++ bW cI g 4 B ++ bW cI g 10 u_4) := hD
            refine lv_if_le (tgt := 76) hx hb dX2_fewestHushed_63 (by decide) (fun c_63 => ?_) (fun c_63 => ?_)
            · have d_63 := Int32.not_lt.mpr c_63
              refine lv_iinc (v := (nI i) + 1) (lv' := [(5, .int ((nI i) + 1)), (6, .int 1), (4, .int ((fw_ B k n i).2)), (3, .int ((fw_ B k n i).1)), (0, .ref (g 1)), (1, .int (nI k)), (2, .int (nI n))]) hx hb dX2_fewestHushed_76 hl (k := 1) rfl (by first | rfl | decide) (by decide) rfl (fun ls hl => ?_)
              refine lv_goto (tgt := 10) hx hb dX2_fewestHushed_79 (by decide) ?_
              exact ih_10 (i + 1) ((fw_ B k n i).1) ((fw_ B k n i).2) ((nI i) + 1) u_4 (by first | exact (fw_y c_30 c_40 c_63).1 | exact (fw_n1 c_30).1 | exact (fw_n2 c_40).1 | exact (fw_n3 c_63).1) (by first | exact (fw_y c_30 c_40 c_63).2 | exact (fw_n1 c_30).2 | exact (fw_n2 c_40).2 | exact (fw_n3 c_63).2) (by first | rfl | exact nI_1 _) (by omega) (by omega) _ _ hP hD hS ls (lv_sub hl [0, 2, 3, 4, 5, 6] rfl)
            · have d_63 := Int32.not_le.mp c_63
              refine lv_iload hx hb dX2_fewestHushed_66 (lv_at hl 1 rfl) ?_
              refine lv_istore_n (lv' := [(3, .int (nI i)), (6, .int 1), (5, .int (nI i)), (4, .int ((fw_ B k n i).2)), (0, .ref (g 1)), (1, .int (nI k)), (2, .int (nI n))]) hx hb dX2_fewestHushed_68 rfl hl (by decide) rfl (fun ls hl => ?_)
              refine lv_iload hx hb dX2_fewestHushed_69 (lv_at hl 2 rfl) ?_
              refine kSiS hx hb hml hown hts hK hP gX2_fewestHushed_J6_bitCount_0f7a4 okJ6_bitCount_0f7a4 (qJ6_bitCount_0f7a4 l D cI cB i (by omega)) [] rfl (by decide) hl.1 rfl rfl (Nat.le_of_ble_eq_true rfl) dX2_fewestHushed_71 (by decide) (fun r_6 hr_7 => ?_)
              replace hr_7 : r_6 = nI (pn_ i) := hr_7
              subst r_6
              refine lv_istore (lv' := [(4, .int (nI (pn_ i))), (3, .int (nI i)), (6, .int 1), (5, .int (nI i)), (0, .ref (g 1)), (1, .int (nI k)), (2, .int (nI n))]) hx hb dX2_fewestHushed_74 hl (by decide) rfl (fun ls hl => ?_)
              refine lv_iinc (v := (nI i) + 1) (lv' := [(5, .int ((nI i) + 1)), (4, .int (nI (pn_ i))), (3, .int (nI i)), (6, .int 1), (0, .ref (g 1)), (1, .int (nI k)), (2, .int (nI n))]) hx hb dX2_fewestHushed_76 hl (k := 3) rfl (by first | rfl | decide) (by decide) rfl (fun ls hl => ?_)
              refine lv_goto (tgt := 10) hx hb dX2_fewestHushed_79 (by decide) ?_
              exact ih_10 (i + 1) (nI i) (nI (pn_ i)) ((nI i) + 1) u_4 (by first | exact (fw_y c_30 c_40 c_63).1 | exact (fw_n1 c_30).1 | exact (fw_n2 c_40).1 | exact (fw_n3 c_63).1) (by first | exact (fw_y c_30 c_40 c_63).2 | exact (fw_n1 c_30).2 | exact (fw_n2 c_40).2 | exact (fw_n3 c_63).2) (by first | rfl | exact nI_1 _) (by omega) (by omega) _ _ hP hD hS ls (lv_sub hl [0, 1, 2, 4, 5, 6] rfl)
  exact lp_10 ((p2_ (sn_ B)) + 1) 0 (-9) 7 0 T (by first | rfl | exact nI_0.symm) (by first | rfl | exact nI_0.symm) (by first | rfl | exact nI_0.symm) (by omega) (by omega) _ _ hP hD hS ls (lv_sub hl [0, 1, 2, 3, 4, 5] rfl)

theorem okX2_bestSwap : jok yX2_bestSwap wsX2_bestSwap cX2_bestSwap 9 (some .int) 2 := ⟨⟨_, rfl⟩, by decide +kernel, by decide +kernel⟩
set_option maxHeartbeats 1000000 in
set_option maxRecDepth 100000 in
theorem qX2_bestSwap (l : Launch) (D : va_G) (cI cB : ClassId) (g : Nat → Nat) (B : BayT) (T : BayT) (k : Nat) (n : Nat) (hn7 : sn_ B ≤ 7) (hk : k < 7) (hn : n ≤ 99) : jMi D cI cB l yX2_bestSwap wsX2_bestSwap 6 [.ref (g 1), .int (nI k), .int (nI n)] (miO g ++ bW cI g 4 B ++ bW cI g 10 T) (S := BayT) (fun r u => r = (s2_ B k n (sn_ B)).1) (fun u => miO g ++ bW cI g 4 B ++ bW cI g 10 u) := by
  refine jMi.of (cc := cX2_bestSwap) (maxL := 9) (ret := (some .int)) okX2_bestSwap (Nat.le_of_ble_eq_true rfl) ?_
  intro p e s m below meth c ls A hx hb hr hts hown hlk hml hP hK hD hA hS hl
  replace hown : s.vm.findClass RX2 = some m.cls := hown
  replace hl : lv_has ls 9 [(0, .ref (g 1)), (1, .int (nI k)), (2, .int (nI n))] := hl
  have hinX0 : ∀ w ∈ wsX00, w ∈ wsX2_bestSwap := by decide +kernel
  have hinX2 : ∀ w ∈ wsX20, w ∈ wsX2_bestSwap := by decide +kernel
  refine lv_bipush (v := (-9)) hx hb dX2_bestSwap_0 (by decide) ?_
  refine lv_istore_n (lv' := [(3, .int (-9)), (0, .ref (g 1)), (1, .int (nI k)), (2, .int (nI n))]) hx hb dX2_bestSwap_2 rfl hl (by decide) rfl (fun ls hl => ?_)
  refine lv_aload_n hx hb dX2_bestSwap_3 rfl (lv_at hl 1 rfl) ?_
  refine lv_iload_n hx hb dX2_bestSwap_4 rfl (lv_at hl 2 rfl) ?_
  refine lv_iload_n hx hb dX2_bestSwap_5 rfl (lv_at hl 3 rfl) ?_
  refine kMiV hx hb hml hown hts hK hP hD hA hS gX2_bestSwap_X2_timesHad okX2_timesHad (qX2_timesHad l D cI cB g B T k n (by show sn_ B ≤ 7; omega) (by omega) (by omega)) [0, 1, 2, 3, 4, 5, 6, 7, 8, 9, 10, 11, 12] rfl (by decide) (fun _ => rfl) rfl rfl rfl (by decide) hl.1 rfl rfl (Nat.le_of_ble_eq_true rfl) dX2_bestSwap_6 (by decide) (fun r_1 u_2 H locs hw_3 hP hD hS => ?_)
  replace hw_3 : r_1 = tc_ B k n := hw_3
  subst r_1
  replace hP : va_P D vwCl (miO g ++ bW cI g 4 B ++ bW cI g 10 u_2) H := hP
  replace hD : va_D A (miO g ++ bW cI g 4 B ++ bW cI g 10 u_2) := hD
  refine lv_istore (lv' := [(4, .int (tc_ B k n)), (3, .int (-9)), (0, .ref (g 1)), (1, .int (nI k)), (2, .int (nI n))]) hx hb dX2_bestSwap_9 hl (by decide) rfl (fun ls hl => ?_)
  refine lv_iconst (v := 0) hx hb dX2_bestSwap_11 (by decide) ?_
  refine lv_istore (lv' := [(5, .int 0), (4, .int (tc_ B k n)), (3, .int (-9)), (0, .ref (g 1)), (1, .int (nI k)), (2, .int (nI n))]) hx hb dX2_bestSwap_12 hl (by decide) rfl (fun ls hl => ?_)
  have lp_14 : ∀ (fu_14 : Nat) (i : Nat) (x3_14 : Int32) (x4_14 : Int32) (x5_14 : Int32) (T2 : BayT), (x3_14 = (s2_ B k n i).1) → (x4_14 = (s2_ B k n i).2) → (x5_14 = nI i) → (i ≤ sn_ B) → sn_ B - i < fu_14 → ∀ (H : Heap) (locs : List Loc), va_P D vwCl (miO g ++ bW cI g 4 B ++ bW cI g 10 T2) H → va_D A (miO g ++ bW cI g 4 B ++ bW cI g 10 T2) → va_S A s.heap H locs → ∀ ls : Array Slot, lv_has ls 9 [(5, .int x5_14), (4, .int x4_14), (3, .int x3_14), (0, .ref (g 1)), (1, .int (nI k)), (2, .int (nI n))] → W p l e (jR 6) s m ([.ref (g 1), .int (nI k), .int (nI n)] : List Value).toArray below meth c H locs 0 0 (MQ below (va_Qi (S := BayT) (fun r u => r = (s2_ B k n (sn_ B)).1) (fun u t => va_P D vwCl ((fun u => miO g ++ bW cI g 4 B ++ bW cI g 10 u) u) t.heap) A) ([.ref (g 1), .int (nI k), .int (nI n)] : List Value).toArray s 0 0 A) (F0 m 14 ls []) := by
    intro fu_14
    induction fu_14 with
    | zero => intro i x3_14 x4_14 x5_14 T2 hx3_14 hx4_14 hx5_14 hi hfu; exact absurd hfu (Nat.not_lt_zero _)
    | succ fu_14 ih_14 =>
      intro i x3_14 x4_14 x5_14 T2 hx3_14 hx4_14 hx5_14 hi hfu_14 H locs hP hD hS ls hl
      subst x3_14
      subst x4_14
      subst x5_14
      replace hl : lv_has ls 9 [(5, .int (nI i)), (4, .int ((s2_ B k n i).2)), (3, .int ((s2_ B k n i).1)), (0, .ref (g 1)), (1, .int (nI k)), (2, .int (nI n))] := hl
      replace hP : va_P D vwCl (miO g ++ bW cI g 4 B ++ bW cI g 10 T2) H := hP
      replace hD : va_D A (miO g ++ bW cI g 4 B ++ bW cI g 10 T2) := hD
      refine lv_iload hx hb dX2_bestSwap_14 (lv_at hl 0 rfl) ?_
      refine lv_aload_n hx hb dX2_bestSwap_16 rfl (lv_at hl 3 rfl) ?_
      refine va_get (ci := 2) (C := RX2) (T := TX2) (N := 4) hx hb hts hinX2 hown hK.1 hP 0 rfl rfl 0 (by decide) (hts _ (List.mem_of_getElem? (i := 1) rfl)) (fun _ h9 => h9) rfl dX2_bestSwap_17 ?_
      refine va_getN (ci := 0) (C := RX0) (T := TX0) (N := 11) hx hb hts hinX0 hown hK.1 hP 1 rfl rfl 6 (by decide) (va_Nw.use rfl (hK.2 _ (List.mem_of_getElem? (i := 12) rfl))) (fun _ h9 => h9) rfl dX2_bestSwap_20 ?_
      refine lv_icmp_ge (tgt := 126) hx hb dX2_bestSwap_23 (by decide) (fun c_23 => ?_) (fun c_23 => ?_)
      · replace c_23 : nI (sn_ B) ≤ nI i := c_23
        rw [jle (by omega) (by omega)] at c_23
        refine lv_iload_n hx hb dX2_bestSwap_126 rfl (lv_at hl 2 rfl) ?_
        refine rMi hx hb hr hlk hS T2 hP ?_ dX2_bestSwap_127
        have e9 : i = sn_ B := by omega
        rw [e9]
      · replace c_23 : ¬ nI (sn_ B) ≤ nI i := c_23
        rw [jle (by omega) (by omega)] at c_23
        refine lv_iload hx hb dX2_bestSwap_26 (lv_at hl 0 rfl) ?_
        refine lv_iconst (v := 1) hx hb dX2_bestSwap_28 (by decide) ?_
        refine lv_iadd hx hb dX2_bestSwap_29 ?_
        refine lv_istore (lv' := [(6, .int ((nI i) + 1)), (5, .int (nI i)), (4, .int ((s2_ B k n i).2)), (3, .int ((s2_ B k n i).1)), (0, .ref (g 1)), (1, .int (nI k)), (2, .int (nI n))]) hx hb dX2_bestSwap_30 hl (by decide) rfl (fun ls hl => ?_)
        have lp_32 : ∀ (fu_32 : Nat) (j : Nat) (x3_32 : Int32) (x4_32 : Int32) (x6_32 : Int32) (T3 : BayT), (x3_32 = (s1_ B k n i j (s2_ B k n i)).1) → (x4_32 = (s1_ B k n i j (s2_ B k n i)).2) → (x6_32 = nI (i + 1 + j)) → (i + 1 + j ≤ sn_ B) → sn_ B - (i + 1 + j) < fu_32 → ∀ (H : Heap) (locs : List Loc), va_P D vwCl (miO g ++ bW cI g 4 B ++ bW cI g 10 T3) H → va_D A (miO g ++ bW cI g 4 B ++ bW cI g 10 T3) → va_S A s.heap H locs → ∀ ls : Array Slot, lv_has ls 9 [(6, .int x6_32), (5, .int (nI i)), (4, .int x4_32), (3, .int x3_32), (0, .ref (g 1)), (1, .int (nI k)), (2, .int (nI n))] → W p l e (jR 6) s m ([.ref (g 1), .int (nI k), .int (nI n)] : List Value).toArray below meth c H locs 0 0 (MQ below (va_Qi (S := BayT) (fun r u => r = (s2_ B k n (sn_ B)).1) (fun u t => va_P D vwCl ((fun u => miO g ++ bW cI g 4 B ++ bW cI g 10 u) u) t.heap) A) ([.ref (g 1), .int (nI k), .int (nI n)] : List Value).toArray s 0 0 A) (F0 m 32 ls []) := by
          intro fu_32
          induction fu_32 with
          | zero => intro j x3_32 x4_32 x6_32 T3 hx3_32 hx4_32 hx6_32 hj hfu; exact absurd hfu (Nat.not_lt_zero _)
          | succ fu_32 ih_32 =>
            intro j x3_32 x4_32 x6_32 T3 hx3_32 hx4_32 hx6_32 hj hfu_32 H locs hP hD hS ls hl
            subst x3_32
            subst x4_32
            subst x6_32
            replace hl : lv_has ls 9 [(6, .int (nI (i + 1 + j))), (5, .int (nI i)), (4, .int ((s1_ B k n i j (s2_ B k n i)).2)), (3, .int ((s1_ B k n i j (s2_ B k n i)).1)), (0, .ref (g 1)), (1, .int (nI k)), (2, .int (nI n))] := hl
            replace hP : va_P D vwCl (miO g ++ bW cI g 4 B ++ bW cI g 10 T3) H := hP
            replace hD : va_D A (miO g ++ bW cI g 4 B ++ bW cI g 10 T3) := hD
            refine lv_iload hx hb dX2_bestSwap_32 (lv_at hl 0 rfl) ?_
            refine lv_aload_n hx hb dX2_bestSwap_34 rfl (lv_at hl 4 rfl) ?_
            refine va_get (ci := 2) (C := RX2) (T := TX2) (N := 4) hx hb hts hinX2 hown hK.1 hP 0 rfl rfl 0 (by decide) (hts _ (List.mem_of_getElem? (i := 1) rfl)) (fun _ h9 => h9) rfl dX2_bestSwap_35 ?_
            refine va_getN (ci := 0) (C := RX0) (T := TX0) (N := 11) hx hb hts hinX0 hown hK.1 hP 1 rfl rfl 6 (by decide) (va_Nw.use rfl (hK.2 _ (List.mem_of_getElem? (i := 12) rfl))) (fun _ h9 => h9) rfl dX2_bestSwap_38 ?_
            refine lv_icmp_ge (tgt := 120) hx hb dX2_bestSwap_41 (by decide) (fun c_41 => ?_) (fun c_41 => ?_)
            · replace c_41 : nI (sn_ B) ≤ nI (i + 1 + j) := c_41
              rw [jle (by omega) (by omega)] at c_41
              refine lv_iinc (v := (nI i) + 1) (lv' := [(5, .int ((nI i) + 1)), (6, .int (nI (i + 1 + j))), (4, .int ((s1_ B k n i j (s2_ B k n i)).2)), (3, .int ((s1_ B k n i j (s2_ B k n i)).1)), (0, .ref (g 1)), (1, .int (nI k)), (2, .int (nI n))]) hx hb dX2_bestSwap_120 hl (k := 1) rfl (by first | rfl | decide) (by decide) rfl (fun ls hl => ?_)
              refine lv_goto (tgt := 14) hx hb dX2_bestSwap_123 (by decide) ?_
              exact ih_14 (i + 1) ((s1_ B k n i j (s2_ B k n i)).1) ((s1_ B k n i j (s2_ B k n i)).2) ((nI i) + 1) T3 (by rw [show j = sn_ B - (i + 1) by omega]; rfl) (by rw [show j = sn_ B - (i + 1) by omega]; rfl) (by first | rfl | exact nI_1 _) (by omega) (by omega) _ _ hP hD hS ls (lv_sub hl [0, 2, 3, 4, 5, 6] rfl)
            · replace c_41 : ¬ nI (sn_ B) ≤ nI (i + 1 + j) := c_41
              rw [jle (by omega) (by omega)] at c_41
              refine lv_aload_n hx hb dX2_bestSwap_44 rfl (lv_at hl 4 rfl) ?_
              refine kMrV hx hb hml hown hts hK hP hD hA hS gX2_bestSwap_X2_asNow okX2_asNow (qX2_asNow l D cI cB g B T3 ) [0, 1, 2, 3, 4, 5, 6, 7, 8, 9, 10, 11, 12] rfl (by decide) (fun _ => rfl) rfl rfl rfl (by decide) hl.1 rfl rfl (Nat.le_of_ble_eq_true rfl) dX2_bestSwap_45 (by decide) (fun u_5 H locs hw_6 hP hD hS => ?_)
              replace hw_6 : u_5 = B := hw_6
              subst u_5
              replace hP : va_P D vwCl (miO g ++ bW cI g 4 B ++ bW cI g 10 (B)) H := hP
              replace hD : va_D A (miO g ++ bW cI g 4 B ++ bW cI g 10 (B)) := hD
              refine lv_astore (lv' := [(7, .ref (g 10)), (6, .int (nI (i + 1 + j))), (5, .int (nI i)), (4, .int ((s1_ B k n i j (s2_ B k n i)).2)), (3, .int ((s1_ B k n i j (s2_ B k n i)).1)), (0, .ref (g 1)), (1, .int (nI k)), (2, .int (nI n))]) hx hb dX2_bestSwap_48 hl (by decide) rfl (fun ls hl => ?_)
              refine lv_aload hx hb dX2_bestSwap_50 (lv_at hl 0 rfl) ?_
              refine va_getN (ci := 0) (C := RX0) (T := TX0) (N := 11) hx hb hts hinX0 hown hK.1 hP 7 rfl rfl 2 (by decide) (va_Nw.use rfl (hK.2 _ (List.mem_of_getElem? (i := 7) rfl))) (fun _ h9 => h9) rfl dX2_bestSwap_52 ?_
              refine lv_iload hx hb dX2_bestSwap_55 (lv_at hl 2 rfl) ?_
              refine lv_aload_n hx hb dX2_bestSwap_57 rfl (lv_at hl 5 rfl) ?_
              refine va_get (ci := 2) (C := RX2) (T := TX2) (N := 4) hx hb hts hinX2 hown hK.1 hP 0 rfl rfl 0 (by decide) (hts _ (List.mem_of_getElem? (i := 1) rfl)) (fun _ h9 => h9) rfl dX2_bestSwap_58 ?_
              refine va_getN (ci := 0) (C := RX0) (T := TX0) (N := 11) hx hb hts hinX0 hown hK.1 hP 1 rfl rfl 2 (by decide) (va_Nw.use rfl (hK.2 _ (List.mem_of_getElem? (i := 7) rfl))) (fun _ h9 => h9) rfl dX2_bestSwap_61 ?_
              refine lv_iload hx hb dX2_bestSwap_64 (lv_at hl 1 rfl) ?_
              refine jald hx hb hK.1 hP 4 0 (i + 1 + j) rfl rfl rfl (by omega) (Nat.le_of_ble_eq_true rfl) dX2_bestSwap_66 ?_
              refine jast hx hb hK.1 hP hD hS 10 0 i rfl rfl rfl (by omega) (Nat.le_of_ble_eq_true rfl) dX2_bestSwap_67 (fun f_7 ef_7 H locs hP hD hS => ?_)
              replace ef_7 : f_7 = upd (pl_ (B)) i ((pl_ B) (i + 1 + j)) := ef_7
              replace hP : va_P D vwCl (miO g ++ bW cI g 4 B ++ bW cI g 10 (mkB (kd_ (B)) (fg_ (B)) f_7 (pw_ (B)) (jy_ (B)) (qt_ (B)) (sn_ (B)) (il_ (B)) (pa_ (B)) (ho_ (B)) (dy_ (B)))) H := hP
              replace hD : va_D A (miO g ++ bW cI g 4 B ++ bW cI g 10 (mkB (kd_ (B)) (fg_ (B)) f_7 (pw_ (B)) (jy_ (B)) (qt_ (B)) (sn_ (B)) (il_ (B)) (pa_ (B)) (ho_ (B)) (dy_ (B)))) := hD
              refine lv_aload hx hb dX2_bestSwap_68 (lv_at hl 0 rfl) ?_
              refine va_getN (ci := 0) (C := RX0) (T := TX0) (N := 11) hx hb hts hinX0 hown hK.1 hP 7 rfl rfl 2 (by decide) (va_Nw.use rfl (hK.2 _ (List.mem_of_getElem? (i := 7) rfl))) (fun _ h9 => h9) rfl dX2_bestSwap_70 ?_
              refine lv_iload hx hb dX2_bestSwap_73 (lv_at hl 1 rfl) ?_
              refine lv_aload_n hx hb dX2_bestSwap_75 rfl (lv_at hl 5 rfl) ?_
              refine va_get (ci := 2) (C := RX2) (T := TX2) (N := 4) hx hb hts hinX2 hown hK.1 hP 0 rfl rfl 0 (by decide) (hts _ (List.mem_of_getElem? (i := 1) rfl)) (fun _ h9 => h9) rfl dX2_bestSwap_76 ?_
              refine va_getN (ci := 0) (C := RX0) (T := TX0) (N := 11) hx hb hts hinX0 hown hK.1 hP 1 rfl rfl 2 (by decide) (va_Nw.use rfl (hK.2 _ (List.mem_of_getElem? (i := 7) rfl))) (fun _ h9 => h9) rfl dX2_bestSwap_79 ?_
              refine lv_iload hx hb dX2_bestSwap_82 (lv_at hl 2 rfl) ?_
              refine jald hx hb hK.1 hP 4 0 i rfl rfl rfl (by omega) (Nat.le_of_ble_eq_true rfl) dX2_bestSwap_84 ?_
              refine jast hx hb hK.1 hP hD hS 10 0 (i + 1 + j) rfl rfl rfl (by omega) (Nat.le_of_ble_eq_true rfl) dX2_bestSwap_85 (fun f_8 ef_8 H locs hP hD hS => ?_)
              replace ef_8 : f_8 = upd f_7 (i + 1 + j) ((pl_ B) i) := ef_8
              replace hP : va_P D vwCl (miO g ++ bW cI g 4 B ++ bW cI g 10 (mkB (kd_ (B)) (fg_ (B)) f_8 (pw_ (B)) (jy_ (B)) (qt_ (B)) (sn_ (B)) (il_ (B)) (pa_ (B)) (ho_ (B)) (dy_ (B)))) H := hP
              replace hD : va_D A (miO g ++ bW cI g 4 B ++ bW cI g 10 (mkB (kd_ (B)) (fg_ (B)) f_8 (pw_ (B)) (jy_ (B)) (qt_ (B)) (sn_ (B)) (il_ (B)) (pa_ (B)) (ho_ (B)) (dy_ (B)))) := hD
              refine lv_aload_n hx hb dX2_bestSwap_86 rfl (lv_at hl 5 rfl) ?_
              refine lv_iload_n hx hb dX2_bestSwap_87 rfl (lv_at hl 6 rfl) ?_
              refine lv_iload_n hx hb dX2_bestSwap_88 rfl (lv_at hl 7 rfl) ?_
              refine kMiV hx hb hml hown hts hK hP hD hA hS gX2_bestSwap_X2_timesFromHere okX2_timesFromHere (qX2_timesFromHere l D cI cB g B (mkB (kd_ (B)) (fg_ (B)) f_8 (pw_ (B)) (jy_ (B)) (qt_ (B)) (sn_ (B)) (il_ (B)) (pa_ (B)) (ho_ (B)) (dy_ (B))) k n (by show sn_ B ≤ 7; omega) (by show sn_ B ≤ 7; omega) (by omega) (by omega)) [0, 1, 2, 3, 4, 5, 6, 7, 8, 9, 10, 11, 12] rfl (by decide) (fun _ => rfl) rfl rfl rfl (by decide) hl.1 rfl rfl (Nat.le_of_ble_eq_true rfl) dX2_bestSwap_89 (by decide) (fun r_9 u_10 H locs hw_11 hP hD hS => ?_)
              replace hw_11 : r_9 = tc_ (mkB (kd_ (B)) (fg_ (B)) f_8 (pw_ (B)) (jy_ (B)) (qt_ (B)) (sn_ (B)) (il_ (B)) (pa_ (B)) (ho_ (B)) (dy_ (B))) k n ∧ u_10 = hs_ n (mkB (kd_ (B)) (fg_ (B)) f_8 (pw_ (B)) (jy_ (B)) (qt_ (B)) (sn_ (B)) (il_ (B)) (pa_ (B)) (ho_ (B)) (dy_ (B))) := hw_11
              obtain ⟨hw_11a, hw_11b⟩ := hw_11
              subst r_9
              subst u_10
              replace hP : va_P D vwCl (miO g ++ bW cI g 4 B ++ bW cI g 10 (hs_ n (mkB (kd_ (B)) (fg_ (B)) f_8 (pw_ (B)) (jy_ (B)) (qt_ (B)) (sn_ (B)) (il_ (B)) (pa_ (B)) (ho_ (B)) (dy_ (B))))) H := hP
              replace hD : va_D A (miO g ++ bW cI g 4 B ++ bW cI g 10 (hs_ n (mkB (kd_ (B)) (fg_ (B)) f_8 (pw_ (B)) (jy_ (B)) (qt_ (B)) (sn_ (B)) (il_ (B)) (pa_ (B)) (ho_ (B)) (dy_ (B))))) := hD
              refine lv_istore (lv' := [(8, .int (tc_ (mkB (kd_ (B)) (fg_ (B)) f_8 (pw_ (B)) (jy_ (B)) (qt_ (B)) (sn_ (B)) (il_ (B)) (pa_ (B)) (ho_ (B)) (dy_ (B))) k n)), (7, .ref (g 10)), (6, .int (nI (i + 1 + j))), (5, .int (nI i)), (4, .int ((s1_ B k n i j (s2_ B k n i)).2)), (3, .int ((s1_ B k n i j (s2_ B k n i)).1)), (0, .ref (g 1)), (1, .int (nI k)), (2, .int (nI n))]) hx hb dX2_bestSwap_92 hl (by decide) rfl (fun ls hl => ?_)
              refine lv_iload hx hb dX2_bestSwap_94 (lv_at hl 0 rfl) ?_
              refine lv_iload hx hb dX2_bestSwap_96 (lv_at hl 4 rfl) ?_
              refine lv_icmp_le (tgt := 114) hx hb dX2_bestSwap_98 (by decide) (fun c_98 => ?_) (fun c_98 => ?_)
              · have d_98 := Int32.not_lt.mpr c_98
                refine lv_iinc (v := (nI (i + 1 + j)) + 1) (lv' := [(6, .int ((nI (i + 1 + j)) + 1)), (8, .int (tc_ (mkB (kd_ (B)) (fg_ (B)) f_8 (pw_ (B)) (jy_ (B)) (qt_ (B)) (sn_ (B)) (il_ (B)) (pa_ (B)) (ho_ (B)) (dy_ (B))) k n)), (7, .ref (g 10)), (5, .int (nI i)), (4, .int ((s1_ B k n i j (s2_ B k n i)).2)), (3, .int ((s1_ B k n i j (s2_ B k n i)).1)), (0, .ref (g 1)), (1, .int (nI k)), (2, .int (nI n))]) hx hb dX2_bestSwap_114 hl (k := 2) rfl (by first | rfl | decide) (by decide) rfl (fun ls hl => ?_)
                refine lv_goto (tgt := 32) hx hb dX2_bestSwap_117 (by decide) ?_
                (try rw [ef_8] at hP); (try rw [ef_8] at hD); (try rw [ef_8] at hl); (try rw [ef_8] at c_41); (try rw [ef_8] at c_98); (try rw [ef_8] at d_98); (try rw [ef_8])
                (try rw [ef_7] at hP); (try rw [ef_7] at hD); (try rw [ef_7] at hl); (try rw [ef_7] at c_41); (try rw [ef_7] at c_98); (try rw [ef_7] at d_98); (try rw [ef_7])
                exact ih_32 (j + 1) ((s1_ B k n i j (s2_ B k n i)).1) ((s1_ B k n i j (s2_ B k n i)).2) ((nI (i + 1 + j)) + 1) (hs_ n (mkB (kd_ (B)) (fg_ (B)) (upd (upd (pl_ (B)) i ((pl_ B) (i + 1 + j))) (i + 1 + j) ((pl_ B) i)) (pw_ (B)) (jy_ (B)) (qt_ (B)) (sn_ (B)) (il_ (B)) (pa_ (B)) (ho_ (B)) (dy_ (B)))) (by first | exact s1_a1 c_98 | exact s1_b1 c_98) (by first | exact s1_a2 c_98 | exact s1_b2 c_98) (nI_1 _) (by omega) (by omega) _ _ hP hD hS ls (lv_sub hl [0, 3, 4, 5, 6, 7, 8] rfl)
              · have d_98 := Int32.not_le.mp c_98
                refine lv_bipush (v := 10) hx hb dX2_bestSwap_101 (by decide) ?_
                refine lv_iload hx hb dX2_bestSwap_103 (lv_at hl 3 rfl) ?_
                refine lv_imul hx hb dX2_bestSwap_105 ?_
                refine lv_iload hx hb dX2_bestSwap_106 (lv_at hl 2 rfl) ?_
                refine lv_iadd hx hb dX2_bestSwap_108 ?_
                refine lv_istore_n (lv' := [(3, .int ((10 * (nI i)) + (nI (i + 1 + j)))), (8, .int (tc_ (mkB (kd_ (B)) (fg_ (B)) f_8 (pw_ (B)) (jy_ (B)) (qt_ (B)) (sn_ (B)) (il_ (B)) (pa_ (B)) (ho_ (B)) (dy_ (B))) k n)), (7, .ref (g 10)), (6, .int (nI (i + 1 + j))), (5, .int (nI i)), (4, .int ((s1_ B k n i j (s2_ B k n i)).2)), (0, .ref (g 1)), (1, .int (nI k)), (2, .int (nI n))]) hx hb dX2_bestSwap_109 rfl hl (by decide) rfl (fun ls hl => ?_)
                refine lv_iload hx hb dX2_bestSwap_110 (lv_at hl 1 rfl) ?_
                refine lv_istore (lv' := [(4, .int (tc_ (mkB (kd_ (B)) (fg_ (B)) f_8 (pw_ (B)) (jy_ (B)) (qt_ (B)) (sn_ (B)) (il_ (B)) (pa_ (B)) (ho_ (B)) (dy_ (B))) k n)), (3, .int ((10 * (nI i)) + (nI (i + 1 + j)))), (8, .int (tc_ (mkB (kd_ (B)) (fg_ (B)) f_8 (pw_ (B)) (jy_ (B)) (qt_ (B)) (sn_ (B)) (il_ (B)) (pa_ (B)) (ho_ (B)) (dy_ (B))) k n)), (7, .ref (g 10)), (6, .int (nI (i + 1 + j))), (5, .int (nI i)), (0, .ref (g 1)), (1, .int (nI k)), (2, .int (nI n))]) hx hb dX2_bestSwap_112 hl (by decide) rfl (fun ls hl => ?_)
                refine lv_iinc (v := (nI (i + 1 + j)) + 1) (lv' := [(6, .int ((nI (i + 1 + j)) + 1)), (4, .int (tc_ (mkB (kd_ (B)) (fg_ (B)) f_8 (pw_ (B)) (jy_ (B)) (qt_ (B)) (sn_ (B)) (il_ (B)) (pa_ (B)) (ho_ (B)) (dy_ (B))) k n)), (3, .int ((10 * (nI i)) + (nI (i + 1 + j)))), (8, .int (tc_ (mkB (kd_ (B)) (fg_ (B)) f_8 (pw_ (B)) (jy_ (B)) (qt_ (B)) (sn_ (B)) (il_ (B)) (pa_ (B)) (ho_ (B)) (dy_ (B))) k n)), (7, .ref (g 10)), (5, .int (nI i)), (0, .ref (g 1)), (1, .int (nI k)), (2, .int (nI n))]) hx hb dX2_bestSwap_114 hl (k := 4) rfl (by first | rfl | decide) (by decide) rfl (fun ls hl => ?_)
                refine lv_goto (tgt := 32) hx hb dX2_bestSwap_117 (by decide) ?_
                (try rw [ef_8] at hP); (try rw [ef_8] at hD); (try rw [ef_8] at hl); (try rw [ef_8] at c_41); (try rw [ef_8] at c_98); (try rw [ef_8] at d_98); (try rw [ef_8])
                (try rw [ef_7] at hP); (try rw [ef_7] at hD); (try rw [ef_7] at hl); (try rw [ef_7] at c_41); (try rw [ef_7] at c_98); (try rw [ef_7] at d_98); (try rw [ef_7])
                exact ih_32 (j + 1) ((10 * (nI i)) + (nI (i + 1 + j))) (tc_ (mkB (kd_ (B)) (fg_ (B)) (upd (upd (pl_ (B)) i ((pl_ B) (i + 1 + j))) (i + 1 + j) ((pl_ B) i)) (pw_ (B)) (jy_ (B)) (qt_ (B)) (sn_ (B)) (il_ (B)) (pa_ (B)) (ho_ (B)) (dy_ (B))) k n) ((nI (i + 1 + j)) + 1) (hs_ n (mkB (kd_ (B)) (fg_ (B)) (upd (upd (pl_ (B)) i ((pl_ B) (i + 1 + j))) (i + 1 + j) ((pl_ B) i)) (pw_ (B)) (jy_ (B)) (qt_ (B)) (sn_ (B)) (il_ (B)) (pa_ (B)) (ho_ (B)) (dy_ (B)))) (by first | exact s1_a1 c_98 | exact s1_b1 c_98) (by first | exact s1_a2 c_98 | exact s1_b2 c_98) (nI_1 _) (by omega) (by omega) _ _ hP hD hS ls (lv_sub hl [0, 5, 1, 2, 6, 7, 8] rfl)
        exact lp_32 ((sn_ B - (i + 1)) + 1) 0 ((s2_ B k n i).1) ((s2_ B k n i).2) ((nI i) + 1) T2 (rfl) (rfl) (by rw [Nat.add_zero]; exact nI_1 _) (by omega) (by omega) _ _ hP hD hS ls (lv_sub hl [0, 1, 2, 3, 4, 5, 6] rfl)
  exact lp_14 ((sn_ B) + 1) 0 (-9) (tc_ B k n) 0 u_2 (by first | rfl | exact nI_0.symm) (by first | rfl | exact nI_0.symm) (by first | rfl | exact nI_0.symm) (by omega) (by omega) _ _ hP hD hS ls (lv_sub hl [0, 1, 2, 3, 4, 5] rfl)

theorem okX2_leadsTo : jok yX2_leadsTo wsX2_leadsTo cX2_leadsTo 5 (some .boolean) 3 := ⟨⟨_, rfl⟩, by decide +kernel, by decide +kernel⟩
set_option maxHeartbeats 1000000 in
set_option maxRecDepth 100000 in
theorem qX2_leadsTo (l : Launch) (D : va_G) (cI cB : ClassId) (g : Nat → Nat) (B : BayT) (T : BayT) (k : Nat) (n : Nat) (v : Nat) (hn7 : sn_ B ≤ 7) (hk : k < 7) (hn : n ≤ 99) : jMi D cI cB l yX2_leadsTo wsX2_leadsTo 5 [.ref (g 1), .int (nI k), .int (nI n), .int (nI v)] (miO g ++ bW cI g 4 B ++ bW cI g 10 T) (S := BayT) (fun r u => r = b1 (lead_ B k n v)) (fun u => miO g ++ bW cI g 4 B ++ bW cI g 10 u) := by
  refine jMi.of (cc := cX2_leadsTo) (maxL := 5) (ret := (some .boolean)) okX2_leadsTo (Nat.le_of_ble_eq_true rfl) ?_
  intro p e s m below meth c ls A hx hb hr hts hown hlk hml hP hK hD hA hS hl
  replace hown : s.vm.findClass RX2 = some m.cls := hown
  replace hl : lv_has ls 5 [(0, .ref (g 1)), (1, .int (nI k)), (2, .int (nI n)), (3, .int (nI v))] := hl
  have hinX0 : ∀ w ∈ wsX00, w ∈ wsX2_leadsTo := by decide +kernel
  refine lv_aload_n hx hb dX2_leadsTo_0 rfl (lv_at hl 0 rfl) ?_
  refine kMrV hx hb hml hown hts hK hP hD hA hS gX2_leadsTo_X2_asNow okX2_asNow (qX2_asNow l D cI cB g B T ) [0, 1, 2, 3, 4, 5, 6, 7, 8, 9, 10, 11, 12] rfl (by decide) (fun _ => rfl) rfl rfl rfl (by decide) hl.1 rfl rfl (Nat.le_of_ble_eq_true rfl) dX2_leadsTo_1 (by decide) (fun u_2 H locs hw_3 hP hD hS => ?_)
  replace hw_3 : u_2 = B := hw_3
  subst u_2
  replace hP : va_P D vwCl (miO g ++ bW cI g 4 B ++ bW cI g 10 (B)) H := hP
  replace hD : va_D A (miO g ++ bW cI g 4 B ++ bW cI g 10 (B)) := hD
  refine lv_astore (lv' := [(4, .ref (g 10)), (0, .ref (g 1)), (1, .int (nI k)), (2, .int (nI n)), (3, .int (nI v))]) hx hb dX2_leadsTo_4 hl (by decide) rfl (fun ls hl => ?_)
  refine lv_aload hx hb dX2_leadsTo_6 (lv_at hl 0 rfl) ?_
  refine lv_iload_n hx hb dX2_leadsTo_8 rfl (lv_at hl 4 rfl) ?_
  refine va_putN (ci := 0) (ty := .int) (C := RX0) (T := TX0) (N := 11) hx hb hts hinX0 tyX0 tyX0_ok nmX0 hown hK.1 hP hD hS 7 rfl rfl 7 (by decide) (va_Nw.use rfl (hK.2 _ (List.mem_of_getElem? (i := 15) rfl))) (fun _ h9 => h9) rfl (by decide +kernel) (rfl) (rfl) (Nat.le_of_ble_eq_true rfl) dX2_leadsTo_9 (fun H locs hP hD hS => ?_)
  replace hP : va_P D vwCl (miO g ++ bW cI g 4 B ++ bW cI g 10 (mkB (kd_ (B)) (fg_ (B)) (pl_ (B)) (pw_ (B)) (jy_ (B)) (qt_ (B)) (sn_ (B)) (nI v) (pa_ (B)) (ho_ (B)) (dy_ (B)))) H := hP
  replace hD : va_D A (miO g ++ bW cI g 4 B ++ bW cI g 10 (mkB (kd_ (B)) (fg_ (B)) (pl_ (B)) (pw_ (B)) (jy_ (B)) (qt_ (B)) (sn_ (B)) (nI v) (pa_ (B)) (ho_ (B)) (dy_ (B)))) := hD
  refine lv_aload hx hb dX2_leadsTo_12 (lv_at hl 0 rfl) ?_
  refine lv_iload_n hx hb dX2_leadsTo_14 rfl (lv_at hl 3 rfl) ?_
  refine kMvN hx hb hml hown hts hK hP hD hA hS gX2_leadsTo_X0_passHours_n36 (hK.2 _ (List.mem_of_getElem? (i := 82) rfl)) (hts _ (List.mem_of_getElem? (i := 9) rfl)) (hts _ (List.mem_of_getElem? (i := 27) rfl)) (hts _ (List.mem_of_getElem? (i := 28) rfl)) okX0_passHours (qX0_passHours l D cI cB g 10 (mkB (kd_ (B)) (fg_ (B)) (pl_ (B)) (pw_ (B)) (jy_ (B)) (qt_ (B)) (sn_ (B)) (nI v) (pa_ (B)) (ho_ (B)) (dy_ (B))) n (by show sn_ B ≤ 7; omega) (by omega)) [7, 8, 9, 10, 11, 12] rfl (by decide) (fun _ => rfl) rfl rfl rfl (by decide) hl.1 rfl rfl (Nat.le_of_ble_eq_true rfl) dX2_leadsTo_15 (by decide) (fun u_5 H locs hw_6 hP hD hS => ?_)
  replace hw_6 : u_5 = hs_ n (mkB (kd_ (B)) (fg_ (B)) (pl_ (B)) (pw_ (B)) (jy_ (B)) (qt_ (B)) (sn_ (B)) (nI v) (pa_ (B)) (ho_ (B)) (dy_ (B))) := hw_6
  subst u_5
  replace hP : va_P D vwCl (miO g ++ bW cI g 4 B ++ bW cI g 10 (hs_ n (mkB (kd_ (B)) (fg_ (B)) (pl_ (B)) (pw_ (B)) (jy_ (B)) (qt_ (B)) (sn_ (B)) (nI v) (pa_ (B)) (ho_ (B)) (dy_ (B))))) H := hP
  replace hD : va_D A (miO g ++ bW cI g 4 B ++ bW cI g 10 (hs_ n (mkB (kd_ (B)) (fg_ (B)) (pl_ (B)) (pw_ (B)) (jy_ (B)) (qt_ (B)) (sn_ (B)) (nI v) (pa_ (B)) (ho_ (B)) (dy_ (B))))) := hD
  refine lv_aload hx hb dX2_leadsTo_18 (lv_at hl 0 rfl) ?_
  refine lv_iload_n hx hb dX2_leadsTo_20 rfl (lv_at hl 2 rfl) ?_
  refine kSiN hx hb hml hown hts hK hP gX2_leadsTo_X0_hasIsle_n44 (hK.2 _ (List.mem_of_getElem? (i := 84) rfl)) (hts _ (List.mem_of_getElem? (i := 9) rfl)) (hts _ (List.mem_of_getElem? (i := 51) rfl)) (hts _ (List.mem_of_getElem? (i := 52) rfl)) okX0_hasIsle (qX0_hasIsle l D cI cB g 10 (hs_ n (mkB (kd_ (B)) (fg_ (B)) (pl_ (B)) (pw_ (B)) (jy_ (B)) (qt_ (B)) (sn_ (B)) (nI v) (pa_ (B)) (ho_ (B)) (dy_ (B)))) k (by show sn_ (hs_ _ _) ≤ 7; rw [sn_hs]; show sn_ B ≤ 7; omega) (by omega)) [7, 8, 9, 10, 11, 12] rfl rfl rfl rfl (by decide) hl.1 rfl rfl (Nat.le_of_ble_eq_true rfl) dX2_leadsTo_21 (by decide) (fun r_7 hr_8 => ?_)
  replace hr_8 : r_7 = b1 (pl_ (hs_ n (mkB (kd_ (B)) (fg_ (B)) (pl_ (B)) (pw_ (B)) (jy_ (B)) (qt_ (B)) (sn_ (B)) (nI v) (pa_ (B)) (ho_ (B)) (dy_ (B)))) k = il_ (hs_ n (mkB (kd_ (B)) (fg_ (B)) (pl_ (B)) (pw_ (B)) (jy_ (B)) (qt_ (B)) (sn_ (B)) (nI v) (pa_ (B)) (ho_ (B)) (dy_ (B))))) := hr_8
  subst r_7
  refine rMz hx hb hr hlk hS (hs_ n (mkB (kd_ (B)) (fg_ (B)) (pl_ (B)) (pw_ (B)) (jy_ (B)) (qt_ (B)) (sn_ (B)) (nI v) (pa_ (B)) (ho_ (B)) (dy_ (B)))) hP (b1_01 _) ?_ dX2_leadsTo_24
  first | rfl | exact ⟨rfl, rfl⟩

theorem okX2_countStarts : jok yX2_countStarts wsX2_countStarts cX2_countStarts 5 (some .int) 2 := ⟨⟨_, rfl⟩, by decide +kernel, by decide +kernel⟩
set_option maxHeartbeats 1000000 in
set_option maxRecDepth 100000 in
theorem qX2_countStarts (l : Launch) (D : va_G) (cI cB : ClassId) (g : Nat → Nat) (B : BayT) (T : BayT) (k : Nat) (n : Nat) (hn7 : sn_ B ≤ 7) (hk : k < 7) (hn : n ≤ 99) : jMi D cI cB l yX2_countStarts wsX2_countStarts 6 [.ref (g 1), .int (nI k), .int (nI n)] (miO g ++ bW cI g 4 B ++ bW cI g 10 T) (S := BayT) (fun r u => r = cs_ B k n 31) (fun u => miO g ++ bW cI g 4 B ++ bW cI g 10 u) := by
  refine jMi.of (cc := cX2_countStarts) (maxL := 5) (ret := (some .int)) okX2_countStarts (Nat.le_of_ble_eq_true rfl) ?_
  intro p e s m below meth c ls A hx hb hr hts hown hlk hml hP hK hD hA hS hl
  replace hown : s.vm.findClass RX2 = some m.cls := hown
  replace hl : lv_has ls 5 [(0, .ref (g 1)), (1, .int (nI k)), (2, .int (nI n))] := hl
  refine lv_iconst (v := 0) hx hb dX2_countStarts_0 (by decide) ?_
  refine lv_istore_n (lv' := [(3, .int 0), (0, .ref (g 1)), (1, .int (nI k)), (2, .int (nI n))]) hx hb dX2_countStarts_1 rfl hl (by decide) rfl (fun ls hl => ?_)
  refine lv_iconst (v := 0) hx hb dX2_countStarts_2 (by decide) ?_
  refine lv_istore (lv' := [(4, .int 0), (3, .int 0), (0, .ref (g 1)), (1, .int (nI k)), (2, .int (nI n))]) hx hb dX2_countStarts_3 hl (by decide) rfl (fun ls hl => ?_)
  have lp_5 : ∀ (fu_5 : Nat) (i : Nat) (x3_5 : Int32) (x4_5 : Int32) (T2 : BayT), (x3_5 = cs_ B k n i) → (x4_5 = nI i) → (i ≤ 31) → 31 - i < fu_5 → ∀ (H : Heap) (locs : List Loc), va_P D vwCl (miO g ++ bW cI g 4 B ++ bW cI g 10 T2) H → va_D A (miO g ++ bW cI g 4 B ++ bW cI g 10 T2) → va_S A s.heap H locs → ∀ ls : Array Slot, lv_has ls 5 [(4, .int x4_5), (3, .int x3_5), (0, .ref (g 1)), (1, .int (nI k)), (2, .int (nI n))] → W p l e (jR 6) s m ([.ref (g 1), .int (nI k), .int (nI n)] : List Value).toArray below meth c H locs 0 0 (MQ below (va_Qi (S := BayT) (fun r u => r = cs_ B k n 31) (fun u t => va_P D vwCl ((fun u => miO g ++ bW cI g 4 B ++ bW cI g 10 u) u) t.heap) A) ([.ref (g 1), .int (nI k), .int (nI n)] : List Value).toArray s 0 0 A) (F0 m 5 ls []) := by
    intro fu_5
    induction fu_5 with
    | zero => intro i x3_5 x4_5 T2 hx3_5 hx4_5 hi hfu; exact absurd hfu (Nat.not_lt_zero _)
    | succ fu_5 ih_5 =>
      intro i x3_5 x4_5 T2 hx3_5 hx4_5 hi hfu_5 H locs hP hD hS ls hl
      subst x3_5
      subst x4_5
      replace hl : lv_has ls 5 [(4, .int (nI i)), (3, .int (cs_ B k n i)), (0, .ref (g 1)), (1, .int (nI k)), (2, .int (nI n))] := hl
      replace hP : va_P D vwCl (miO g ++ bW cI g 4 B ++ bW cI g 10 T2) H := hP
      replace hD : va_D A (miO g ++ bW cI g 4 B ++ bW cI g 10 T2) := hD
      refine lv_iload hx hb dX2_countStarts_5 (lv_at hl 0 rfl) ?_
      refine lv_bipush (v := 30) hx hb dX2_countStarts_7 (by decide) ?_
      refine lv_icmp_gt (tgt := 32) hx hb dX2_countStarts_9 (by decide) (fun c_9 => ?_) (fun c_9 => ?_)
      · replace c_9 : nI 30 < nI i := c_9
        rw [jlt (by omega) (by omega)] at c_9
        refine lv_iload_n hx hb dX2_countStarts_32 rfl (lv_at hl 1 rfl) ?_
        refine rMi hx hb hr hlk hS T2 hP ?_ dX2_countStarts_33
        have e9 : i = 31 := by omega
        rw [e9]
      · replace c_9 : ¬ nI 30 < nI i := c_9
        rw [jlt (by omega) (by omega)] at c_9
        refine lv_aload_n hx hb dX2_countStarts_12 rfl (lv_at hl 2 rfl) ?_
        refine lv_iload_n hx hb dX2_countStarts_13 rfl (lv_at hl 3 rfl) ?_
        refine lv_iload_n hx hb dX2_countStarts_14 rfl (lv_at hl 4 rfl) ?_
        refine lv_iload hx hb dX2_countStarts_15 (lv_at hl 0 rfl) ?_
        refine kMiV hx hb hml hown hts hK hP hD hA hS gX2_countStarts_X2_leadsTo okX2_leadsTo (qX2_leadsTo l D cI cB g B T2 k n i (by show sn_ B ≤ 7; omega) (by omega) (by omega)) [0, 1, 2, 3, 4, 5, 6, 7, 8, 9, 10, 11, 12] rfl (by decide) (fun _ => rfl) rfl rfl rfl (by decide) hl.1 rfl rfl (Nat.le_of_ble_eq_true rfl) dX2_countStarts_17 (by decide) (fun r_1 u_2 H locs hw_3 hP hD hS => ?_)
        replace hw_3 : r_1 = b1 (lead_ B k n i) := hw_3
        subst r_1
        replace hP : va_P D vwCl (miO g ++ bW cI g 4 B ++ bW cI g 10 u_2) H := hP
        replace hD : va_D A (miO g ++ bW cI g 4 B ++ bW cI g 10 u_2) := hD
        refine lv_if_eq (tgt := 26) hx hb dX2_countStarts_20 (by decide) (fun c_20 => ?_) (fun c_20 => ?_)
        · replace c_20 := b1_z c_20
          refine lv_iinc (v := (nI i) + 1) (lv' := [(4, .int ((nI i) + 1)), (3, .int (cs_ B k n i)), (0, .ref (g 1)), (1, .int (nI k)), (2, .int (nI n))]) hx hb dX2_countStarts_26 hl (k := 0) rfl (by first | rfl | decide) (by decide) rfl (fun ls hl => ?_)
          refine lv_goto (tgt := 5) hx hb dX2_countStarts_29 (by decide) ?_
          exact ih_5 (i + 1) (cs_ B k n i) ((nI i) + 1) u_2 (by simp only [cs_]; first | rw [if_pos c_20] | rw [if_neg c_20]) (by first | rfl | exact nI_1 _) (by omega) (by omega) _ _ hP hD hS ls (lv_sub hl [0, 1, 2, 3, 4] rfl)
        · replace c_20 := b1_n c_20
          refine lv_iinc (v := (cs_ B k n i) + 1) (lv' := [(3, .int ((cs_ B k n i) + 1)), (4, .int (nI i)), (0, .ref (g 1)), (1, .int (nI k)), (2, .int (nI n))]) hx hb dX2_countStarts_23 hl (k := 1) rfl (by first | rfl | decide) (by decide) rfl (fun ls hl => ?_)
          refine lv_iinc (v := (nI i) + 1) (lv' := [(4, .int ((nI i) + 1)), (3, .int ((cs_ B k n i) + 1)), (0, .ref (g 1)), (1, .int (nI k)), (2, .int (nI n))]) hx hb dX2_countStarts_26 hl (k := 1) rfl (by first | rfl | decide) (by decide) rfl (fun ls hl => ?_)
          refine lv_goto (tgt := 5) hx hb dX2_countStarts_29 (by decide) ?_
          exact ih_5 (i + 1) ((cs_ B k n i) + 1) ((nI i) + 1) u_2 (by simp only [cs_]; first | rw [if_pos c_20] | rw [if_neg c_20]) (by first | rfl | exact nI_1 _) (by omega) (by omega) _ _ hP hD hS ls (lv_sub hl [0, 1, 2, 3, 4] rfl)
  exact lp_5 (31 + 1) 0 0 0 T (by first | rfl | exact nI_0.symm) (by first | rfl | exact nI_0.symm) (by omega) (by omega) _ _ hP hD hS ls (lv_sub hl [0, 1, 2, 3, 4] rfl)

theorem okX2_leastStart : jok yX2_leastStart wsX2_leastStart cX2_leastStart 4 (some .int) 2 := ⟨⟨_, rfl⟩, by decide +kernel, by decide +kernel⟩
set_option maxHeartbeats 1000000 in
set_option maxRecDepth 100000 in
theorem qX2_leastStart (l : Launch) (D : va_G) (cI cB : ClassId) (g : Nat → Nat) (B : BayT) (T : BayT) (k : Nat) (n : Nat) (hn7 : sn_ B ≤ 7) (hk : k < 7) (hn : n ≤ 99) : jMi D cI cB l yX2_leastStart wsX2_leastStart 6 [.ref (g 1), .int (nI k), .int (nI n)] (miO g ++ bW cI g 4 B ++ bW cI g 10 T) (S := BayT) (fun r u => r = oI_ (ls_ B k n 31 0)) (fun u => miO g ++ bW cI g 4 B ++ bW cI g 10 u) := by
  refine jMi.of (cc := cX2_leastStart) (maxL := 4) (ret := (some .int)) okX2_leastStart (Nat.le_of_ble_eq_true rfl) ?_
  intro p e s m below meth c ls A hx hb hr hts hown hlk hml hP hK hD hA hS hl
  replace hown : s.vm.findClass RX2 = some m.cls := hown
  replace hl : lv_has ls 4 [(0, .ref (g 1)), (1, .int (nI k)), (2, .int (nI n))] := hl
  refine lv_iconst (v := 0) hx hb dX2_leastStart_0 (by decide) ?_
  refine lv_istore_n (lv' := [(3, .int 0), (0, .ref (g 1)), (1, .int (nI k)), (2, .int (nI n))]) hx hb dX2_leastStart_1 rfl hl (by decide) rfl (fun ls hl => ?_)
  have lp_2 : ∀ (fu_2 : Nat) (i : Nat) (x3_2 : Int32) (T2 : BayT), (x3_2 = nI i) → (i ≤ 31) → (ls_ B k n (31 - i) i = ls_ B k n 31 0) → 31 - i < fu_2 → ∀ (H : Heap) (locs : List Loc), va_P D vwCl (miO g ++ bW cI g 4 B ++ bW cI g 10 T2) H → va_D A (miO g ++ bW cI g 4 B ++ bW cI g 10 T2) → va_S A s.heap H locs → ∀ ls : Array Slot, lv_has ls 4 [(3, .int x3_2), (0, .ref (g 1)), (1, .int (nI k)), (2, .int (nI n))] → W p l e (jR 6) s m ([.ref (g 1), .int (nI k), .int (nI n)] : List Value).toArray below meth c H locs 0 0 (MQ below (va_Qi (S := BayT) (fun r u => r = oI_ (ls_ B k n 31 0)) (fun u t => va_P D vwCl ((fun u => miO g ++ bW cI g 4 B ++ bW cI g 10 u) u) t.heap) A) ([.ref (g 1), .int (nI k), .int (nI n)] : List Value).toArray s 0 0 A) (F0 m 2 ls []) := by
    intro fu_2
    induction fu_2 with
    | zero => intro i x3_2 T2 hx3_2 hi hre hfu; exact absurd hfu (Nat.not_lt_zero _)
    | succ fu_2 ih_2 =>
      intro i x3_2 T2 hx3_2 hi hre hfu_2 H locs hP hD hS ls hl
      subst x3_2
      replace hl : lv_has ls 4 [(3, .int (nI i)), (0, .ref (g 1)), (1, .int (nI k)), (2, .int (nI n))] := hl
      replace hP : va_P D vwCl (miO g ++ bW cI g 4 B ++ bW cI g 10 T2) H := hP
      replace hD : va_D A (miO g ++ bW cI g 4 B ++ bW cI g 10 T2) := hD
      refine lv_iload_n hx hb dX2_leastStart_2 rfl (lv_at hl 0 rfl) ?_
      refine lv_bipush (v := 30) hx hb dX2_leastStart_3 (by decide) ?_
      refine lv_icmp_gt (tgt := 26) hx hb dX2_leastStart_5 (by decide) (fun c_5 => ?_) (fun c_5 => ?_)
      · replace c_5 : nI 30 < nI i := c_5
        rw [jlt (by omega) (by omega)] at c_5
        refine lv_bipush (v := (-9)) hx hb dX2_leastStart_26 (by decide) ?_
        refine rMi hx hb hr hlk hS T2 hP ?_ dX2_leastStart_28
        rw [ls_0 (by omega)] at hre; rw [← hre]; rfl
      · replace c_5 : ¬ nI 30 < nI i := c_5
        rw [jlt (by omega) (by omega)] at c_5
        refine lv_aload_n hx hb dX2_leastStart_8 rfl (lv_at hl 1 rfl) ?_
        refine lv_iload_n hx hb dX2_leastStart_9 rfl (lv_at hl 2 rfl) ?_
        refine lv_iload_n hx hb dX2_leastStart_10 rfl (lv_at hl 3 rfl) ?_
        refine lv_iload_n hx hb dX2_leastStart_11 rfl (lv_at hl 0 rfl) ?_
        refine kMiV hx hb hml hown hts hK hP hD hA hS gX2_leastStart_X2_leadsTo okX2_leadsTo (qX2_leadsTo l D cI cB g B T2 k n i (by show sn_ B ≤ 7; omega) (by omega) (by omega)) [0, 1, 2, 3, 4, 5, 6, 7, 8, 9, 10, 11, 12] rfl (by decide) (fun _ => rfl) rfl rfl rfl (by decide) hl.1 rfl rfl (Nat.le_of_ble_eq_true rfl) dX2_leastStart_12 (by decide) (fun r_1 u_2 H locs hw_3 hP hD hS => ?_)
        replace hw_3 : r_1 = b1 (lead_ B k n i) := hw_3
        subst r_1
        replace hP : va_P D vwCl (miO g ++ bW cI g 4 B ++ bW cI g 10 u_2) H := hP
        replace hD : va_D A (miO g ++ bW cI g 4 B ++ bW cI g 10 u_2) := hD
        refine lv_if_eq (tgt := 20) hx hb dX2_leastStart_15 (by decide) (fun c_15 => ?_) (fun c_15 => ?_)
        · replace c_15 := b1_z c_15
          refine lv_iinc (v := (nI i) + 1) (lv' := [(3, .int ((nI i) + 1)), (0, .ref (g 1)), (1, .int (nI k)), (2, .int (nI n))]) hx hb dX2_leastStart_20 hl (k := 0) rfl (by first | rfl | decide) (by decide) rfl (fun ls hl => ?_)
          refine lv_goto (tgt := 2) hx hb dX2_leastStart_23 (by decide) ?_
          exact ih_2 (i + 1) ((nI i) + 1) u_2 (by first | rfl | exact nI_1 _) (by omega) (by rw [ls_s (by omega), if_neg c_15] at hre; exact hre) (by omega) _ _ hP hD hS ls (lv_sub hl [0, 1, 2, 3] rfl)
        · replace c_15 := b1_n c_15
          refine lv_iload_n hx hb dX2_leastStart_18 rfl (lv_at hl 0 rfl) ?_
          refine rMi hx hb hr hlk hS u_2 hP ?_ dX2_leastStart_19
          rw [ls_s (by omega), if_pos c_15] at hre; rw [← hre]; rfl
  exact lp_2 (31 + 1) 0 0 T (by first | rfl | exact nI_0.symm) (by omega) (rfl) (by omega) _ _ hP hD hS ls (lv_sub hl [0, 1, 2, 3] rfl)

theorem okX2_timesWithPowder : jok yX2_timesWithPowder wsX2_timesWithPowder cX2_timesWithPowder 4 (some .int) 3 := ⟨⟨_, rfl⟩, by decide +kernel, by decide +kernel⟩
set_option maxHeartbeats 1000000 in
set_option maxRecDepth 100000 in
theorem qX2_timesWithPowder (l : Launch) (D : va_G) (cI cB : ClassId) (g : Nat → Nat) (B : BayT) (T : BayT) (k : Nat) (v : Int32) (n : Nat) (hn7 : sn_ B ≤ 7) (hk : k < 7) (hn : n ≤ 99) : jMi D cI cB l yX2_timesWithPowder wsX2_timesWithPowder 5 [.ref (g 1), .int (nI k), .int v, .int (nI n)] (miO g ++ bW cI g 4 B ++ bW cI g 10 T) (S := BayT) (fun r u => r = tc_ (uw_ B k v) k n) (fun u => miO g ++ bW cI g 4 B ++ bW cI g 10 u) := by
  refine jMi.of (cc := cX2_timesWithPowder) (maxL := 4) (ret := (some .int)) okX2_timesWithPowder (Nat.le_of_ble_eq_true rfl) ?_
  intro p e s m below meth c ls A hx hb hr hts hown hlk hml hP hK hD hA hS hl
  replace hown : s.vm.findClass RX2 = some m.cls := hown
  replace hl : lv_has ls 4 [(0, .ref (g 1)), (1, .int (nI k)), (2, .int v), (3, .int (nI n))] := hl
  refine lv_aload_n hx hb dX2_timesWithPowder_0 rfl (lv_at hl 0 rfl) ?_
  refine kMrV hx hb hml hown hts hK hP hD hA hS gX2_timesWithPowder_X2_asNow okX2_asNow (qX2_asNow l D cI cB g B T ) [0, 1, 2, 3, 4, 5, 6, 7, 8, 9, 10, 11, 12] rfl (by decide) (fun _ => rfl) rfl rfl rfl (by decide) hl.1 rfl rfl (Nat.le_of_ble_eq_true rfl) dX2_timesWithPowder_1 (by decide) (fun u_2 H locs hw_3 hP hD hS => ?_)
  replace hw_3 : u_2 = B := hw_3
  subst u_2
  replace hP : va_P D vwCl (miO g ++ bW cI g 4 B ++ bW cI g 10 (B)) H := hP
  replace hD : va_D A (miO g ++ bW cI g 4 B ++ bW cI g 10 (B)) := hD
  refine lv_iload_n hx hb dX2_timesWithPowder_4 rfl (lv_at hl 1 rfl) ?_
  refine lv_iload_n hx hb dX2_timesWithPowder_5 rfl (lv_at hl 2 rfl) ?_
  refine kMvN hx hb hml hown hts hK hP hD hA hS gX2_timesWithPowder_X0_setPowder_n104 (hK.2 _ (List.mem_of_getElem? (i := 102) rfl)) (hts _ (List.mem_of_getElem? (i := 9) rfl)) (hts _ (List.mem_of_getElem? (i := 27) rfl)) (hts _ (List.mem_of_getElem? (i := 28) rfl)) okX0_setPowder (qX0_setPowder l D cI cB g 10 (B) k v (by show sn_ (B) ≤ 7; omega) (by omega)) [7, 8, 9, 10, 11, 12] rfl (by decide) (fun _ => rfl) rfl rfl rfl (by decide) hl.1 rfl rfl (Nat.le_of_ble_eq_true rfl) dX2_timesWithPowder_6 (by decide) (fun u_5 H locs hw_6 hP hD hS => ?_)
  replace hw_6 : u_5 = uw_ (B) k v := hw_6
  subst u_5
  replace hP : va_P D vwCl (miO g ++ bW cI g 4 B ++ bW cI g 10 (uw_ (B) k v)) H := hP
  replace hD : va_D A (miO g ++ bW cI g 4 B ++ bW cI g 10 (uw_ (B) k v)) := hD
  refine lv_aload_n hx hb dX2_timesWithPowder_9 rfl (lv_at hl 0 rfl) ?_
  refine lv_iload_n hx hb dX2_timesWithPowder_10 rfl (lv_at hl 1 rfl) ?_
  refine lv_iload_n hx hb dX2_timesWithPowder_11 rfl (lv_at hl 3 rfl) ?_
  refine kMiV hx hb hml hown hts hK hP hD hA hS gX2_timesWithPowder_X2_timesFromHere okX2_timesFromHere (qX2_timesFromHere l D cI cB g B (uw_ (B) k v) k n (by show sn_ B ≤ 7; omega) (by show sn_ B ≤ 7; omega) (by omega) (by omega)) [0, 1, 2, 3, 4, 5, 6, 7, 8, 9, 10, 11, 12] rfl (by decide) (fun _ => rfl) rfl rfl rfl (by decide) hl.1 rfl rfl (Nat.le_of_ble_eq_true rfl) dX2_timesWithPowder_12 (by decide) (fun r_7 u_8 H locs hw_9 hP hD hS => ?_)
  replace hw_9 : r_7 = tc_ (uw_ (B) k v) k n ∧ u_8 = hs_ n (uw_ (B) k v) := hw_9
  obtain ⟨hw_9a, hw_9b⟩ := hw_9
  subst r_7
  subst u_8
  replace hP : va_P D vwCl (miO g ++ bW cI g 4 B ++ bW cI g 10 (hs_ n (uw_ (B) k v))) H := hP
  replace hD : va_D A (miO g ++ bW cI g 4 B ++ bW cI g 10 (hs_ n (uw_ (B) k v))) := hD
  refine rMi hx hb hr hlk hS (hs_ n (uw_ (B) k v)) hP ?_ dX2_timesWithPowder_15
  first | rfl | exact ⟨rfl, rfl⟩

theorem okX2_bestPowder : jok yX2_bestPowder wsX2_bestPowder cX2_bestPowder 8 (some .int) 2 := ⟨⟨_, rfl⟩, by decide +kernel, by decide +kernel⟩
set_option maxHeartbeats 1000000 in
set_option maxRecDepth 100000 in
theorem qX2_bestPowder (l : Launch) (D : va_G) (cI cB : ClassId) (g : Nat → Nat) (B : BayT) (T : BayT) (k : Nat) (n : Nat) (hn7 : sn_ B ≤ 7) (hk : k < 7) (hn : n ≤ 99) : jMi D cI cB l yX2_bestPowder wsX2_bestPowder 6 [.ref (g 1), .int (nI k), .int (nI n)] (miO g ++ bW cI g 4 B ++ bW cI g 10 T) (S := BayT) (fun r u => r = bp_ (fun j => tc_ (uw_ B k (nI j)) k n) (ct_ B k) 101 0 0 0) (fun u => miO g ++ bW cI g 4 B ++ bW cI g 10 u) := by
  refine jMi.of (cc := cX2_bestPowder) (maxL := 8) (ret := (some .int)) okX2_bestPowder (Nat.le_of_ble_eq_true rfl) ?_
  intro p e s m below meth c ls A hx hb hr hts hown hlk hml hP hK hD hA hS hl
  replace hown : s.vm.findClass RX2 = some m.cls := hown
  replace hl : lv_has ls 8 [(0, .ref (g 1)), (1, .int (nI k)), (2, .int (nI n))] := hl
  have hct := ct_b B k
  have hinX2 : ∀ w ∈ wsX20, w ∈ wsX2_bestPowder := by decide +kernel
  refine lv_aload_n hx hb dX2_bestPowder_0 rfl (lv_at hl 0 rfl) ?_
  refine va_get (ci := 2) (C := RX2) (T := TX2) (N := 4) hx hb hts hinX2 hown hK.1 hP 0 rfl rfl 0 (by decide) (hts _ (List.mem_of_getElem? (i := 1) rfl)) (fun _ h9 => h9) rfl dX2_bestPowder_1 ?_
  refine lv_iload_n hx hb dX2_bestPowder_4 rfl (lv_at hl 1 rfl) ?_
  refine kSiN hx hb hml hown hts hK hP gX2_bestPowder_X0_costOf_n108 (hK.2 _ (List.mem_of_getElem? (i := 101) rfl)) (hts _ (List.mem_of_getElem? (i := 3) rfl)) (hts _ (List.mem_of_getElem? (i := 2) rfl)) (hts _ (List.mem_of_getElem? (i := 4) rfl)) okX0_costOf (qX0_costOf l D cI cB g 4 B k (by show sn_ B ≤ 7; omega) (by omega)) [1, 2, 3, 4, 5, 6] rfl rfl rfl rfl (by decide) hl.1 rfl rfl (Nat.le_of_ble_eq_true rfl) dX2_bestPowder_5 (by decide) (fun r_1 hr_2 => ?_)
  replace hr_2 : r_1 = co_ (kd_ B k) (fg_ B k) := hr_2
  subst r_1
  refine lv_if_le (tgt := 22) hx hb dX2_bestPowder_8 (by decide) (fun c_8 => ?_) (fun c_8 => ?_)
  · have d_8 := Int32.not_lt.mpr c_8
    refine lv_bipush (v := 100) hx hb dX2_bestPowder_22 (by decide) ?_
    refine sti (x := 100) (y := nI (ct_ B k)) (by first | exact ct_y c_8 | exact ct_n c_8) ?_
    refine lv_istore_n (lv' := [(3, .int (nI (ct_ B k))), (0, .ref (g 1)), (1, .int (nI k)), (2, .int (nI n))]) hx hb dX2_bestPowder_24 rfl hl (by decide) rfl (fun ls hl => ?_)
    refine lv_iconst (v := 0) hx hb dX2_bestPowder_25 (by decide) ?_
    refine lv_istore (lv' := [(4, .int 0), (3, .int (nI (ct_ B k))), (0, .ref (g 1)), (1, .int (nI k)), (2, .int (nI n))]) hx hb dX2_bestPowder_26 hl (by decide) rfl (fun ls hl => ?_)
    refine lv_iconst (v := 0) hx hb dX2_bestPowder_28 (by decide) ?_
    refine lv_istore (lv' := [(5, .int 0), (4, .int 0), (3, .int (nI (ct_ B k))), (0, .ref (g 1)), (1, .int (nI k)), (2, .int (nI n))]) hx hb dX2_bestPowder_29 hl (by decide) rfl (fun ls hl => ?_)
    refine lv_iconst (v := 0) hx hb dX2_bestPowder_31 (by decide) ?_
    refine lv_istore (lv' := [(6, .int 0), (5, .int 0), (4, .int 0), (3, .int (nI (ct_ B k))), (0, .ref (g 1)), (1, .int (nI k)), (2, .int (nI n))]) hx hb dX2_bestPowder_32 hl (by decide) rfl (fun ls hl => ?_)
    have lp_34 : ∀ (fu_34 : Nat) (w : Nat) (fu : Nat) (x4_34 : Int32) (x5_34 : Int32) (x6_34 : Int32) (T2 : BayT), (x6_34 = nI w) → (w ≤ 199) → (100 < w + fu) → (bp_ (fun j => tc_ (uw_ B k (nI j)) k n) (ct_ B k) fu w x4_34 x5_34 = bp_ (fun j => tc_ (uw_ B k (nI j)) k n) (ct_ B k) 101 0 0 0) → 200 - w < fu_34 → ∀ (H : Heap) (locs : List Loc), va_P D vwCl (miO g ++ bW cI g 4 B ++ bW cI g 10 T2) H → va_D A (miO g ++ bW cI g 4 B ++ bW cI g 10 T2) → va_S A s.heap H locs → ∀ ls : Array Slot, lv_has ls 8 [(6, .int x6_34), (5, .int x5_34), (4, .int x4_34), (3, .int (nI (ct_ B k))), (0, .ref (g 1)), (1, .int (nI k)), (2, .int (nI n))] → W p l e (jR 6) s m ([.ref (g 1), .int (nI k), .int (nI n)] : List Value).toArray below meth c H locs 0 0 (MQ below (va_Qi (S := BayT) (fun r u => r = bp_ (fun j => tc_ (uw_ B k (nI j)) k n) (ct_ B k) 101 0 0 0) (fun u t => va_P D vwCl ((fun u => miO g ++ bW cI g 4 B ++ bW cI g 10 u) u) t.heap) A) ([.ref (g 1), .int (nI k), .int (nI n)] : List Value).toArray s 0 0 A) (F0 m 34 ls []) := by
      intro fu_34
      induction fu_34 with
      | zero => intro w fu x4_34 x5_34 x6_34 T2 hx6_34 hw hfu2 hre hfu; exact absurd hfu (Nat.not_lt_zero _)
      | succ fu_34 ih_34 =>
        intro w fu x4_34 x5_34 x6_34 T2 hx6_34 hw hfu2 hre hfu_34 H locs hP hD hS ls hl
        subst x6_34
        replace hl : lv_has ls 8 [(6, .int (nI w)), (5, .int x5_34), (4, .int x4_34), (3, .int (nI (ct_ B k))), (0, .ref (g 1)), (1, .int (nI k)), (2, .int (nI n))] := hl
        replace hP : va_P D vwCl (miO g ++ bW cI g 4 B ++ bW cI g 10 T2) H := hP
        replace hD : va_D A (miO g ++ bW cI g 4 B ++ bW cI g 10 T2) := hD
        refine lv_iload hx hb dX2_bestPowder_34 (lv_at hl 0 rfl) ?_
        refine lv_bipush (v := 99) hx hb dX2_bestPowder_36 (by decide) ?_
        refine lv_icmp_gt (tgt := 75) hx hb dX2_bestPowder_38 (by decide) (fun c_38 => ?_) (fun c_38 => ?_)
        · replace c_38 : nI 99 < nI w := c_38
          rw [jlt (by omega) (by omega)] at c_38
          refine lv_iload hx hb dX2_bestPowder_75 (lv_at hl 2 rfl) ?_
          refine rMi hx hb hr hlk hS T2 hP ?_ dX2_bestPowder_77
          rw [bp_e (by omega) _] at hre
          exact hre
        · replace c_38 : ¬ nI 99 < nI w := c_38
          rw [jlt (by omega) (by omega)] at c_38
          refine lv_aload_n hx hb dX2_bestPowder_41 rfl (lv_at hl 4 rfl) ?_
          refine lv_iload_n hx hb dX2_bestPowder_42 rfl (lv_at hl 5 rfl) ?_
          refine lv_iload hx hb dX2_bestPowder_43 (lv_at hl 0 rfl) ?_
          refine lv_iload_n hx hb dX2_bestPowder_45 rfl (lv_at hl 6 rfl) ?_
          refine kMiV hx hb hml hown hts hK hP hD hA hS gX2_bestPowder_X2_timesWithPowder okX2_timesWithPowder (qX2_timesWithPowder l D cI cB g B T2 k (nI w) n (by show sn_ B ≤ 7; omega) (by omega) (by omega)) [0, 1, 2, 3, 4, 5, 6, 7, 8, 9, 10, 11, 12] rfl (by decide) (fun _ => rfl) rfl rfl rfl (by decide) hl.1 rfl rfl (Nat.le_of_ble_eq_true rfl) dX2_bestPowder_46 (by decide) (fun r_3 u_4 H locs hw_5 hP hD hS => ?_)
          replace hw_5 : r_3 = tc_ (uw_ B k (nI w)) k n := hw_5
          subst r_3
          replace hP : va_P D vwCl (miO g ++ bW cI g 4 B ++ bW cI g 10 u_4) H := hP
          replace hD : va_D A (miO g ++ bW cI g 4 B ++ bW cI g 10 u_4) := hD
          refine lv_istore (lv' := [(7, .int (tc_ (uw_ B k (nI w)) k n)), (6, .int (nI w)), (5, .int x5_34), (4, .int x4_34), (3, .int (nI (ct_ B k))), (0, .ref (g 1)), (1, .int (nI k)), (2, .int (nI n))]) hx hb dX2_bestPowder_49 hl (by decide) rfl (fun ls hl => ?_)
          refine lv_iload hx hb dX2_bestPowder_51 (lv_at hl 0 rfl) ?_
          refine lv_iload hx hb dX2_bestPowder_53 (lv_at hl 2 rfl) ?_
          refine lv_icmp_le (tgt := 66) hx hb dX2_bestPowder_55 (by decide) (fun c_55 => ?_) (fun c_55 => ?_)
          · have d_55 := Int32.not_lt.mpr c_55
            refine lv_iload hx hb dX2_bestPowder_66 (lv_at hl 1 rfl) ?_
            refine lv_iload_n hx hb dX2_bestPowder_68 rfl (lv_at hl 4 rfl) ?_
            refine lv_iadd hx hb dX2_bestPowder_69 ?_
            refine lv_istore (lv' := [(6, .int ((nI w) + (nI (ct_ B k)))), (7, .int (tc_ (uw_ B k (nI w)) k n)), (5, .int x5_34), (4, .int x4_34), (3, .int (nI (ct_ B k))), (0, .ref (g 1)), (1, .int (nI k)), (2, .int (nI n))]) hx hb dX2_bestPowder_70 hl (by decide) rfl (fun ls hl => ?_)
            refine lv_goto (tgt := 34) hx hb dX2_bestPowder_72 (by decide) ?_
            exact ih_34 (w + ct_ B k) (fu - 1) x4_34 x5_34 ((nI w) + (nI (ct_ B k))) u_4 (nI_add _ _) (by omega) (by omega) (by first | exact (bp_s1 (f := (fun j => tc_ (uw_ B k (nI j)) k n)) (by omega) c_38 c_55).symm.trans hre | exact (bp_s2 (f := (fun j => tc_ (uw_ B k (nI j)) k n)) (by omega) c_38 c_55).symm.trans hre) (by omega) _ _ hP hD hS ls (lv_sub hl [0, 2, 3, 4, 5, 6, 7] rfl)
          · have d_55 := Int32.not_le.mp c_55
            refine lv_iload hx hb dX2_bestPowder_58 (lv_at hl 1 rfl) ?_
            refine lv_istore (lv' := [(4, .int (nI w)), (7, .int (tc_ (uw_ B k (nI w)) k n)), (6, .int (nI w)), (5, .int x5_34), (3, .int (nI (ct_ B k))), (0, .ref (g 1)), (1, .int (nI k)), (2, .int (nI n))]) hx hb dX2_bestPowder_60 hl (by decide) rfl (fun ls hl => ?_)
            refine lv_iload hx hb dX2_bestPowder_62 (lv_at hl 1 rfl) ?_
            refine lv_istore (lv' := [(5, .int (tc_ (uw_ B k (nI w)) k n)), (4, .int (nI w)), (7, .int (tc_ (uw_ B k (nI w)) k n)), (6, .int (nI w)), (3, .int (nI (ct_ B k))), (0, .ref (g 1)), (1, .int (nI k)), (2, .int (nI n))]) hx hb dX2_bestPowder_64 hl (by decide) rfl (fun ls hl => ?_)
            refine lv_iload hx hb dX2_bestPowder_66 (lv_at hl 3 rfl) ?_
            refine lv_iload_n hx hb dX2_bestPowder_68 rfl (lv_at hl 4 rfl) ?_
            refine lv_iadd hx hb dX2_bestPowder_69 ?_
            refine lv_istore (lv' := [(6, .int ((nI w) + (nI (ct_ B k)))), (5, .int (tc_ (uw_ B k (nI w)) k n)), (4, .int (nI w)), (7, .int (tc_ (uw_ B k (nI w)) k n)), (3, .int (nI (ct_ B k))), (0, .ref (g 1)), (1, .int (nI k)), (2, .int (nI n))]) hx hb dX2_bestPowder_70 hl (by decide) rfl (fun ls hl => ?_)
            refine lv_goto (tgt := 34) hx hb dX2_bestPowder_72 (by decide) ?_
            exact ih_34 (w + ct_ B k) (fu - 1) (nI w) (tc_ (uw_ B k (nI w)) k n) ((nI w) + (nI (ct_ B k))) u_4 (nI_add _ _) (by omega) (by omega) (by first | exact (bp_s1 (f := (fun j => tc_ (uw_ B k (nI j)) k n)) (by omega) c_38 c_55).symm.trans hre | exact (bp_s2 (f := (fun j => tc_ (uw_ B k (nI j)) k n)) (by omega) c_38 c_55).symm.trans hre) (by omega) _ _ hP hD hS ls (lv_sub hl [0, 1, 2, 4, 5, 6, 7] rfl)
    exact lp_34 (200 + 1) 0 101 0 0 0 T (by first | rfl | exact nI_0.symm) (by omega) (by omega) (rfl) (by omega) _ _ hP hD hS ls (lv_sub hl [0, 1, 2, 3, 4, 5, 6] rfl)
  · have d_8 := Int32.not_le.mp c_8
    refine lv_aload_n hx hb dX2_bestPowder_11 rfl (lv_at hl 0 rfl) ?_
    refine va_get (ci := 2) (C := RX2) (T := TX2) (N := 4) hx hb hts hinX2 hown hK.1 hP 0 rfl rfl 0 (by decide) (hts _ (List.mem_of_getElem? (i := 1) rfl)) (fun _ h9 => h9) rfl dX2_bestPowder_12 ?_
    refine lv_iload_n hx hb dX2_bestPowder_15 rfl (lv_at hl 1 rfl) ?_
    refine kSiN hx hb hml hown hts hK hP gX2_bestPowder_X0_costOf_n108 (hK.2 _ (List.mem_of_getElem? (i := 101) rfl)) (hts _ (List.mem_of_getElem? (i := 3) rfl)) (hts _ (List.mem_of_getElem? (i := 2) rfl)) (hts _ (List.mem_of_getElem? (i := 4) rfl)) okX0_costOf (qX0_costOf l D cI cB g 4 B k (by show sn_ B ≤ 7; omega) (by omega)) [1, 2, 3, 4, 5, 6] rfl rfl rfl rfl (by decide) hl.1 rfl rfl (Nat.le_of_ble_eq_true rfl) dX2_bestPowder_16 (by decide) (fun r_6 hr_7 => ?_)
    replace hr_7 : r_6 = co_ (kd_ B k) (fg_ B k) := hr_7
    subst r_6
    refine lv_goto (tgt := 24) hx hb dX2_bestPowder_19 (by decide) ?_
    refine sti (x := co_ (kd_ B k) (fg_ B k)) (y := nI (ct_ B k)) (by first | exact ct_y c_8 | exact ct_n c_8) ?_
    refine lv_istore_n (lv' := [(3, .int (nI (ct_ B k))), (0, .ref (g 1)), (1, .int (nI k)), (2, .int (nI n))]) hx hb dX2_bestPowder_24 rfl hl (by decide) rfl (fun ls hl => ?_)
    refine lv_iconst (v := 0) hx hb dX2_bestPowder_25 (by decide) ?_
    refine lv_istore (lv' := [(4, .int 0), (3, .int (nI (ct_ B k))), (0, .ref (g 1)), (1, .int (nI k)), (2, .int (nI n))]) hx hb dX2_bestPowder_26 hl (by decide) rfl (fun ls hl => ?_)
    refine lv_iconst (v := 0) hx hb dX2_bestPowder_28 (by decide) ?_
    refine lv_istore (lv' := [(5, .int 0), (4, .int 0), (3, .int (nI (ct_ B k))), (0, .ref (g 1)), (1, .int (nI k)), (2, .int (nI n))]) hx hb dX2_bestPowder_29 hl (by decide) rfl (fun ls hl => ?_)
    refine lv_iconst (v := 0) hx hb dX2_bestPowder_31 (by decide) ?_
    refine lv_istore (lv' := [(6, .int 0), (5, .int 0), (4, .int 0), (3, .int (nI (ct_ B k))), (0, .ref (g 1)), (1, .int (nI k)), (2, .int (nI n))]) hx hb dX2_bestPowder_32 hl (by decide) rfl (fun ls hl => ?_)
    have lp_34 : ∀ (fu_34 : Nat) (w : Nat) (fu : Nat) (x4_34 : Int32) (x5_34 : Int32) (x6_34 : Int32) (T2 : BayT), (x6_34 = nI w) → (w ≤ 199) → (100 < w + fu) → (bp_ (fun j => tc_ (uw_ B k (nI j)) k n) (ct_ B k) fu w x4_34 x5_34 = bp_ (fun j => tc_ (uw_ B k (nI j)) k n) (ct_ B k) 101 0 0 0) → 200 - w < fu_34 → ∀ (H : Heap) (locs : List Loc), va_P D vwCl (miO g ++ bW cI g 4 B ++ bW cI g 10 T2) H → va_D A (miO g ++ bW cI g 4 B ++ bW cI g 10 T2) → va_S A s.heap H locs → ∀ ls : Array Slot, lv_has ls 8 [(6, .int x6_34), (5, .int x5_34), (4, .int x4_34), (3, .int (nI (ct_ B k))), (0, .ref (g 1)), (1, .int (nI k)), (2, .int (nI n))] → W p l e (jR 6) s m ([.ref (g 1), .int (nI k), .int (nI n)] : List Value).toArray below meth c H locs 0 0 (MQ below (va_Qi (S := BayT) (fun r u => r = bp_ (fun j => tc_ (uw_ B k (nI j)) k n) (ct_ B k) 101 0 0 0) (fun u t => va_P D vwCl ((fun u => miO g ++ bW cI g 4 B ++ bW cI g 10 u) u) t.heap) A) ([.ref (g 1), .int (nI k), .int (nI n)] : List Value).toArray s 0 0 A) (F0 m 34 ls []) := by
      intro fu_34
      induction fu_34 with
      | zero => intro w fu x4_34 x5_34 x6_34 T2 hx6_34 hw hfu2 hre hfu; exact absurd hfu (Nat.not_lt_zero _)
      | succ fu_34 ih_34 =>
        intro w fu x4_34 x5_34 x6_34 T2 hx6_34 hw hfu2 hre hfu_34 H locs hP hD hS ls hl
        subst x6_34
        replace hl : lv_has ls 8 [(6, .int (nI w)), (5, .int x5_34), (4, .int x4_34), (3, .int (nI (ct_ B k))), (0, .ref (g 1)), (1, .int (nI k)), (2, .int (nI n))] := hl
        replace hP : va_P D vwCl (miO g ++ bW cI g 4 B ++ bW cI g 10 T2) H := hP
        replace hD : va_D A (miO g ++ bW cI g 4 B ++ bW cI g 10 T2) := hD
        refine lv_iload hx hb dX2_bestPowder_34 (lv_at hl 0 rfl) ?_
        refine lv_bipush (v := 99) hx hb dX2_bestPowder_36 (by decide) ?_
        refine lv_icmp_gt (tgt := 75) hx hb dX2_bestPowder_38 (by decide) (fun c_38 => ?_) (fun c_38 => ?_)
        · replace c_38 : nI 99 < nI w := c_38
          rw [jlt (by omega) (by omega)] at c_38
          refine lv_iload hx hb dX2_bestPowder_75 (lv_at hl 2 rfl) ?_
          refine rMi hx hb hr hlk hS T2 hP ?_ dX2_bestPowder_77
          rw [bp_e (by omega) _] at hre
          exact hre
        · replace c_38 : ¬ nI 99 < nI w := c_38
          rw [jlt (by omega) (by omega)] at c_38
          refine lv_aload_n hx hb dX2_bestPowder_41 rfl (lv_at hl 4 rfl) ?_
          refine lv_iload_n hx hb dX2_bestPowder_42 rfl (lv_at hl 5 rfl) ?_
          refine lv_iload hx hb dX2_bestPowder_43 (lv_at hl 0 rfl) ?_
          refine lv_iload_n hx hb dX2_bestPowder_45 rfl (lv_at hl 6 rfl) ?_
          refine kMiV hx hb hml hown hts hK hP hD hA hS gX2_bestPowder_X2_timesWithPowder okX2_timesWithPowder (qX2_timesWithPowder l D cI cB g B T2 k (nI w) n (by show sn_ B ≤ 7; omega) (by omega) (by omega)) [0, 1, 2, 3, 4, 5, 6, 7, 8, 9, 10, 11, 12] rfl (by decide) (fun _ => rfl) rfl rfl rfl (by decide) hl.1 rfl rfl (Nat.le_of_ble_eq_true rfl) dX2_bestPowder_46 (by decide) (fun r_8 u_9 H locs hw_10 hP hD hS => ?_)
          replace hw_10 : r_8 = tc_ (uw_ B k (nI w)) k n := hw_10
          subst r_8
          replace hP : va_P D vwCl (miO g ++ bW cI g 4 B ++ bW cI g 10 u_9) H := hP
          replace hD : va_D A (miO g ++ bW cI g 4 B ++ bW cI g 10 u_9) := hD
          refine lv_istore (lv' := [(7, .int (tc_ (uw_ B k (nI w)) k n)), (6, .int (nI w)), (5, .int x5_34), (4, .int x4_34), (3, .int (nI (ct_ B k))), (0, .ref (g 1)), (1, .int (nI k)), (2, .int (nI n))]) hx hb dX2_bestPowder_49 hl (by decide) rfl (fun ls hl => ?_)
          refine lv_iload hx hb dX2_bestPowder_51 (lv_at hl 0 rfl) ?_
          refine lv_iload hx hb dX2_bestPowder_53 (lv_at hl 2 rfl) ?_
          refine lv_icmp_le (tgt := 66) hx hb dX2_bestPowder_55 (by decide) (fun c_55 => ?_) (fun c_55 => ?_)
          · have d_55 := Int32.not_lt.mpr c_55
            refine lv_iload hx hb dX2_bestPowder_66 (lv_at hl 1 rfl) ?_
            refine lv_iload_n hx hb dX2_bestPowder_68 rfl (lv_at hl 4 rfl) ?_
            refine lv_iadd hx hb dX2_bestPowder_69 ?_
            refine lv_istore (lv' := [(6, .int ((nI w) + (nI (ct_ B k)))), (7, .int (tc_ (uw_ B k (nI w)) k n)), (5, .int x5_34), (4, .int x4_34), (3, .int (nI (ct_ B k))), (0, .ref (g 1)), (1, .int (nI k)), (2, .int (nI n))]) hx hb dX2_bestPowder_70 hl (by decide) rfl (fun ls hl => ?_)
            refine lv_goto (tgt := 34) hx hb dX2_bestPowder_72 (by decide) ?_
            exact ih_34 (w + ct_ B k) (fu - 1) x4_34 x5_34 ((nI w) + (nI (ct_ B k))) u_9 (nI_add _ _) (by omega) (by omega) (by first | exact (bp_s1 (f := (fun j => tc_ (uw_ B k (nI j)) k n)) (by omega) c_38 c_55).symm.trans hre | exact (bp_s2 (f := (fun j => tc_ (uw_ B k (nI j)) k n)) (by omega) c_38 c_55).symm.trans hre) (by omega) _ _ hP hD hS ls (lv_sub hl [0, 2, 3, 4, 5, 6, 7] rfl)
          · have d_55 := Int32.not_le.mp c_55
            refine lv_iload hx hb dX2_bestPowder_58 (lv_at hl 1 rfl) ?_
            refine lv_istore (lv' := [(4, .int (nI w)), (7, .int (tc_ (uw_ B k (nI w)) k n)), (6, .int (nI w)), (5, .int x5_34), (3, .int (nI (ct_ B k))), (0, .ref (g 1)), (1, .int (nI k)), (2, .int (nI n))]) hx hb dX2_bestPowder_60 hl (by decide) rfl (fun ls hl => ?_)
            refine lv_iload hx hb dX2_bestPowder_62 (lv_at hl 1 rfl) ?_
            refine lv_istore (lv' := [(5, .int (tc_ (uw_ B k (nI w)) k n)), (4, .int (nI w)), (7, .int (tc_ (uw_ B k (nI w)) k n)), (6, .int (nI w)), (3, .int (nI (ct_ B k))), (0, .ref (g 1)), (1, .int (nI k)), (2, .int (nI n))]) hx hb dX2_bestPowder_64 hl (by decide) rfl (fun ls hl => ?_)
            refine lv_iload hx hb dX2_bestPowder_66 (lv_at hl 3 rfl) ?_
            refine lv_iload_n hx hb dX2_bestPowder_68 rfl (lv_at hl 4 rfl) ?_
            refine lv_iadd hx hb dX2_bestPowder_69 ?_
            refine lv_istore (lv' := [(6, .int ((nI w) + (nI (ct_ B k)))), (5, .int (tc_ (uw_ B k (nI w)) k n)), (4, .int (nI w)), (7, .int (tc_ (uw_ B k (nI w)) k n)), (3, .int (nI (ct_ B k))), (0, .ref (g 1)), (1, .int (nI k)), (2, .int (nI n))]) hx hb dX2_bestPowder_70 hl (by decide) rfl (fun ls hl => ?_)
            refine lv_goto (tgt := 34) hx hb dX2_bestPowder_72 (by decide) ?_
            exact ih_34 (w + ct_ B k) (fu - 1) (nI w) (tc_ (uw_ B k (nI w)) k n) ((nI w) + (nI (ct_ B k))) u_9 (nI_add _ _) (by omega) (by omega) (by first | exact (bp_s1 (f := (fun j => tc_ (uw_ B k (nI j)) k n)) (by omega) c_38 c_55).symm.trans hre | exact (bp_s2 (f := (fun j => tc_ (uw_ B k (nI j)) k n)) (by omega) c_38 c_55).symm.trans hre) (by omega) _ _ hP hD hS ls (lv_sub hl [0, 1, 2, 4, 5, 6, 7] rfl)
    exact lp_34 (200 + 1) 0 101 0 0 0 T (by first | rfl | exact nI_0.symm) (by omega) (by omega) (rfl) (by omega) _ _ hP hD hS ls (lv_sub hl [0, 1, 2, 3, 4, 5, 6] rfl)

theorem okX2_timesFrom : jok yX2_timesFrom wsX2_timesFrom cX2_timesFrom 5 (some .int) 3 := ⟨⟨_, rfl⟩, by decide +kernel, by decide +kernel⟩
set_option maxHeartbeats 1000000 in
set_option maxRecDepth 100000 in
theorem qX2_timesFrom (l : Launch) (D : va_G) (cI cB : ClassId) (g : Nat → Nat) (B : BayT) (T : BayT) (w : Int32) (v : Int32) (n : Nat) (hn7 : sn_ B ≤ 7) (hs6 : sn_ B < 7) (hn : n ≤ 99) : jMi D cI cB l yX2_timesFrom wsX2_timesFrom 5 [.ref (g 1), .int w, .int v, .int (nI n)] (miO g ++ bW cI g 4 B ++ bW cI g 10 T) (S := BayT) (fun r u => r = tc_ (ad_ B w 5 v) (sn_ B) n) (fun u => miO g ++ bW cI g 4 B ++ bW cI g 10 u) := by
  refine jMi.of (cc := cX2_timesFrom) (maxL := 5) (ret := (some .int)) okX2_timesFrom (Nat.le_of_ble_eq_true rfl) ?_
  intro p e s m below meth c ls A hx hb hr hts hown hlk hml hP hK hD hA hS hl
  replace hown : s.vm.findClass RX2 = some m.cls := hown
  replace hl : lv_has ls 5 [(0, .ref (g 1)), (1, .int w), (2, .int v), (3, .int (nI n))] := hl
  have hinX0 : ∀ w ∈ wsX00, w ∈ wsX2_timesFrom := by decide +kernel
  refine lv_aload_n hx hb dX2_timesFrom_0 rfl (lv_at hl 0 rfl) ?_
  refine kMrV hx hb hml hown hts hK hP hD hA hS gX2_timesFrom_X2_asNow okX2_asNow (qX2_asNow l D cI cB g B T ) [0, 1, 2, 3, 4, 5, 6, 7, 8, 9, 10, 11, 12] rfl (by decide) (fun _ => rfl) rfl rfl rfl (by decide) hl.1 rfl rfl (Nat.le_of_ble_eq_true rfl) dX2_timesFrom_1 (by decide) (fun u_2 H locs hw_3 hP hD hS => ?_)
  replace hw_3 : u_2 = B := hw_3
  subst u_2
  replace hP : va_P D vwCl (miO g ++ bW cI g 4 B ++ bW cI g 10 (B)) H := hP
  replace hD : va_D A (miO g ++ bW cI g 4 B ++ bW cI g 10 (B)) := hD
  refine lv_astore (lv' := [(4, .ref (g 10)), (0, .ref (g 1)), (1, .int w), (2, .int v), (3, .int (nI n))]) hx hb dX2_timesFrom_4 hl (by decide) rfl (fun ls hl => ?_)
  refine lv_aload hx hb dX2_timesFrom_6 (lv_at hl 0 rfl) ?_
  refine lv_iload_n hx hb dX2_timesFrom_8 rfl (lv_at hl 2 rfl) ?_
  refine lv_iconst (v := 5) hx hb dX2_timesFrom_9 (by decide) ?_
  refine lv_iload_n hx hb dX2_timesFrom_10 rfl (lv_at hl 3 rfl) ?_
  refine kMvN hx hb hml hown hts hK hP hD hA hS gX2_timesFrom_X0_add_n114 (hK.2 _ (List.mem_of_getElem? (i := 106) rfl)) (hts _ (List.mem_of_getElem? (i := 9) rfl)) (hts _ (List.mem_of_getElem? (i := 27) rfl)) (hts _ (List.mem_of_getElem? (i := 28) rfl)) okX0_add (qX0_add l D cI cB g 10 (B) w 5 v (by show sn_ (B) ≤ 7; omega)) [7, 8, 9, 10, 11, 12] rfl (by decide) (fun _ => rfl) rfl rfl rfl (by decide) hl.1 rfl rfl (Nat.le_of_ble_eq_true rfl) dX2_timesFrom_11 (by decide) (fun u_5 H locs hw_6 hP hD hS => ?_)
  replace hw_6 : u_5 = ad_ (B) w 5 v := hw_6
  subst u_5
  replace hP : va_P D vwCl (miO g ++ bW cI g 4 B ++ bW cI g 10 (ad_ (B) w 5 v)) H := hP
  replace hD : va_D A (miO g ++ bW cI g 4 B ++ bW cI g 10 (ad_ (B) w 5 v)) := hD
  refine lv_aload_n hx hb dX2_timesFrom_14 rfl (lv_at hl 1 rfl) ?_
  refine lv_aload hx hb dX2_timesFrom_15 (lv_at hl 0 rfl) ?_
  refine va_getN (ci := 0) (C := RX0) (T := TX0) (N := 11) hx hb hts hinX0 hown hK.1 hP 7 rfl rfl 6 (by decide) (va_Nw.use rfl (hK.2 _ (List.mem_of_getElem? (i := 12) rfl))) (fun _ h9 => h9) rfl dX2_timesFrom_17 ?_
  refine lv_iconst (v := 1) hx hb dX2_timesFrom_20 (by decide) ?_
  refine lv_isub hx hb dX2_timesFrom_21 ?_
  refine sti (x := (nI (sn_ (ad_ (B) w 5 v))) - 1) (y := nI (sn_ B)) (by rw [show sn_ (ad_ B w 5 v) = sn_ B + 1 by unfold ad_; rw [if_pos hs6]; rfl]; exact nI_pred _) ?_
  refine lv_iload_n hx hb dX2_timesFrom_22 rfl (lv_at hl 4 rfl) ?_
  refine kMiV hx hb hml hown hts hK hP hD hA hS gX2_timesFrom_X2_timesFromHere okX2_timesFromHere (qX2_timesFromHere l D cI cB g B (ad_ (B) w 5 v) (sn_ B) n (by omega) (by rw [show sn_ (ad_ B w 5 v) = sn_ B + 1 by unfold ad_; rw [if_pos hs6]; rfl]; omega) (by omega) (by omega)) [0, 1, 2, 3, 4, 5, 6, 7, 8, 9, 10, 11, 12] rfl (by decide) (fun _ => rfl) rfl rfl rfl (by decide) hl.1 rfl rfl (Nat.le_of_ble_eq_true rfl) dX2_timesFrom_23 (by decide) (fun r_7 u_8 H locs hw_9 hP hD hS => ?_)
  replace hw_9 : r_7 = tc_ (ad_ (B) w 5 v) (sn_ B) n ∧ u_8 = hs_ n (ad_ (B) w 5 v) := hw_9
  obtain ⟨hw_9a, hw_9b⟩ := hw_9
  subst r_7
  subst u_8
  replace hP : va_P D vwCl (miO g ++ bW cI g 4 B ++ bW cI g 10 (hs_ n (ad_ (B) w 5 v))) H := hP
  replace hD : va_D A (miO g ++ bW cI g 4 B ++ bW cI g 10 (hs_ n (ad_ (B) w 5 v))) := hD
  refine rMi hx hb hr hlk hS (hs_ n (ad_ (B) w 5 v)) hP ?_ dX2_timesFrom_26
  first | rfl | exact ⟨rfl, rfl⟩

theorem okX2_bestNewPlace : jok yX2_bestNewPlace wsX2_bestNewPlace cX2_bestNewPlace 7 (some .int) 2 := ⟨⟨_, rfl⟩, by decide +kernel, by decide +kernel⟩
set_option maxHeartbeats 1000000 in
set_option maxRecDepth 100000 in
theorem qX2_bestNewPlace (l : Launch) (D : va_G) (cI cB : ClassId) (g : Nat → Nat) (B : BayT) (T : BayT) (w : Int32) (n : Nat) (hn7 : sn_ B ≤ 7) (hn : n ≤ 99) : jMi D cI cB l yX2_bestNewPlace wsX2_bestNewPlace 6 [.ref (g 1), .int w, .int (nI n)] (miO g ++ bW cI g 4 B ++ bW cI g 10 T) (S := BayT) (fun r u => r = oI_ (if sn_ B < 7 then (bs_ (np_ B w n) (-1) 31).1 else none)) (fun u => miO g ++ bW cI g 4 B ++ bW cI g 10 u) := by
  refine jMi.of (cc := cX2_bestNewPlace) (maxL := 7) (ret := (some .int)) okX2_bestNewPlace (Nat.le_of_ble_eq_true rfl) ?_
  intro p e s m below meth c ls A hx hb hr hts hown hlk hml hP hK hD hA hS hl
  replace hown : s.vm.findClass RX2 = some m.cls := hown
  replace hl : lv_has ls 7 [(0, .ref (g 1)), (1, .int w), (2, .int (nI n))] := hl
  have hinX0 : ∀ w ∈ wsX00, w ∈ wsX2_bestNewPlace := by decide +kernel
  have hinX2 : ∀ w ∈ wsX20, w ∈ wsX2_bestNewPlace := by decide +kernel
  refine lv_bipush (v := (-9)) hx hb dX2_bestNewPlace_0 (by decide) ?_
  refine lv_istore_n (lv' := [(3, .int (-9)), (0, .ref (g 1)), (1, .int w), (2, .int (nI n))]) hx hb dX2_bestNewPlace_2 rfl hl (by decide) rfl (fun ls hl => ?_)
  refine lv_iconst (v := (-1)) hx hb dX2_bestNewPlace_3 (by decide) ?_
  refine lv_istore (lv' := [(4, .int (-1)), (3, .int (-9)), (0, .ref (g 1)), (1, .int w), (2, .int (nI n))]) hx hb dX2_bestNewPlace_4 hl (by decide) rfl (fun ls hl => ?_)
  refine lv_iconst (v := 0) hx hb dX2_bestNewPlace_6 (by decide) ?_
  refine lv_istore (lv' := [(5, .int 0), (4, .int (-1)), (3, .int (-9)), (0, .ref (g 1)), (1, .int w), (2, .int (nI n))]) hx hb dX2_bestNewPlace_7 hl (by decide) rfl (fun ls hl => ?_)
  have lp_9 : ∀ (fu_9 : Nat) (i : Nat) (x3_9 : Int32) (x4_9 : Int32) (x5_9 : Int32) (T2 : BayT), (x3_9 = oI_ (bs_ (np_ B w n) (-1) i).1) → (x4_9 = (bs_ (np_ B w n) (-1) i).2) → (x5_9 = nI i) → (i ≤ 31) → (i = 0 ∨ sn_ B < 7) → 31 - i < fu_9 → ∀ (H : Heap) (locs : List Loc), va_P D vwCl (miO g ++ bW cI g 4 B ++ bW cI g 10 T2) H → va_D A (miO g ++ bW cI g 4 B ++ bW cI g 10 T2) → va_S A s.heap H locs → ∀ ls : Array Slot, lv_has ls 7 [(5, .int x5_9), (4, .int x4_9), (3, .int x3_9), (0, .ref (g 1)), (1, .int w), (2, .int (nI n))] → W p l e (jR 6) s m ([.ref (g 1), .int w, .int (nI n)] : List Value).toArray below meth c H locs 0 0 (MQ below (va_Qi (S := BayT) (fun r u => r = oI_ (if sn_ B < 7 then (bs_ (np_ B w n) (-1) 31).1 else none)) (fun u t => va_P D vwCl ((fun u => miO g ++ bW cI g 4 B ++ bW cI g 10 u) u) t.heap) A) ([.ref (g 1), .int w, .int (nI n)] : List Value).toArray s 0 0 A) (F0 m 9 ls []) := by
    intro fu_9
    induction fu_9 with
    | zero => intro i x3_9 x4_9 x5_9 T2 hx3_9 hx4_9 hx5_9 hi h06 hfu; exact absurd hfu (Nat.not_lt_zero _)
    | succ fu_9 ih_9 =>
      intro i x3_9 x4_9 x5_9 T2 hx3_9 hx4_9 hx5_9 hi h06 hfu_9 H locs hP hD hS ls hl
      subst x3_9
      subst x4_9
      subst x5_9
      replace hl : lv_has ls 7 [(5, .int (nI i)), (4, .int ((bs_ (np_ B w n) (-1) i).2)), (3, .int (oI_ (bs_ (np_ B w n) (-1) i).1)), (0, .ref (g 1)), (1, .int w), (2, .int (nI n))] := hl
      replace hP : va_P D vwCl (miO g ++ bW cI g 4 B ++ bW cI g 10 T2) H := hP
      replace hD : va_D A (miO g ++ bW cI g 4 B ++ bW cI g 10 T2) := hD
      refine lv_iload hx hb dX2_bestNewPlace_9 (lv_at hl 0 rfl) ?_
      refine lv_bipush (v := 30) hx hb dX2_bestNewPlace_11 (by decide) ?_
      refine lv_icmp_gt (tgt := 76) hx hb dX2_bestNewPlace_13 (by decide) (fun c_13 => ?_) (fun c_13 => ?_)
      · replace c_13 : nI 30 < nI i := c_13
        rw [jlt (by omega) (by omega)] at c_13
        refine lv_iload_n hx hb dX2_bestNewPlace_76 rfl (lv_at hl 2 rfl) ?_
        refine rMi hx hb hr hlk hS T2 hP ?_ dX2_bestNewPlace_77
        first | (rw [if_pos (show sn_ B < 7 by omega), show i = 31 by omega]; done) | (rw [if_neg (show ¬ sn_ B < 7 by omega), show i = 0 by omega]; rfl)
      · replace c_13 : ¬ nI 30 < nI i := c_13
        rw [jlt (by omega) (by omega)] at c_13
        refine lv_aload_n hx hb dX2_bestNewPlace_16 rfl (lv_at hl 3 rfl) ?_
        refine va_get (ci := 2) (C := RX2) (T := TX2) (N := 4) hx hb hts hinX2 hown hK.1 hP 0 rfl rfl 0 (by decide) (hts _ (List.mem_of_getElem? (i := 1) rfl)) (fun _ h9 => h9) rfl dX2_bestNewPlace_17 ?_
        refine va_getN (ci := 0) (C := RX0) (T := TX0) (N := 11) hx hb hts hinX0 hown hK.1 hP 1 rfl rfl 6 (by decide) (va_Nw.use rfl (hK.2 _ (List.mem_of_getElem? (i := 12) rfl))) (fun _ h9 => h9) rfl dX2_bestNewPlace_20 ?_
        refine lv_bipush (v := 7) hx hb dX2_bestNewPlace_23 (by decide) ?_
        refine lv_icmp_ge (tgt := 76) hx hb dX2_bestNewPlace_25 (by decide) (fun c_25 => ?_) (fun c_25 => ?_)
        · replace c_25 : nI 7 ≤ nI (sn_ B) := c_25
          rw [jle (by omega) (by omega)] at c_25
          refine lv_iload_n hx hb dX2_bestNewPlace_76 rfl (lv_at hl 2 rfl) ?_
          refine rMi hx hb hr hlk hS T2 hP ?_ dX2_bestNewPlace_77
          first | (rw [if_pos (show sn_ B < 7 by omega), show i = 31 by omega]; done) | (rw [if_neg (show ¬ sn_ B < 7 by omega), show i = 0 by omega]; rfl)
        · replace c_25 : ¬ nI 7 ≤ nI (sn_ B) := c_25
          rw [jle (by omega) (by omega)] at c_25
          refine lv_aload_n hx hb dX2_bestNewPlace_28 rfl (lv_at hl 3 rfl) ?_
          refine va_get (ci := 2) (C := RX2) (T := TX2) (N := 4) hx hb hts hinX2 hown hK.1 hP 0 rfl rfl 0 (by decide) (hts _ (List.mem_of_getElem? (i := 1) rfl)) (fun _ h9 => h9) rfl dX2_bestNewPlace_29 ?_
          refine lv_iload hx hb dX2_bestNewPlace_32 (lv_at hl 0 rfl) ?_
          refine kSiN hx hb hml hown hts hK hP gX2_bestNewPlace_X0_shoreAt_n118 (hK.2 _ (List.mem_of_getElem? (i := 105) rfl)) (hts _ (List.mem_of_getElem? (i := 3) rfl)) (hts _ (List.mem_of_getElem? (i := 2) rfl)) (hts _ (List.mem_of_getElem? (i := 4) rfl)) okX0_shoreAt (qX0_shoreAt l D cI cB g 4 B (nI i) (by show sn_ B ≤ 7; omega)) [1, 2, 3, 4, 5, 6] rfl rfl rfl rfl (by decide) hl.1 rfl rfl (Nat.le_of_ble_eq_true rfl) dX2_bestNewPlace_34 (by decide) (fun r_1 hr_2 => ?_)
          replace hr_2 : r_1 = oI_ (sa_ B (nI i)) := hr_2
          subst r_1
          refine lv_bipush (v := (-9)) hx hb dX2_bestNewPlace_37 (by decide) ?_
          refine lv_icmp_ne (tgt := 53) hx hb dX2_bestNewPlace_39 (by decide) (fun c_39 => ?_) (fun c_39 => ?_)
          · rw [sa_9 hn7] at c_39
            refine lv_iconst (v := (-1)) hx hb dX2_bestNewPlace_53 (by decide) ?_
            refine lv_istore (lv' := [(6, .int (-1)), (5, .int (nI i)), (4, .int ((bs_ (np_ B w n) (-1) i).2)), (3, .int (oI_ (bs_ (np_ B w n) (-1) i).1)), (0, .ref (g 1)), (1, .int w), (2, .int (nI n))]) hx hb dX2_bestNewPlace_54 hl (by decide) rfl (fun ls hl => ?_)
            refine lv_iload hx hb dX2_bestNewPlace_56 (lv_at hl 0 rfl) ?_
            refine lv_iload hx hb dX2_bestNewPlace_58 (lv_at hl 2 rfl) ?_
            refine lv_icmp_le (tgt := 70) hx hb dX2_bestNewPlace_60 (by decide) (fun c_60 => ?_) (fun c_60 => ?_)
            · have d_60 := Int32.not_lt.mpr c_60
              refine lv_iinc (v := (nI i) + 1) (lv' := [(5, .int ((nI i) + 1)), (6, .int (-1)), (4, .int ((bs_ (np_ B w n) (-1) i).2)), (3, .int (oI_ (bs_ (np_ B w n) (-1) i).1)), (0, .ref (g 1)), (1, .int w), (2, .int (nI n))]) hx hb dX2_bestNewPlace_70 hl (k := 1) rfl (by first | rfl | decide) (by decide) rfl (fun ls hl => ?_)
              refine lv_goto (tgt := 9) hx hb dX2_bestNewPlace_73 (by decide) ?_
              exact ih_9 (i + 1) (oI_ (bs_ (np_ B w n) (-1) i).1) ((bs_ (np_ B w n) (-1) i).2) ((nI i) + 1) T2 (by first | exact bs_o1 (f := np_ B w n) (by unfold np_; first | exact (if_pos (by assumption)).symm | exact (if_neg (by assumption)).symm) c_60 | exact bs_o2 (f := np_ B w n) (by unfold np_; first | exact (if_pos (by assumption)).symm | exact (if_neg (by assumption)).symm) c_60) (by first | exact bs_m1 (f := np_ B w n) (by unfold np_; first | exact (if_pos (by assumption)).symm | exact (if_neg (by assumption)).symm) c_60 | exact bs_m2 (f := np_ B w n) (by unfold np_; first | exact (if_pos (by assumption)).symm | exact (if_neg (by assumption)).symm) c_60) (by first | rfl | exact nI_1 _) (by omega) (Or.inr (by omega)) (by omega) _ _ hP hD hS ls (lv_sub hl [0, 2, 3, 4, 5, 6] rfl)
            · have d_60 := Int32.not_le.mp c_60
              refine lv_iload hx hb dX2_bestNewPlace_63 (lv_at hl 1 rfl) ?_
              refine lv_istore_n (lv' := [(3, .int (nI i)), (6, .int (-1)), (5, .int (nI i)), (4, .int ((bs_ (np_ B w n) (-1) i).2)), (0, .ref (g 1)), (1, .int w), (2, .int (nI n))]) hx hb dX2_bestNewPlace_65 rfl hl (by decide) rfl (fun ls hl => ?_)
              refine lv_iload hx hb dX2_bestNewPlace_66 (lv_at hl 1 rfl) ?_
              refine lv_istore (lv' := [(4, .int (-1)), (3, .int (nI i)), (6, .int (-1)), (5, .int (nI i)), (0, .ref (g 1)), (1, .int w), (2, .int (nI n))]) hx hb dX2_bestNewPlace_68 hl (by decide) rfl (fun ls hl => ?_)
              refine lv_iinc (v := (nI i) + 1) (lv' := [(5, .int ((nI i) + 1)), (4, .int (-1)), (3, .int (nI i)), (6, .int (-1)), (0, .ref (g 1)), (1, .int w), (2, .int (nI n))]) hx hb dX2_bestNewPlace_70 hl (k := 3) rfl (by first | rfl | decide) (by decide) rfl (fun ls hl => ?_)
              refine lv_goto (tgt := 9) hx hb dX2_bestNewPlace_73 (by decide) ?_
              exact ih_9 (i + 1) (nI i) (-1) ((nI i) + 1) T2 (by first | exact bs_o1 (f := np_ B w n) (by unfold np_; first | exact (if_pos (by assumption)).symm | exact (if_neg (by assumption)).symm) c_60 | exact bs_o2 (f := np_ B w n) (by unfold np_; first | exact (if_pos (by assumption)).symm | exact (if_neg (by assumption)).symm) c_60) (by first | exact bs_m1 (f := np_ B w n) (by unfold np_; first | exact (if_pos (by assumption)).symm | exact (if_neg (by assumption)).symm) c_60 | exact bs_m2 (f := np_ B w n) (by unfold np_; first | exact (if_pos (by assumption)).symm | exact (if_neg (by assumption)).symm) c_60) (by first | rfl | exact nI_1 _) (by omega) (Or.inr (by omega)) (by omega) _ _ hP hD hS ls (lv_sub hl [0, 1, 2, 4, 5, 6] rfl)
          · rw [sa_9 hn7] at c_39
            refine lv_aload_n hx hb dX2_bestNewPlace_42 rfl (lv_at hl 3 rfl) ?_
            refine lv_iload_n hx hb dX2_bestNewPlace_43 rfl (lv_at hl 4 rfl) ?_
            refine lv_iload hx hb dX2_bestNewPlace_44 (lv_at hl 0 rfl) ?_
            refine lv_iload_n hx hb dX2_bestNewPlace_46 rfl (lv_at hl 5 rfl) ?_
            refine kMiV hx hb hml hown hts hK hP hD hA hS gX2_bestNewPlace_X2_timesFrom okX2_timesFrom (qX2_timesFrom l D cI cB g B T2 w (nI i) n (by omega) (by omega) (by omega)) [0, 1, 2, 3, 4, 5, 6, 7, 8, 9, 10, 11, 12] rfl (by decide) (fun _ => rfl) rfl rfl rfl (by decide) hl.1 rfl rfl (Nat.le_of_ble_eq_true rfl) dX2_bestNewPlace_47 (by decide) (fun r_3 u_4 H locs hw_5 hP hD hS => ?_)
            replace hw_5 : r_3 = tc_ (ad_ B w 5 (nI i)) (sn_ B) n := hw_5
            subst r_3
            replace hP : va_P D vwCl (miO g ++ bW cI g 4 B ++ bW cI g 10 u_4) H := hP
            replace hD : va_D A (miO g ++ bW cI g 4 B ++ bW cI g 10 u_4) := hD
            refine lv_goto (tgt := 54) hx hb dX2_bestNewPlace_50 (by decide) ?_
            refine lv_istore (lv' := [(6, .int (tc_ (ad_ B w 5 (nI i)) (sn_ B) n)), (5, .int (nI i)), (4, .int ((bs_ (np_ B w n) (-1) i).2)), (3, .int (oI_ (bs_ (np_ B w n) (-1) i).1)), (0, .ref (g 1)), (1, .int w), (2, .int (nI n))]) hx hb dX2_bestNewPlace_54 hl (by decide) rfl (fun ls hl => ?_)
            refine lv_iload hx hb dX2_bestNewPlace_56 (lv_at hl 0 rfl) ?_
            refine lv_iload hx hb dX2_bestNewPlace_58 (lv_at hl 2 rfl) ?_
            refine lv_icmp_le (tgt := 70) hx hb dX2_bestNewPlace_60 (by decide) (fun c_60 => ?_) (fun c_60 => ?_)
            · have d_60 := Int32.not_lt.mpr c_60
              refine lv_iinc (v := (nI i) + 1) (lv' := [(5, .int ((nI i) + 1)), (6, .int (tc_ (ad_ B w 5 (nI i)) (sn_ B) n)), (4, .int ((bs_ (np_ B w n) (-1) i).2)), (3, .int (oI_ (bs_ (np_ B w n) (-1) i).1)), (0, .ref (g 1)), (1, .int w), (2, .int (nI n))]) hx hb dX2_bestNewPlace_70 hl (k := 1) rfl (by first | rfl | decide) (by decide) rfl (fun ls hl => ?_)
              refine lv_goto (tgt := 9) hx hb dX2_bestNewPlace_73 (by decide) ?_
              exact ih_9 (i + 1) (oI_ (bs_ (np_ B w n) (-1) i).1) ((bs_ (np_ B w n) (-1) i).2) ((nI i) + 1) u_4 (by first | exact bs_o1 (f := np_ B w n) (by unfold np_; first | exact (if_pos (by assumption)).symm | exact (if_neg (by assumption)).symm) c_60 | exact bs_o2 (f := np_ B w n) (by unfold np_; first | exact (if_pos (by assumption)).symm | exact (if_neg (by assumption)).symm) c_60) (by first | exact bs_m1 (f := np_ B w n) (by unfold np_; first | exact (if_pos (by assumption)).symm | exact (if_neg (by assumption)).symm) c_60 | exact bs_m2 (f := np_ B w n) (by unfold np_; first | exact (if_pos (by assumption)).symm | exact (if_neg (by assumption)).symm) c_60) (by first | rfl | exact nI_1 _) (by omega) (Or.inr (by omega)) (by omega) _ _ hP hD hS ls (lv_sub hl [0, 2, 3, 4, 5, 6] rfl)
            · have d_60 := Int32.not_le.mp c_60
              refine lv_iload hx hb dX2_bestNewPlace_63 (lv_at hl 1 rfl) ?_
              refine lv_istore_n (lv' := [(3, .int (nI i)), (6, .int (tc_ (ad_ B w 5 (nI i)) (sn_ B) n)), (5, .int (nI i)), (4, .int ((bs_ (np_ B w n) (-1) i).2)), (0, .ref (g 1)), (1, .int w), (2, .int (nI n))]) hx hb dX2_bestNewPlace_65 rfl hl (by decide) rfl (fun ls hl => ?_)
              refine lv_iload hx hb dX2_bestNewPlace_66 (lv_at hl 1 rfl) ?_
              refine lv_istore (lv' := [(4, .int (tc_ (ad_ B w 5 (nI i)) (sn_ B) n)), (3, .int (nI i)), (6, .int (tc_ (ad_ B w 5 (nI i)) (sn_ B) n)), (5, .int (nI i)), (0, .ref (g 1)), (1, .int w), (2, .int (nI n))]) hx hb dX2_bestNewPlace_68 hl (by decide) rfl (fun ls hl => ?_)
              refine lv_iinc (v := (nI i) + 1) (lv' := [(5, .int ((nI i) + 1)), (4, .int (tc_ (ad_ B w 5 (nI i)) (sn_ B) n)), (3, .int (nI i)), (6, .int (tc_ (ad_ B w 5 (nI i)) (sn_ B) n)), (0, .ref (g 1)), (1, .int w), (2, .int (nI n))]) hx hb dX2_bestNewPlace_70 hl (k := 3) rfl (by first | rfl | decide) (by decide) rfl (fun ls hl => ?_)
              refine lv_goto (tgt := 9) hx hb dX2_bestNewPlace_73 (by decide) ?_
              exact ih_9 (i + 1) (nI i) (tc_ (ad_ B w 5 (nI i)) (sn_ B) n) ((nI i) + 1) u_4 (by first | exact bs_o1 (f := np_ B w n) (by unfold np_; first | exact (if_pos (by assumption)).symm | exact (if_neg (by assumption)).symm) c_60 | exact bs_o2 (f := np_ B w n) (by unfold np_; first | exact (if_pos (by assumption)).symm | exact (if_neg (by assumption)).symm) c_60) (by first | exact bs_m1 (f := np_ B w n) (by unfold np_; first | exact (if_pos (by assumption)).symm | exact (if_neg (by assumption)).symm) c_60 | exact bs_m2 (f := np_ B w n) (by unfold np_; first | exact (if_pos (by assumption)).symm | exact (if_neg (by assumption)).symm) c_60) (by first | rfl | exact nI_1 _) (by omega) (Or.inr (by omega)) (by omega) _ _ hP hD hS ls (lv_sub hl [0, 1, 2, 4, 5, 6] rfl)
  exact lp_9 (31 + 1) 0 (-9) (-1) 0 T (by first | rfl | exact nI_0.symm) (by first | rfl | exact nI_0.symm) (by first | rfl | exact nI_0.symm) (by omega) (Or.inl rfl) (by omega) _ _ hP hD hS ls (lv_sub hl [0, 1, 2, 3, 4, 5] rfl)
