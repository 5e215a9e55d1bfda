theorem l_cond {i Ls : Nat} (hi : i ≤ Ls) (hL : Ls ≤ 2560) (c : ¬ (nI Ls - 5 < nI i)) : i + 5 ≤ Ls := by
  by_cases h : 5 ≤ Ls
  · have e : nI Ls - 5 = nI (Ls - 5) := nI_sub9 (b := 5) h
    rw [e, jlt (by omega) (by omega)] at c
    omega
  · exfalso
    apply c
    have hL4 : Ls = 0 ∨ Ls = 1 ∨ Ls = 2 ∨ Ls = 3 ∨ Ls = 4 := by omega
    have h0 : (0 : Int32) ≤ nI i := by show nI 0 ≤ nI i; rw [jle (by decide) (by omega)]; omega
    refine Int32.lt_of_lt_of_le ?_ h0
    rcases hL4 with e | e | e | e | e <;> subst e <;> decide +kernel
set_option maxHeartbeats 4000000 in
set_option maxRecDepth 100000 in
theorem law_loop {p : Program} {l : Launch} {e : Env} {s : State} {m : MethodId} {below : List Frame} {meth : Method} {c : Code} {b Ls : Nat} {xs : Nat → Int32} {D : va_G} {cI cB : ClassId} {g r : Nat → Nat} (C : lwC p s m meth c b Ls xs D cI cB) (hr : meth.sig.returnType = ret) (hlocks : meth.locks = false) : ∀ (N i : Nat) (B : BayT) (T : BayT) (Q : BayT) (P : Nat → BayT) (hi : Int32) (tc : Nat) (rf : Nat → Int32) (f : Nat → Int32) (L : Nat → Int32) (ln : Nat) (la : Nat) (ct : Nat) (f1 : Nat → Int32) (f2 : Nat → Int32) (M : MT) (H : Heap) (locs : List Loc) (ls : Array Slot), i ≤ Ls → Ls < i + N → Rel_ B Q P hi tc rf f L ln la ct M → va_P D vwCl (lV_ cI cB g r B B T Q P hi tc rf f L ln la ct f1 f2 M) H → va_D (lwA s) (lV_ cI cB g r B B T Q P hi tc rf f L ln la ct f1 f2 M) → va_S (lwA s) s.heap H locs → lv_has ls 4 [(3, .int (nI i)), (2, .ref (r 0)), (1, .ref (g 0)), (0, .ref b)] → W p l e room_1 s m #[Value.ref b] below meth c H locs 92 1551 (lw_Z below #[Value.ref b] s) (F0 m 18 ls []) := by
  obtain ⟨hx, hb, hml, hown, hts, hX, hbl, hLs, hK⟩ := id C
  intro N
  induction N with
  | zero => intro i B T Q P hi tc rf f L ln la ct f1 f2 M H locs ls h1 h2; exact absurd h2 (Nat.not_lt.mpr h1)
  | succ N ih =>
    intro i B T Q P hi tc rf f L ln la ct f1 f2 M H locs ls hiL hN hRel hP hD hS hl
    refine lv_iload_n hx hb dL_law_18 rfl (lv_at hl 0 rfl) ?_
    refine lv_aload_n hx hb dL_law_19 rfl (lv_at hl 3 rfl) ?_
    refine va_slen hx hb hX hbl (lwA_b hbl) hS dL_law_20 ?_
    refine lv_iconst (v := 5) hx hb dL_law_21 (by decide) ?_
    refine lv_isub hx hb dL_law_22 ?_
    refine lv_icmp_gt (tgt := 1393) hx hb dL_law_23 (by decide) (fun c9 => ?_) (fun c9 => ?_)
    · refine lv_iconst (v := 1) hx hb dL_law_1393 (by decide) ?_
      refine va_forget (fun q hq => hS.2.2 q hq) ?_
      refine W.widen (k := 600000) (n := 7302250) (Nat.le_of_ble_eq_true rfl) (Nat.le_of_ble_eq_true rfl) ?_
      exact lw_ret hx hb hr hlocks dL_law_1394
    have hi5 : i + 5 ≤ Ls := l_cond hiL hLs c9
    have kk : ∀ (B T Q : BayT) (P : Nat → BayT) (hi : Int32) (tc : Nat) (rf f L : Nat → Int32) (ln la ct : Nat) (f1 f2 : Nat → Int32) (M : MT) (H : Heap) (locs : List Loc) (ls : Array Slot), Rel_ B Q P hi tc rf f L ln la ct M → va_P D vwCl (lV_ cI cB g r B B T Q P hi tc rf f L ln la ct f1 f2 M) H → va_D (lwA s) (lV_ cI cB g r B B T Q P hi tc rf f L ln la ct f1 f2 M) → va_S (lwA s) s.heap H locs → lv_has ls 4 [(3, .int (nI i)), (2, .ref (r 0)), (1, .ref (g 0)), (0, .ref b)] → W p l e room_1 s m #[Value.ref b] below meth c H locs 92 1551 (lw_Z below #[Value.ref b] s) (F0 m 1387 ls []) := by
      intro B T Q P hi tc rf f L ln la ct f1 f2 M H locs ls hRel hP hD hS hl
      refine lv_iinc (v := nI (i + 5)) (lv' := [(3, .int (nI (i + 5))), (2, .ref (r 0)), (1, .ref (g 0)), (0, .ref b)]) hx hb dL_law_1387 hl (k := 0) rfl (by first | exact nI_add i 5 | (rw [show Int32.ofInt 5 = nI 5 by decide]; exact nI_add i 5)) (by decide) rfl (fun ls hl => ?_)
      refine lv_goto (tgt := 18) hx hb dL_law_1390 (by decide) ?_
      exact ih (i + 5) B T Q P hi tc rf f L ln la ct f1 f2 M H locs ls hi5 (by omega) hRel hP hD hS hl
    refine lv_aload_n hx hb dL_law_26 rfl (lv_at hl 3 rfl) ?_
    refine lv_iload_n hx hb dL_law_27 rfl (lv_at hl 0 rfl) ?_
    refine va_sld hx hb hX hbl (lwA_b hbl) hS (vp_in_nI (n := i) (by omega) (by omega)) dL_law_28 ?_
    rw [nI_clamp (by omega)]
    refine lv_bipush (v := 63) hx hb dL_law_29 (by decide) ?_
    refine lv_iand hx hb dL_law_31 ?_
    by_cases c0 : xs i &&& 63 = 0
    · refine lv_tableIn (off := 180) (tgt := 212) hx hb dL_law_32 (by rw [c0]; decide) (by rw [c0]; decide) (by rw [c0]; rfl) (by decide) ?_
      exact law_0 C hRel hi5 hP hD hS hl kk
    by_cases c1 : xs i &&& 63 = 1
    · refine lv_tableIn (off := 203) (tgt := 235) hx hb dL_law_32 (by rw [c1]; decide) (by rw [c1]; decide) (by rw [c1]; rfl) (by decide) ?_
      exact law_1 C hRel hi5 hP hD hS hl kk
    by_cases c2 : xs i &&& 63 = 2
    · refine lv_tableIn (off := 216) (tgt := 248) hx hb dL_law_32 (by rw [c2]; decide) (by rw [c2]; decide) (by rw [c2]; rfl) (by decide) ?_
      exact law_2 C hRel hi5 hP hD hS hl kk
    by_cases c3 : xs i &&& 63 = 3
    · refine lv_tableIn (off := 249) (tgt := 281) hx hb dL_law_32 (by rw [c3]; decide) (by rw [c3]; decide) (by rw [c3]; rfl) (by decide) ?_
      exact law_3 C hRel hi5 hP hD hS hl kk
    by_cases c4 : xs i &&& 63 = 4
    · refine lv_tableIn (off := 272) (tgt := 304) hx hb dL_law_32 (by rw [c4]; decide) (by rw [c4]; decide) (by rw [c4]; rfl) (by decide) ?_
      exact law_4 C hRel hi5 hP hD hS hl kk
    by_cases c5 : xs i &&& 63 = 5
    · refine lv_tableIn (off := 315) (tgt := 347) hx hb dL_law_32 (by rw [c5]; decide) (by rw [c5]; decide) (by rw [c5]; rfl) (by decide) ?_
      exact law_5 C hRel hi5 hP hD hS hl kk
    by_cases c6 : xs i &&& 63 = 6
    · refine lv_tableIn (off := 348) (tgt := 380) hx hb dL_law_32 (by rw [c6]; decide) (by rw [c6]; decide) (by rw [c6]; rfl) (by decide) ?_
      exact law_6 C hRel hi5 hP hD hS hl kk
    by_cases c7 : xs i &&& 63 = 7
    · refine lv_tableIn (off := 371) (tgt := 403) hx hb dL_law_32 (by rw [c7]; decide) (by rw [c7]; decide) (by rw [c7]; rfl) (by decide) ?_
      exact law_7 C hRel hi5 hP hD hS hl kk
    by_cases c8 : xs i &&& 63 = 8
    · refine lv_tableIn (off := 404) (tgt := 436) hx hb dL_law_32 (by rw [c8]; decide) (by rw [c8]; decide) (by rw [c8]; rfl) (by decide) ?_
      exact law_8 C hRel hi5 hP hD hS hl kk
    by_cases c9 : xs i &&& 63 = 9
    · refine lv_tableIn (off := 427) (tgt := 459) hx hb dL_law_32 (by rw [c9]; decide) (by rw [c9]; decide) (by rw [c9]; rfl) (by decide) ?_
      exact law_9 C hRel hi5 hP hD hS hl kk
    by_cases c10 : xs i &&& 63 = 10
    · refine lv_tableIn (off := 440) (tgt := 472) hx hb dL_law_32 (by rw [c10]; decide) (by rw [c10]; decide) (by rw [c10]; rfl) (by decide) ?_
      exact law_10 C hRel hi5 hP hD hS hl kk
    by_cases c11 : xs i &&& 63 = 11
    · refine lv_tableIn (off := 473) (tgt := 505) hx hb dL_law_32 (by rw [c11]; decide) (by rw [c11]; decide) (by rw [c11]; rfl) (by decide) ?_
      exact law_11 C hRel hi5 hP hD hS hl kk
    by_cases c12 : xs i &&& 63 = 12
    · refine lv_tableIn (off := 506) (tgt := 538) hx hb dL_law_32 (by rw [c12]; decide) (by rw [c12]; decide) (by rw [c12]; rfl) (by decide) ?_
      exact law_12 C hRel hi5 hP hD hS hl kk
    by_cases c13 : xs i &&& 63 = 13
    · refine lv_tableIn (off := 539) (tgt := 571) hx hb dL_law_32 (by rw [c13]; decide) (by rw [c13]; decide) (by rw [c13]; rfl) (by decide) ?_
      exact law_13 C hRel hi5 hP hD hS hl kk
    by_cases c14 : xs i &&& 63 = 14
    · refine lv_tableIn (off := 582) (tgt := 614) hx hb dL_law_32 (by rw [c14]; decide) (by rw [c14]; decide) (by rw [c14]; rfl) (by decide) ?_
      exact law_14 C hRel hi5 hP hD hS hl kk
    by_cases c15 : xs i &&& 63 = 15
    · refine lv_tableIn (off := 605) (tgt := 637) hx hb dL_law_32 (by rw [c15]; decide) (by rw [c15]; decide) (by rw [c15]; rfl) (by decide) ?_
      exact law_15 C hRel hi5 hP hD hS hl kk
    by_cases c16 : xs i &&& 63 = 16
    · refine lv_tableIn (off := 628) (tgt := 660) hx hb dL_law_32 (by rw [c16]; decide) (by rw [c16]; decide) (by rw [c16]; rfl) (by decide) ?_
      exact law_16 C hRel hi5 hP hD hS hl kk
    by_cases c17 : xs i &&& 63 = 17
    · refine lv_tableIn (off := 661) (tgt := 693) hx hb dL_law_32 (by rw [c17]; decide) (by rw [c17]; decide) (by rw [c17]; rfl) (by decide) ?_
      exact law_17 C hRel hi5 hP hD hS hl kk
    by_cases c18 : xs i &&& 63 = 18
    · refine lv_tableIn (off := 694) (tgt := 726) hx hb dL_law_32 (by rw [c18]; decide) (by rw [c18]; decide) (by rw [c18]; rfl) (by decide) ?_
      exact law_18 C hRel hi5 hP hD hS hl kk
    by_cases c19 : xs i &&& 63 = 19
    · refine lv_tableIn (off := 727) (tgt := 759) hx hb dL_law_32 (by rw [c19]; decide) (by rw [c19]; decide) (by rw [c19]; rfl) (by decide) ?_
      exact law_19 C hRel hi5 hP hD hS hl kk
    by_cases c20 : xs i &&& 63 = 20
    · refine lv_tableIn (off := 760) (tgt := 792) hx hb dL_law_32 (by rw [c20]; decide) (by rw [c20]; decide) (by rw [c20]; rfl) (by decide) ?_
      exact law_20 C hRel hi5 hP hD hS hl kk
    by_cases c21 : xs i &&& 63 = 21
    · refine lv_tableIn (off := 803) (tgt := 835) hx hb dL_law_32 (by rw [c21]; decide) (by rw [c21]; decide) (by rw [c21]; rfl) (by decide) ?_
      exact law_21 C hRel hi5 hP hD hS hl kk
    by_cases c22 : xs i &&& 63 = 22
    · refine lv_tableIn (off := 846) (tgt := 878) hx hb dL_law_32 (by rw [c22]; decide) (by rw [c22]; decide) (by rw [c22]; rfl) (by decide) ?_
      exact law_22 C hRel hi5 hP hD hS hl kk
    by_cases c23 : xs i &&& 63 = 23
    · refine lv_tableIn (off := 889) (tgt := 921) hx hb dL_law_32 (by rw [c23]; decide) (by rw [c23]; decide) (by rw [c23]; rfl) (by decide) ?_
      exact law_23 C hRel hi5 hP hD hS hl kk
    by_cases c24 : xs i &&& 63 = 24
    · refine lv_tableIn (off := 922) (tgt := 954) hx hb dL_law_32 (by rw [c24]; decide) (by rw [c24]; decide) (by rw [c24]; rfl) (by decide) ?_
      exact law_24 C hRel hi5 hP hD hS hl kk
    by_cases c25 : xs i &&& 63 = 25
    · refine lv_tableIn (off := 965) (tgt := 997) hx hb dL_law_32 (by rw [c25]; decide) (by rw [c25]; decide) (by rw [c25]; rfl) (by decide) ?_
      exact law_25 C hRel hi5 hP hD hS hl kk
    by_cases c26 : xs i &&& 63 = 26
    · refine lv_tableIn (off := 1019) (tgt := 1051) hx hb dL_law_32 (by rw [c26]; decide) (by rw [c26]; decide) (by rw [c26]; rfl) (by decide) ?_
      exact law_26 C hRel hi5 hP hD hS hl kk
    by_cases c27 : xs i &&& 63 = 27
    · refine lv_tableIn (off := 1042) (tgt := 1074) hx hb dL_law_32 (by rw [c27]; decide) (by rw [c27]; decide) (by rw [c27]; rfl) (by decide) ?_
      exact law_27 C hRel hi5 hP hD hS hl kk
    by_cases c28 : xs i &&& 63 = 28
    · refine lv_tableIn (off := 1065) (tgt := 1097) hx hb dL_law_32 (by rw [c28]; decide) (by rw [c28]; decide) (by rw [c28]; rfl) (by decide) ?_
      exact law_28 C hRel hi5 hP hD hS hl kk
    by_cases c29 : xs i &&& 63 = 29
    · refine lv_tableIn (off := 1088) (tgt := 1120) hx hb dL_law_32 (by rw [c29]; decide) (by rw [c29]; decide) (by rw [c29]; rfl) (by decide) ?_
      exact law_29 C hRel hi5 hP hD hS hl kk
    by_cases c30 : xs i &&& 63 = 30
    · refine lv_tableIn (off := 1112) (tgt := 1144) hx hb dL_law_32 (by rw [c30]; decide) (by rw [c30]; decide) (by rw [c30]; rfl) (by decide) ?_
      exact law_30 C hRel hi5 hP hD hS hl kk
    by_cases c31 : xs i &&& 63 = 31
    · refine lv_tableIn (off := 1135) (tgt := 1167) hx hb dL_law_32 (by rw [c31]; decide) (by rw [c31]; decide) (by rw [c31]; rfl) (by decide) ?_
      exact law_31 C hRel hi5 hP hD hS hl kk
    by_cases c32 : xs i &&& 63 = 32
    · refine lv_tableIn (off := 1158) (tgt := 1190) hx hb dL_law_32 (by rw [c32]; decide) (by rw [c32]; decide) (by rw [c32]; rfl) (by decide) ?_
      exact law_32 C hRel hi5 hP hD hS hl kk
    by_cases c33 : xs i &&& 63 = 33
    · refine lv_tableIn (off := 1191) (tgt := 1223) hx hb dL_law_32 (by rw [c33]; decide) (by rw [c33]; decide) (by rw [c33]; rfl) (by decide) ?_
      exact law_33 C hRel hi5 hP hD hS hl kk
    by_cases c34 : xs i &&& 63 = 34
    · refine lv_tableIn (off := 1214) (tgt := 1246) hx hb dL_law_32 (by rw [c34]; decide) (by rw [c34]; decide) (by rw [c34]; rfl) (by decide) ?_
      exact law_34 C hRel hi5 hP hD hS hl kk
    by_cases c35 : xs i &&& 63 = 35
    · refine lv_tableIn (off := 1237) (tgt := 1269) hx hb dL_law_32 (by rw [c35]; decide) (by rw [c35]; decide) (by rw [c35]; rfl) (by decide) ?_
      exact law_35 C hRel hi5 hP hD hS hl kk
    by_cases c36 : xs i &&& 63 = 36
    · refine lv_tableIn (off := 1250) (tgt := 1282) hx hb dL_law_32 (by rw [c36]; decide) (by rw [c36]; decide) (by rw [c36]; rfl) (by decide) ?_
      exact law_36 C hRel hi5 hP hD hS hl kk
    by_cases c37 : xs i &&& 63 = 37
    · refine lv_tableIn (off := 1263) (tgt := 1295) hx hb dL_law_32 (by rw [c37]; decide) (by rw [c37]; decide) (by rw [c37]; rfl) (by decide) ?_
      exact law_37 C hRel hi5 hP hD hS hl kk
    by_cases c38 : xs i &&& 63 = 38
    · refine lv_tableIn (off := 1306) (tgt := 1338) hx hb dL_law_32 (by rw [c38]; decide) (by rw [c38]; decide) (by rw [c38]; rfl) (by decide) ?_
      exact law_38 C hRel hi5 hP hD hS hl kk
    by_cases c39 : xs i &&& 63 = 39
    · refine lv_tableIn (off := 1319) (tgt := 1351) hx hb dL_law_32 (by rw [c39]; decide) (by rw [c39]; decide) (by rw [c39]; rfl) (by decide) ?_
      exact law_39 C hRel hi5 hP hD hS hl kk
    by_cases c40 : xs i &&& 63 = 40
    · refine lv_tableIn (off := 1332) (tgt := 1364) hx hb dL_law_32 (by rw [c40]; decide) (by rw [c40]; decide) (by rw [c40]; rfl) (by decide) ?_
      exact law_40 C hRel hi5 hP hD hS hl kk
    refine lv_tableOut (tgt := 1387) hx hb dL_law_32 (by have t0 := lv_neT c0 (a := 0) (by decide); have t1 := lv_neT c1 (a := 1) (by decide); have t2 := lv_neT c2 (a := 2) (by decide); have t3 := lv_neT c3 (a := 3) (by decide); have t4 := lv_neT c4 (a := 4) (by decide); have t5 := lv_neT c5 (a := 5) (by decide); have t6 := lv_neT c6 (a := 6) (by decide); have t7 := lv_neT c7 (a := 7) (by decide); have t8 := lv_neT c8 (a := 8) (by decide); have t9 := lv_neT c9 (a := 9) (by decide); have t10 := lv_neT c10 (a := 10) (by decide); have t11 := lv_neT c11 (a := 11) (by decide); have t12 := lv_neT c12 (a := 12) (by decide); have t13 := lv_neT c13 (a := 13) (by decide); have t14 := lv_neT c14 (a := 14) (by decide); have t15 := lv_neT c15 (a := 15) (by decide); have t16 := lv_neT c16 (a := 16) (by decide); have t17 := lv_neT c17 (a := 17) (by decide); have t18 := lv_neT c18 (a := 18) (by decide); have t19 := lv_neT c19 (a := 19) (by decide); have t20 := lv_neT c20 (a := 20) (by decide); have t21 := lv_neT c21 (a := 21) (by decide); have t22 := lv_neT c22 (a := 22) (by decide); have t23 := lv_neT c23 (a := 23) (by decide); have t24 := lv_neT c24 (a := 24) (by decide); have t25 := lv_neT c25 (a := 25) (by decide); have t26 := lv_neT c26 (a := 26) (by decide); have t27 := lv_neT c27 (a := 27) (by decide); have t28 := lv_neT c28 (a := 28) (by decide); have t29 := lv_neT c29 (a := 29) (by decide); have t30 := lv_neT c30 (a := 30) (by decide); have t31 := lv_neT c31 (a := 31) (by decide); have t32 := lv_neT c32 (a := 32) (by decide); have t33 := lv_neT c33 (a := 33) (by decide); have t34 := lv_neT c34 (a := 34) (by decide); have t35 := lv_neT c35 (a := 35) (by decide); have t36 := lv_neT c36 (a := 36) (by decide); have t37 := lv_neT c37 (a := 37) (by decide); have t38 := lv_neT c38 (a := 38) (by decide); have t39 := lv_neT c39 (a := 39) (by decide); have t40 := lv_neT c40 (a := 40) (by decide); omega) (by decide) ?_
    exact kk B T Q P hi tc rf f L ln la ct f1 f2 M H locs ls hRel hP hD hS hl
