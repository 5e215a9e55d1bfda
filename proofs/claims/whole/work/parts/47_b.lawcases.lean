set_option maxHeartbeats 1000000 in
set_option maxRecDepth 100000 in
theorem law_3 {p : Program} {l : Launch} {e : Env} {s : State} {m : MethodId} {below : List Frame} {meth : Method} {c : Code} {b Ls : Nat} {xs : Nat → Int32} {D : va_G} {cI cB : ClassId} {g r : Nat → Nat} {B : BayT} {T : BayT} {Q : BayT} {P : Nat → BayT} {hi : Int32} {tc : Nat} {rf : Nat → Int32} {f : Nat → Int32} {L : Nat → Int32} {ln : Nat} {la : Nat} {ct : Nat} {f1 : Nat → Int32} {f2 : Nat → Int32} {M : MT} {H : Heap} {locs : List Loc} {ls : Array Slot} {i : Nat} (C : lwC p s m meth c b Ls xs D cI cB) (hRel : Rel_ B Q P hi tc rf f L ln la ct M) (hi5 : i + 5 ≤ Ls) (hP : va_P D vwCl (lV_ cI cB g r B B T Q P hi tc rf f L ln la ct f1 f2 M) H) (hD : va_D (lwA s) (lV_ cI cB g r B B T Q P hi tc rf f L ln la ct f1 f2 M)) (hS : va_S (lwA s) s.heap H locs) (hl : lv_has ls 4 [(3, .int (nI i)), (2, .ref (r 0)), (1, .ref (g 0)), (0, .ref b)]) (kk : ∀ (B T Q : BayT) (P : Nat → BayT) (hi : Int32) (tc : Nat) (rf f L : Nat → Int32) (ln la ct : Nat) (f1 f2 : Nat → Int32) (M : MT) (H : Heap) (locs : List Loc) (ls : Array Slot), Rel_ B Q P hi tc rf f L ln la ct M → va_P D vwCl (lV_ cI cB g r B B T Q P hi tc rf f L ln la ct f1 f2 M) H → va_D (lwA s) (lV_ cI cB g r B B T Q P hi tc rf f L ln la ct f1 f2 M) → va_S (lwA s) s.heap H locs → lv_has ls 4 [(3, .int (nI i)), (2, .ref (r 0)), (1, .ref (g 0)), (0, .ref b)] → W p l e room_1 s m #[Value.ref b] below meth c H locs 92 1551 (lw_Z below #[Value.ref b] s) (F0 m 1387 ls [])) : W p l e room_1 s m #[Value.ref b] below meth c H locs 92 1551 (lw_Z below #[Value.ref b] s) (F0 m 281 ls []) := by
  have hI := hRel.1
  have hn7 := hI.1
  obtain ⟨-, e1, e2, e3, e4, e5, e6, e7, hln, htc, hct, hla, -, -⟩ := id hRel
  subst e1; subst e2; subst e3; subst e4; subst e5; subst e6; subst e7
  refine lv_aload_n C.1 C.2.1 dL_law_281 rfl (lv_at hl 2 rfl) ?_
  refine l_arg C hS hl 1 (by omega) (by first | rfl | decide) dL_law_282 dL_law_283 dL_law_284 dL_law_285 dL_law_286 ?_
  refine lx_ask C hP hD hS gL_law_X4_isleOf rfl okX4_isleOf (qX4_isleOf l D cI cB g (mhi_ M) (mrm_ M) B T (mrf_ M) (xs (i + 1)) hn7) (by decide) hl.1 rfl rfl (Nat.le_of_ble_eq_true rfl) dL_law_287 (fun v1 u1 H locs hw hP hD hS => ?_)
  refine lv_aload_n C.1 C.2.1 dL_law_290 rfl (lv_at hl 1 rfl) ?_
  refine l_arg C hS hl 1 (by omega) (by first | rfl | decide) dL_law_291 dL_law_292 dL_law_293 dL_law_294 dL_law_295 ?_
  refine lm_ask C hP hD hS gL_law_X5_isleOf rfl okX5_isleOf (qX5_isleOf l D cI cB r B M (xs (i + 1)) hI) (by decide) hl.1 rfl rfl (Nat.le_of_ble_eq_true rfl) dL_law_296 (fun v2 u2 H locs hw2 hP hD hS => ?_)
  refine lv_icmp_eq (tgt := 1387) C.1 C.2.1 dL_law_299 (by decide) (fun c9 => ?_) (fun c9 => ?_)
  · exact kk _ _ _ _ _ _ _ _ _ _ _ _ _ _ _ H locs ls (Rel_ask hRel hw.2 hw2.2) hP hD hS hl
  · exact absurd (hw.1.trans hw2.1.symm) c9

set_option maxHeartbeats 1000000 in
set_option maxRecDepth 100000 in
theorem law_10 {p : Program} {l : Launch} {e : Env} {s : State} {m : MethodId} {below : List Frame} {meth : Method} {c : Code} {b Ls : Nat} {xs : Nat → Int32} {D : va_G} {cI cB : ClassId} {g r : Nat → Nat} {B : BayT} {T : BayT} {Q : BayT} {P : Nat → BayT} {hi : Int32} {tc : Nat} {rf : Nat → Int32} {f : Nat → Int32} {L : Nat → Int32} {ln : Nat} {la : Nat} {ct : Nat} {f1 : Nat → Int32} {f2 : Nat → Int32} {M : MT} {H : Heap} {locs : List Loc} {ls : Array Slot} {i : Nat} (C : lwC p s m meth c b Ls xs D cI cB) (hRel : Rel_ B Q P hi tc rf f L ln la ct M) (hi5 : i + 5 ≤ Ls) (hP : va_P D vwCl (lV_ cI cB g r B B T Q P hi tc rf f L ln la ct f1 f2 M) H) (hD : va_D (lwA s) (lV_ cI cB g r B B T Q P hi tc rf f L ln la ct f1 f2 M)) (hS : va_S (lwA s) s.heap H locs) (hl : lv_has ls 4 [(3, .int (nI i)), (2, .ref (r 0)), (1, .ref (g 0)), (0, .ref b)]) (kk : ∀ (B T Q : BayT) (P : Nat → BayT) (hi : Int32) (tc : Nat) (rf f L : Nat → Int32) (ln la ct : Nat) (f1 f2 : Nat → Int32) (M : MT) (H : Heap) (locs : List Loc) (ls : Array Slot), Rel_ B Q P hi tc rf f L ln la ct M → va_P D vwCl (lV_ cI cB g r B B T Q P hi tc rf f L ln la ct f1 f2 M) H → va_D (lwA s) (lV_ cI cB g r B B T Q P hi tc rf f L ln la ct f1 f2 M) → va_S (lwA s) s.heap H locs → lv_has ls 4 [(3, .int (nI i)), (2, .ref (r 0)), (1, .ref (g 0)), (0, .ref b)] → W p l e room_1 s m #[Value.ref b] below meth c H locs 92 1551 (lw_Z below #[Value.ref b] s) (F0 m 1387 ls [])) : W p l e room_1 s m #[Value.ref b] below meth c H locs 92 1551 (lw_Z below #[Value.ref b] s) (F0 m 472 ls []) := by
  have hI := hRel.1
  have hn7 := hI.1
  obtain ⟨-, e1, e2, e3, e4, e5, e6, e7, hln, htc, hct, hla, -, -⟩ := id hRel
  subst e1; subst e2; subst e3; subst e4; subst e5; subst e6; subst e7
  refine lv_aload_n C.1 C.2.1 dL_law_472 rfl (lv_at hl 2 rfl) ?_
  refine l_arg C hS hl 1 (by omega) (by first | rfl | decide) dL_law_473 dL_law_474 dL_law_475 dL_law_476 dL_law_477 ?_
  refine l_arg C hS hl 2 (by omega) (by first | rfl | decide) dL_law_478 dL_law_479 dL_law_480 dL_law_481 dL_law_482 ?_
  refine lx_ask C hP hD hS gL_law_X4_noise rfl okX4_noise (qX4_noise l D cI cB g (mhi_ M) (mrm_ M) B T (mrf_ M) (xs (i + 1)) (xs (i + 2)) hn7) (by decide) hl.1 rfl rfl (Nat.le_of_ble_eq_true rfl) dL_law_483 (fun v1 u1 H locs hw hP hD hS => ?_)
  refine lv_aload_n C.1 C.2.1 dL_law_486 rfl (lv_at hl 1 rfl) ?_
  refine l_arg C hS hl 1 (by omega) (by first | rfl | decide) dL_law_487 dL_law_488 dL_law_489 dL_law_490 dL_law_491 ?_
  refine l_arg C hS hl 2 (by omega) (by first | rfl | decide) dL_law_492 dL_law_493 dL_law_494 dL_law_495 dL_law_496 ?_
  refine lm_ask C hP hD hS gL_law_X5_noise rfl okX5_noise (qX5_noise l D cI cB r B M (xs (i + 1)) (xs (i + 2)) hI) (by decide) hl.1 rfl rfl (Nat.le_of_ble_eq_true rfl) dL_law_497 (fun v2 u2 H locs hw2 hP hD hS => ?_)
  refine lv_icmp_eq (tgt := 1387) C.1 C.2.1 dL_law_500 (by decide) (fun c9 => ?_) (fun c9 => ?_)
  · exact kk _ _ _ _ _ _ _ _ _ _ _ _ _ _ _ H locs ls (Rel_ask hRel hw.2 hw2.2) hP hD hS hl
  · exact absurd (hw.1.trans hw2.1.symm) c9

set_option maxHeartbeats 1000000 in
set_option maxRecDepth 100000 in
theorem law_11 {p : Program} {l : Launch} {e : Env} {s : State} {m : MethodId} {below : List Frame} {meth : Method} {c : Code} {b Ls : Nat} {xs : Nat → Int32} {D : va_G} {cI cB : ClassId} {g r : Nat → Nat} {B : BayT} {T : BayT} {Q : BayT} {P : Nat → BayT} {hi : Int32} {tc : Nat} {rf : Nat → Int32} {f : Nat → Int32} {L : Nat → Int32} {ln : Nat} {la : Nat} {ct : Nat} {f1 : Nat → Int32} {f2 : Nat → Int32} {M : MT} {H : Heap} {locs : List Loc} {ls : Array Slot} {i : Nat} (C : lwC p s m meth c b Ls xs D cI cB) (hRel : Rel_ B Q P hi tc rf f L ln la ct M) (hi5 : i + 5 ≤ Ls) (hP : va_P D vwCl (lV_ cI cB g r B B T Q P hi tc rf f L ln la ct f1 f2 M) H) (hD : va_D (lwA s) (lV_ cI cB g r B B T Q P hi tc rf f L ln la ct f1 f2 M)) (hS : va_S (lwA s) s.heap H locs) (hl : lv_has ls 4 [(3, .int (nI i)), (2, .ref (r 0)), (1, .ref (g 0)), (0, .ref b)]) (kk : ∀ (B T Q : BayT) (P : Nat → BayT) (hi : Int32) (tc : Nat) (rf f L : Nat → Int32) (ln la ct : Nat) (f1 f2 : Nat → Int32) (M : MT) (H : Heap) (locs : List Loc) (ls : Array Slot), Rel_ B Q P hi tc rf f L ln la ct M → va_P D vwCl (lV_ cI cB g r B B T Q P hi tc rf f L ln la ct f1 f2 M) H → va_D (lwA s) (lV_ cI cB g r B B T Q P hi tc rf f L ln la ct f1 f2 M) → va_S (lwA s) s.heap H locs → lv_has ls 4 [(3, .int (nI i)), (2, .ref (r 0)), (1, .ref (g 0)), (0, .ref b)] → W p l e room_1 s m #[Value.ref b] below meth c H locs 92 1551 (lw_Z below #[Value.ref b] s) (F0 m 1387 ls [])) : W p l e room_1 s m #[Value.ref b] below meth c H locs 92 1551 (lw_Z below #[Value.ref b] s) (F0 m 505 ls []) := by
  have hI := hRel.1
  have hn7 := hI.1
  obtain ⟨-, e1, e2, e3, e4, e5, e6, e7, hln, htc, hct, hla, -, -⟩ := id hRel
  subst e1; subst e2; subst e3; subst e4; subst e5; subst e6; subst e7
  refine lv_aload_n C.1 C.2.1 dL_law_505 rfl (lv_at hl 2 rfl) ?_
  refine l_arg C hS hl 1 (by omega) (by first | rfl | decide) dL_law_506 dL_law_507 dL_law_508 dL_law_509 dL_law_510 ?_
  refine l_arg C hS hl 2 (by omega) (by first | rfl | decide) dL_law_511 dL_law_512 dL_law_513 dL_law_514 dL_law_515 ?_
  refine lx_ask C hP hD hS gL_law_X4_loudest rfl okX4_loudest (qX4_loudest l D cI cB g (mhi_ M) (mrm_ M) B T (mrf_ M) (xs (i + 1)) (xs (i + 2)) hn7) (by decide) hl.1 rfl rfl (Nat.le_of_ble_eq_true rfl) dL_law_516 (fun v1 u1 H locs hw hP hD hS => ?_)
  refine lv_aload_n C.1 C.2.1 dL_law_519 rfl (lv_at hl 1 rfl) ?_
  refine l_arg C hS hl 1 (by omega) (by first | rfl | decide) dL_law_520 dL_law_521 dL_law_522 dL_law_523 dL_law_524 ?_
  refine l_arg C hS hl 2 (by omega) (by first | rfl | decide) dL_law_525 dL_law_526 dL_law_527 dL_law_528 dL_law_529 ?_
  refine lm_ask C hP hD hS gL_law_X5_loudest rfl okX5_loudest (qX5_loudest l D cI cB r B M (xs (i + 1)) (xs (i + 2)) hI) (by decide) hl.1 rfl rfl (Nat.le_of_ble_eq_true rfl) dL_law_530 (fun v2 u2 H locs hw2 hP hD hS => ?_)
  refine lv_icmp_eq (tgt := 1387) C.1 C.2.1 dL_law_533 (by decide) (fun c9 => ?_) (fun c9 => ?_)
  · exact kk _ _ _ _ _ _ _ _ _ _ _ _ _ _ _ H locs ls (Rel_ask hRel hw.2 hw2.2) hP hD hS hl
  · exact absurd (hw.1.trans hw2.1.symm) c9

set_option maxHeartbeats 1000000 in
set_option maxRecDepth 100000 in
theorem law_12 {p : Program} {l : Launch} {e : Env} {s : State} {m : MethodId} {below : List Frame} {meth : Method} {c : Code} {b Ls : Nat} {xs : Nat → Int32} {D : va_G} {cI cB : ClassId} {g r : Nat → Nat} {B : BayT} {T : BayT} {Q : BayT} {P : Nat → BayT} {hi : Int32} {tc : Nat} {rf : Nat → Int32} {f : Nat → Int32} {L : Nat → Int32} {ln : Nat} {la : Nat} {ct : Nat} {f1 : Nat → Int32} {f2 : Nat → Int32} {M : MT} {H : Heap} {locs : List Loc} {ls : Array Slot} {i : Nat} (C : lwC p s m meth c b Ls xs D cI cB) (hRel : Rel_ B Q P hi tc rf f L ln la ct M) (hi5 : i + 5 ≤ Ls) (hP : va_P D vwCl (lV_ cI cB g r B B T Q P hi tc rf f L ln la ct f1 f2 M) H) (hD : va_D (lwA s) (lV_ cI cB g r B B T Q P hi tc rf f L ln la ct f1 f2 M)) (hS : va_S (lwA s) s.heap H locs) (hl : lv_has ls 4 [(3, .int (nI i)), (2, .ref (r 0)), (1, .ref (g 0)), (0, .ref b)]) (kk : ∀ (B T Q : BayT) (P : Nat → BayT) (hi : Int32) (tc : Nat) (rf f L : Nat → Int32) (ln la ct : Nat) (f1 f2 : Nat → Int32) (M : MT) (H : Heap) (locs : List Loc) (ls : Array Slot), Rel_ B Q P hi tc rf f L ln la ct M → va_P D vwCl (lV_ cI cB g r B B T Q P hi tc rf f L ln la ct f1 f2 M) H → va_D (lwA s) (lV_ cI cB g r B B T Q P hi tc rf f L ln la ct f1 f2 M) → va_S (lwA s) s.heap H locs → lv_has ls 4 [(3, .int (nI i)), (2, .ref (r 0)), (1, .ref (g 0)), (0, .ref b)] → W p l e room_1 s m #[Value.ref b] below meth c H locs 92 1551 (lw_Z below #[Value.ref b] s) (F0 m 1387 ls [])) : W p l e room_1 s m #[Value.ref b] below meth c H locs 92 1551 (lw_Z below #[Value.ref b] s) (F0 m 538 ls []) := by
  have hI := hRel.1
  have hn7 := hI.1
  obtain ⟨-, e1, e2, e3, e4, e5, e6, e7, hln, htc, hct, hla, -, -⟩ := id hRel
  subst e1; subst e2; subst e3; subst e4; subst e5; subst e6; subst e7
  refine lv_aload_n C.1 C.2.1 dL_law_538 rfl (lv_at hl 2 rfl) ?_
  refine l_arg C hS hl 1 (by omega) (by first | rfl | decide) dL_law_539 dL_law_540 dL_law_541 dL_law_542 dL_law_543 ?_
  refine l_arg C hS hl 2 (by omega) (by first | rfl | decide) dL_law_544 dL_law_545 dL_law_546 dL_law_547 dL_law_548 ?_
  refine lx_ask C hP hD hS gL_law_X4_behind rfl okX4_behind (qX4_behind l D cI cB g (mhi_ M) (mrm_ M) B T (mrf_ M) (xs (i + 1)) (xs (i + 2)) hn7) (by decide) hl.1 rfl rfl (Nat.le_of_ble_eq_true rfl) dL_law_549 (fun v1 u1 H locs hw hP hD hS => ?_)
  refine lv_aload_n C.1 C.2.1 dL_law_552 rfl (lv_at hl 1 rfl) ?_
  refine l_arg C hS hl 1 (by omega) (by first | rfl | decide) dL_law_553 dL_law_554 dL_law_555 dL_law_556 dL_law_557 ?_
  refine l_arg C hS hl 2 (by omega) (by first | rfl | decide) dL_law_558 dL_law_559 dL_law_560 dL_law_561 dL_law_562 ?_
  refine lm_ask C hP hD hS gL_law_X5_behind rfl okX5_behind (qX5_behind l D cI cB r B M (xs (i + 1)) (xs (i + 2)) hI) (by decide) hl.1 rfl rfl (Nat.le_of_ble_eq_true rfl) dL_law_563 (fun v2 u2 H locs hw2 hP hD hS => ?_)
  refine lv_icmp_eq (tgt := 1387) C.1 C.2.1 dL_law_566 (by decide) (fun c9 => ?_) (fun c9 => ?_)
  · exact kk _ _ _ _ _ _ _ _ _ _ _ _ _ _ _ H locs ls (Rel_ask hRel hw.2 hw2.2) hP hD hS hl
  · exact absurd (hw.1.trans hw2.1.symm) c9

set_option maxHeartbeats 1000000 in
set_option maxRecDepth 100000 in
theorem law_13 {p : Program} {l : Launch} {e : Env} {s : State} {m : MethodId} {below : List Frame} {meth : Method} {c : Code} {b Ls : Nat} {xs : Nat → Int32} {D : va_G} {cI cB : ClassId} {g r : Nat → Nat} {B : BayT} {T : BayT} {Q : BayT} {P : Nat → BayT} {hi : Int32} {tc : Nat} {rf : Nat → Int32} {f : Nat → Int32} {L : Nat → Int32} {ln : Nat} {la : Nat} {ct : Nat} {f1 : Nat → Int32} {f2 : Nat → Int32} {M : MT} {H : Heap} {locs : List Loc} {ls : Array Slot} {i : Nat} (C : lwC p s m meth c b Ls xs D cI cB) (hRel : Rel_ B Q P hi tc rf f L ln la ct M) (hi5 : i + 5 ≤ Ls) (hP : va_P D vwCl (lV_ cI cB g r B B T Q P hi tc rf f L ln la ct f1 f2 M) H) (hD : va_D (lwA s) (lV_ cI cB g r B B T Q P hi tc rf f L ln la ct f1 f2 M)) (hS : va_S (lwA s) s.heap H locs) (hl : lv_has ls 4 [(3, .int (nI i)), (2, .ref (r 0)), (1, .ref (g 0)), (0, .ref b)]) (kk : ∀ (B T Q : BayT) (P : Nat → BayT) (hi : Int32) (tc : Nat) (rf f L : Nat → Int32) (ln la ct : Nat) (f1 f2 : Nat → Int32) (M : MT) (H : Heap) (locs : List Loc) (ls : Array Slot), Rel_ B Q P hi tc rf f L ln la ct M → va_P D vwCl (lV_ cI cB g r B B T Q P hi tc rf f L ln la ct f1 f2 M) H → va_D (lwA s) (lV_ cI cB g r B B T Q P hi tc rf f L ln la ct f1 f2 M) → va_S (lwA s) s.heap H locs → lv_has ls 4 [(3, .int (nI i)), (2, .ref (r 0)), (1, .ref (g 0)), (0, .ref b)] → W p l e room_1 s m #[Value.ref b] below meth c H locs 92 1551 (lw_Z below #[Value.ref b] s) (F0 m 1387 ls [])) : W p l e room_1 s m #[Value.ref b] below meth c H locs 92 1551 (lw_Z below #[Value.ref b] s) (F0 m 571 ls []) := by
  have hI := hRel.1
  have hn7 := hI.1
  obtain ⟨-, e1, e2, e3, e4, e5, e6, e7, hln, htc, hct, hla, -, -⟩ := id hRel
  subst e1; subst e2; subst e3; subst e4; subst e5; subst e6; subst e7
  refine lv_aload_n C.1 C.2.1 dL_law_571 rfl (lv_at hl 2 rfl) ?_
  refine l_arg C hS hl 1 (by omega) (by first | rfl | decide) dL_law_572 dL_law_573 dL_law_574 dL_law_575 dL_law_576 ?_
  refine l_arg C hS hl 2 (by omega) (by first | rfl | decide) dL_law_577 dL_law_578 dL_law_579 dL_law_580 dL_law_581 ?_
  refine l_arg C hS hl 3 (by omega) (by first | rfl | decide) dL_law_582 dL_law_583 dL_law_584 dL_law_585 dL_law_586 ?_
  refine lx_ask C hP hD hS gL_law_X4_shoreBehind rfl okX4_shoreBehind (qX4_shoreBehind l D cI cB g (mhi_ M) (mrm_ M) B T (mrf_ M) (xs (i + 1)) (xs (i + 2)) (xs (i + 3)) hn7) (by decide) hl.1 rfl rfl (Nat.le_of_ble_eq_true rfl) dL_law_587 (fun v1 u1 H locs hw hP hD hS => ?_)
  refine lv_aload_n C.1 C.2.1 dL_law_590 rfl (lv_at hl 1 rfl) ?_
  refine l_arg C hS hl 1 (by omega) (by first | rfl | decide) dL_law_591 dL_law_592 dL_law_593 dL_law_594 dL_law_595 ?_
  refine l_arg C hS hl 2 (by omega) (by first | rfl | decide) dL_law_596 dL_law_597 dL_law_598 dL_law_599 dL_law_600 ?_
  refine l_arg C hS hl 3 (by omega) (by first | rfl | decide) dL_law_601 dL_law_602 dL_law_603 dL_law_604 dL_law_605 ?_
  refine lm_ask C hP hD hS gL_law_X5_shoreBehind rfl okX5_shoreBehind (qX5_shoreBehind l D cI cB r B M (xs (i + 1)) (xs (i + 2)) (xs (i + 3)) hI) (by decide) hl.1 rfl rfl (Nat.le_of_ble_eq_true rfl) dL_law_606 (fun v2 u2 H locs hw2 hP hD hS => ?_)
  refine lv_icmp_eq (tgt := 1387) C.1 C.2.1 dL_law_609 (by decide) (fun c9 => ?_) (fun c9 => ?_)
  · exact kk _ _ _ _ _ _ _ _ _ _ _ _ _ _ _ H locs ls (Rel_ask hRel hw.2 hw2.2) hP hD hS hl
  · exact absurd (hw.1.trans hw2.1.symm) c9

set_option maxHeartbeats 1000000 in
set_option maxRecDepth 100000 in
theorem law_14 {p : Program} {l : Launch} {e : Env} {s : State} {m : MethodId} {below : List Frame} {meth : Method} {c : Code} {b Ls : Nat} {xs : Nat → Int32} {D : va_G} {cI cB : ClassId} {g r : Nat → Nat} {B : BayT} {T : BayT} {Q : BayT} {P : Nat → BayT} {hi : Int32} {tc : Nat} {rf : Nat → Int32} {f : Nat → Int32} {L : Nat → Int32} {ln : Nat} {la : Nat} {ct : Nat} {f1 : Nat → Int32} {f2 : Nat → Int32} {M : MT} {H : Heap} {locs : List Loc} {ls : Array Slot} {i : Nat} (C : lwC p s m meth c b Ls xs D cI cB) (hRel : Rel_ B Q P hi tc rf f L ln la ct M) (hi5 : i + 5 ≤ Ls) (hP : va_P D vwCl (lV_ cI cB g r B B T Q P hi tc rf f L ln la ct f1 f2 M) H) (hD : va_D (lwA s) (lV_ cI cB g r B B T Q P hi tc rf f L ln la ct f1 f2 M)) (hS : va_S (lwA s) s.heap H locs) (hl : lv_has ls 4 [(3, .int (nI i)), (2, .ref (r 0)), (1, .ref (g 0)), (0, .ref b)]) (kk : ∀ (B T Q : BayT) (P : Nat → BayT) (hi : Int32) (tc : Nat) (rf f L : Nat → Int32) (ln la ct : Nat) (f1 f2 : Nat → Int32) (M : MT) (H : Heap) (locs : List Loc) (ls : Array Slot), Rel_ B Q P hi tc rf f L ln la ct M → va_P D vwCl (lV_ cI cB g r B B T Q P hi tc rf f L ln la ct f1 f2 M) H → va_D (lwA s) (lV_ cI cB g r B B T Q P hi tc rf f L ln la ct f1 f2 M) → va_S (lwA s) s.heap H locs → lv_has ls 4 [(3, .int (nI i)), (2, .ref (r 0)), (1, .ref (g 0)), (0, .ref b)] → W p l e room_1 s m #[Value.ref b] below meth c H locs 92 1551 (lw_Z below #[Value.ref b] s) (F0 m 1387 ls [])) : W p l e room_1 s m #[Value.ref b] below meth c H locs 92 1551 (lw_Z below #[Value.ref b] s) (F0 m 614 ls []) := by
  have hI := hRel.1
  have hn7 := hI.1
  obtain ⟨-, e1, e2, e3, e4, e5, e6, e7, hln, htc, hct, hla, -, -⟩ := id hRel
  subst e1; subst e2; subst e3; subst e4; subst e5; subst e6; subst e7
  refine lv_aload_n C.1 C.2.1 dL_law_614 rfl (lv_at hl 2 rfl) ?_
  refine l_arg C hS hl 1 (by omega) (by first | rfl | decide) dL_law_615 dL_law_616 dL_law_617 dL_law_618 dL_law_619 ?_
  refine lx_ask C hP hD hS gL_law_X4_first rfl okX4_first (qX4_first l D cI cB g (mhi_ M) (mrm_ M) B T (mrf_ M) (xs (i + 1)) hn7) (by decide) hl.1 rfl rfl (Nat.le_of_ble_eq_true rfl) dL_law_620 (fun v1 u1 H locs hw hP hD hS => ?_)
  refine lv_aload_n C.1 C.2.1 dL_law_623 rfl (lv_at hl 1 rfl) ?_
  refine l_arg C hS hl 1 (by omega) (by first | rfl | decide) dL_law_624 dL_law_625 dL_law_626 dL_law_627 dL_law_628 ?_
  refine lm_ask C hP hD hS gL_law_X5_first rfl okX5_first (qX5_first l D cI cB r B M (xs (i + 1)) hI) (by decide) hl.1 rfl rfl (Nat.le_of_ble_eq_true rfl) dL_law_629 (fun v2 u2 H locs hw2 hP hD hS => ?_)
  refine lv_icmp_eq (tgt := 1387) C.1 C.2.1 dL_law_632 (by decide) (fun c9 => ?_) (fun c9 => ?_)
  · exact kk _ _ _ _ _ _ _ _ _ _ _ _ _ _ _ H locs ls (Rel_ask hRel hw.2 hw2.2) hP hD hS hl
  · exact absurd (hw.1.trans hw2.1.symm) c9

set_option maxHeartbeats 1000000 in
set_option maxRecDepth 100000 in
theorem law_15 {p : Program} {l : Launch} {e : Env} {s : State} {m : MethodId} {below : List Frame} {meth : Method} {c : Code} {b Ls : Nat} {xs : Nat → Int32} {D : va_G} {cI cB : ClassId} {g r : Nat → Nat} {B : BayT} {T : BayT} {Q : BayT} {P : Nat → BayT} {hi : Int32} {tc : Nat} {rf : Nat → Int32} {f : Nat → Int32} {L : Nat → Int32} {ln : Nat} {la : Nat} {ct : Nat} {f1 : Nat → Int32} {f2 : Nat → Int32} {M : MT} {H : Heap} {locs : List Loc} {ls : Array Slot} {i : Nat} (C : lwC p s m meth c b Ls xs D cI cB) (hRel : Rel_ B Q P hi tc rf f L ln la ct M) (hi5 : i + 5 ≤ Ls) (hP : va_P D vwCl (lV_ cI cB g r B B T Q P hi tc rf f L ln la ct f1 f2 M) H) (hD : va_D (lwA s) (lV_ cI cB g r B B T Q P hi tc rf f L ln la ct f1 f2 M)) (hS : va_S (lwA s) s.heap H locs) (hl : lv_has ls 4 [(3, .int (nI i)), (2, .ref (r 0)), (1, .ref (g 0)), (0, .ref b)]) (kk : ∀ (B T Q : BayT) (P : Nat → BayT) (hi : Int32) (tc : Nat) (rf f L : Nat → Int32) (ln la ct : Nat) (f1 f2 : Nat → Int32) (M : MT) (H : Heap) (locs : List Loc) (ls : Array Slot), Rel_ B Q P hi tc rf f L ln la ct M → va_P D vwCl (lV_ cI cB g r B B T Q P hi tc rf f L ln la ct f1 f2 M) H → va_D (lwA s) (lV_ cI cB g r B B T Q P hi tc rf f L ln la ct f1 f2 M) → va_S (lwA s) s.heap H locs → lv_has ls 4 [(3, .int (nI i)), (2, .ref (r 0)), (1, .ref (g 0)), (0, .ref b)] → W p l e room_1 s m #[Value.ref b] below meth c H locs 92 1551 (lw_Z below #[Value.ref b] s) (F0 m 1387 ls [])) : W p l e room_1 s m #[Value.ref b] below meth c H locs 92 1551 (lw_Z below #[Value.ref b] s) (F0 m 637 ls []) := by
  have hI := hRel.1
  have hn7 := hI.1
  obtain ⟨-, e1, e2, e3, e4, e5, e6, e7, hln, htc, hct, hla, -, -⟩ := id hRel
  subst e1; subst e2; subst e3; subst e4; subst e5; subst e6; subst e7
  refine lv_aload_n C.1 C.2.1 dL_law_637 rfl (lv_at hl 2 rfl) ?_
  refine l_arg C hS hl 1 (by omega) (by first | rfl | decide) dL_law_638 dL_law_639 dL_law_640 dL_law_641 dL_law_642 ?_
  refine lx_ask C hP hD hS gL_law_X4_whoFirst rfl okX4_whoFirst (qX4_whoFirst l D cI cB g (mhi_ M) (mrm_ M) B T (mrf_ M) (xs (i + 1)) hn7) (by decide) hl.1 rfl rfl (Nat.le_of_ble_eq_true rfl) dL_law_643 (fun v1 u1 H locs hw hP hD hS => ?_)
  refine lv_aload_n C.1 C.2.1 dL_law_646 rfl (lv_at hl 1 rfl) ?_
  refine l_arg C hS hl 1 (by omega) (by first | rfl | decide) dL_law_647 dL_law_648 dL_law_649 dL_law_650 dL_law_651 ?_
  refine lm_ask C hP hD hS gL_law_X5_whoFirst rfl okX5_whoFirst (qX5_whoFirst l D cI cB r B M (xs (i + 1)) hI) (by decide) hl.1 rfl rfl (Nat.le_of_ble_eq_true rfl) dL_law_652 (fun v2 u2 H locs hw2 hP hD hS => ?_)
  refine lv_icmp_eq (tgt := 1387) C.1 C.2.1 dL_law_655 (by decide) (fun c9 => ?_) (fun c9 => ?_)
  · exact kk _ _ _ _ _ _ _ _ _ _ _ _ _ _ _ H locs ls (Rel_ask hRel hw.2 hw2.2) hP hD hS hl
  · exact absurd (hw.1.trans hw2.1.symm) c9

set_option maxHeartbeats 1000000 in
set_option maxRecDepth 100000 in
theorem law_16 {p : Program} {l : Launch} {e : Env} {s : State} {m : MethodId} {below : List Frame} {meth : Method} {c : Code} {b Ls : Nat} {xs : Nat → Int32} {D : va_G} {cI cB : ClassId} {g r : Nat → Nat} {B : BayT} {T : BayT} {Q : BayT} {P : Nat → BayT} {hi : Int32} {tc : Nat} {rf : Nat → Int32} {f : Nat → Int32} {L : Nat → Int32} {ln : Nat} {la : Nat} {ct : Nat} {f1 : Nat → Int32} {f2 : Nat → Int32} {M : MT} {H : Heap} {locs : List Loc} {ls : Array Slot} {i : Nat} (C : lwC p s m meth c b Ls xs D cI cB) (hRel : Rel_ B Q P hi tc rf f L ln la ct M) (hi5 : i + 5 ≤ Ls) (hP : va_P D vwCl (lV_ cI cB g r B B T Q P hi tc rf f L ln la ct f1 f2 M) H) (hD : va_D (lwA s) (lV_ cI cB g r B B T Q P hi tc rf f L ln la ct f1 f2 M)) (hS : va_S (lwA s) s.heap H locs) (hl : lv_has ls 4 [(3, .int (nI i)), (2, .ref (r 0)), (1, .ref (g 0)), (0, .ref b)]) (kk : ∀ (B T Q : BayT) (P : Nat → BayT) (hi : Int32) (tc : Nat) (rf f L : Nat → Int32) (ln la ct : Nat) (f1 f2 : Nat → Int32) (M : MT) (H : Heap) (locs : List Loc) (ls : Array Slot), Rel_ B Q P hi tc rf f L ln la ct M → va_P D vwCl (lV_ cI cB g r B B T Q P hi tc rf f L ln la ct f1 f2 M) H → va_D (lwA s) (lV_ cI cB g r B B T Q P hi tc rf f L ln la ct f1 f2 M) → va_S (lwA s) s.heap H locs → lv_has ls 4 [(3, .int (nI i)), (2, .ref (r 0)), (1, .ref (g 0)), (0, .ref b)] → W p l e room_1 s m #[Value.ref b] below meth c H locs 92 1551 (lw_Z below #[Value.ref b] s) (F0 m 1387 ls [])) : W p l e room_1 s m #[Value.ref b] below meth c H locs 92 1551 (lw_Z below #[Value.ref b] s) (F0 m 660 ls []) := by
  have hI := hRel.1
  have hn7 := hI.1
  obtain ⟨-, e1, e2, e3, e4, e5, e6, e7, hln, htc, hct, hla, -, -⟩ := id hRel
  subst e1; subst e2; subst e3; subst e4; subst e5; subst e6; subst e7
  refine lv_aload_n C.1 C.2.1 dL_law_660 rfl (lv_at hl 2 rfl) ?_
  refine l_arg C hS hl 1 (by omega) (by first | rfl | decide) dL_law_661 dL_law_662 dL_law_663 dL_law_664 dL_law_665 ?_
  refine l_arg C hS hl 2 (by omega) (by first | rfl | decide) dL_law_666 dL_law_667 dL_law_668 dL_law_669 dL_law_670 ?_
  refine lx_ask C hP hD hS gL_law_X4_most rfl okX4_most (qX4_most l D cI cB g (mhi_ M) (mrm_ M) B T (mrf_ M) (xs (i + 1)) (xs (i + 2)) hn7) (by decide) hl.1 rfl rfl (Nat.le_of_ble_eq_true rfl) dL_law_671 (fun v1 u1 H locs hw hP hD hS => ?_)
  refine lv_aload_n C.1 C.2.1 dL_law_674 rfl (lv_at hl 1 rfl) ?_
  refine l_arg C hS hl 1 (by omega) (by first | rfl | decide) dL_law_675 dL_law_676 dL_law_677 dL_law_678 dL_law_679 ?_
  refine l_arg C hS hl 2 (by omega) (by first | rfl | decide) dL_law_680 dL_law_681 dL_law_682 dL_law_683 dL_law_684 ?_
  refine lm_ask C hP hD hS gL_law_X5_most rfl okX5_most (qX5_most l D cI cB r B M (xs (i + 1)) (xs (i + 2)) hI) (by decide) hl.1 rfl rfl (Nat.le_of_ble_eq_true rfl) dL_law_685 (fun v2 u2 H locs hw2 hP hD hS => ?_)
  refine lv_icmp_eq (tgt := 1387) C.1 C.2.1 dL_law_688 (by decide) (fun c9 => ?_) (fun c9 => ?_)
  · exact kk _ _ _ _ _ _ _ _ _ _ _ _ _ _ _ H locs ls (Rel_ask hRel hw.2 hw2.2) hP hD hS hl
  · exact absurd (hw.1.trans hw2.1.symm) c9

set_option maxHeartbeats 1000000 in
set_option maxRecDepth 100000 in
theorem law_17 {p : Program} {l : Launch} {e : Env} {s : State} {m : MethodId} {below : List Frame} {meth : Method} {c : Code} {b Ls : Nat} {xs : Nat → Int32} {D : va_G} {cI cB : ClassId} {g r : Nat → Nat} {B : BayT} {T : BayT} {Q : BayT} {P : Nat → BayT} {hi : Int32} {tc : Nat} {rf : Nat → Int32} {f : Nat → Int32} {L : Nat → Int32} {ln : Nat} {la : Nat} {ct : Nat} {f1 : Nat → Int32} {f2 : Nat → Int32} {M : MT} {H : Heap} {locs : List Loc} {ls : Array Slot} {i : Nat} (C : lwC p s m meth c b Ls xs D cI cB) (hRel : Rel_ B Q P hi tc rf f L ln la ct M) (hi5 : i + 5 ≤ Ls) (hP : va_P D vwCl (lV_ cI cB g r B B T Q P hi tc rf f L ln la ct f1 f2 M) H) (hD : va_D (lwA s) (lV_ cI cB g r B B T Q P hi tc rf f L ln la ct f1 f2 M)) (hS : va_S (lwA s) s.heap H locs) (hl : lv_has ls 4 [(3, .int (nI i)), (2, .ref (r 0)), (1, .ref (g 0)), (0, .ref b)]) (kk : ∀ (B T Q : BayT) (P : Nat → BayT) (hi : Int32) (tc : Nat) (rf f L : Nat → Int32) (ln la ct : Nat) (f1 f2 : Nat → Int32) (M : MT) (H : Heap) (locs : List Loc) (ls : Array Slot), Rel_ B Q P hi tc rf f L ln la ct M → va_P D vwCl (lV_ cI cB g r B B T Q P hi tc rf f L ln la ct f1 f2 M) H → va_D (lwA s) (lV_ cI cB g r B B T Q P hi tc rf f L ln la ct f1 f2 M) → va_S (lwA s) s.heap H locs → lv_has ls 4 [(3, .int (nI i)), (2, .ref (r 0)), (1, .ref (g 0)), (0, .ref b)] → W p l e room_1 s m #[Value.ref b] below meth c H locs 92 1551 (lw_Z below #[Value.ref b] s) (F0 m 1387 ls [])) : W p l e room_1 s m #[Value.ref b] below meth c H locs 92 1551 (lw_Z below #[Value.ref b] s) (F0 m 693 ls []) := by
  have hI := hRel.1
  have hn7 := hI.1
  obtain ⟨-, e1, e2, e3, e4, e5, e6, e7, hln, htc, hct, hla, -, -⟩ := id hRel
  subst e1; subst e2; subst e3; subst e4; subst e5; subst e6; subst e7
  refine lv_aload_n C.1 C.2.1 dL_law_693 rfl (lv_at hl 2 rfl) ?_
  refine l_arg C hS hl 1 (by omega) (by first | rfl | decide) dL_law_694 dL_law_695 dL_law_696 dL_law_697 dL_law_698 ?_
  refine l_arg C hS hl 2 (by omega) (by first | rfl | decide) dL_law_699 dL_law_700 dL_law_701 dL_law_702 dL_law_703 ?_
  refine lx_ask C hP hD hS gL_law_X4_farthest rfl okX4_farthest (qX4_farthest l D cI cB g (mhi_ M) (mrm_ M) B T (mrf_ M) (xs (i + 1)) (xs (i + 2)) hn7) (by decide) hl.1 rfl rfl (Nat.le_of_ble_eq_true rfl) dL_law_704 (fun v1 u1 H locs hw hP hD hS => ?_)
  refine lv_aload_n C.1 C.2.1 dL_law_707 rfl (lv_at hl 1 rfl) ?_
  refine l_arg C hS hl 1 (by omega) (by first | rfl | decide) dL_law_708 dL_law_709 dL_law_710 dL_law_711 dL_law_712 ?_
  refine l_arg C hS hl 2 (by omega) (by first | rfl | decide) dL_law_713 dL_law_714 dL_law_715 dL_law_716 dL_law_717 ?_
  refine lm_ask C hP hD hS gL_law_X5_farthest rfl okX5_farthest (qX5_farthest l D cI cB r B M (xs (i + 1)) (xs (i + 2)) hI) (by decide) hl.1 rfl rfl (Nat.le_of_ble_eq_true rfl) dL_law_718 (fun v2 u2 H locs hw2 hP hD hS => ?_)
  refine lv_icmp_eq (tgt := 1387) C.1 C.2.1 dL_law_721 (by decide) (fun c9 => ?_) (fun c9 => ?_)
  · exact kk _ _ _ _ _ _ _ _ _ _ _ _ _ _ _ H locs ls (Rel_ask hRel hw.2 hw2.2) hP hD hS hl
  · exact absurd (hw.1.trans hw2.1.symm) c9

set_option maxHeartbeats 1000000 in
set_option maxRecDepth 100000 in
theorem law_18 {p : Program} {l : Launch} {e : Env} {s : State} {m : MethodId} {below : List Frame} {meth : Method} {c : Code} {b Ls : Nat} {xs : Nat → Int32} {D : va_G} {cI cB : ClassId} {g r : Nat → Nat} {B : BayT} {T : BayT} {Q : BayT} {P : Nat → BayT} {hi : Int32} {tc : Nat} {rf : Nat → Int32} {f : Nat → Int32} {L : Nat → Int32} {ln : Nat} {la : Nat} {ct : Nat} {f1 : Nat → Int32} {f2 : Nat → Int32} {M : MT} {H : Heap} {locs : List Loc} {ls : Array Slot} {i : Nat} (C : lwC p s m meth c b Ls xs D cI cB) (hRel : Rel_ B Q P hi tc rf f L ln la ct M) (hi5 : i + 5 ≤ Ls) (hP : va_P D vwCl (lV_ cI cB g r B B T Q P hi tc rf f L ln la ct f1 f2 M) H) (hD : va_D (lwA s) (lV_ cI cB g r B B T Q P hi tc rf f L ln la ct f1 f2 M)) (hS : va_S (lwA s) s.heap H locs) (hl : lv_has ls 4 [(3, .int (nI i)), (2, .ref (r 0)), (1, .ref (g 0)), (0, .ref b)]) (kk : ∀ (B T Q : BayT) (P : Nat → BayT) (hi : Int32) (tc : Nat) (rf f L : Nat → Int32) (ln la ct : Nat) (f1 f2 : Nat → Int32) (M : MT) (H : Heap) (locs : List Loc) (ls : Array Slot), Rel_ B Q P hi tc rf f L ln la ct M → va_P D vwCl (lV_ cI cB g r B B T Q P hi tc rf f L ln la ct f1 f2 M) H → va_D (lwA s) (lV_ cI cB g r B B T Q P hi tc rf f L ln la ct f1 f2 M) → va_S (lwA s) s.heap H locs → lv_has ls 4 [(3, .int (nI i)), (2, .ref (r 0)), (1, .ref (g 0)), (0, .ref b)] → W p l e room_1 s m #[Value.ref b] below meth c H locs 92 1551 (lw_Z below #[Value.ref b] s) (F0 m 1387 ls [])) : W p l e room_1 s m #[Value.ref b] below meth c H locs 92 1551 (lw_Z below #[Value.ref b] s) (F0 m 726 ls []) := by
  have hI := hRel.1
  have hn7 := hI.1
  obtain ⟨-, e1, e2, e3, e4, e5, e6, e7, hln, htc, hct, hla, -, -⟩ := id hRel
  subst e1; subst e2; subst e3; subst e4; subst e5; subst e6; subst e7
  refine lv_aload_n C.1 C.2.1 dL_law_726 rfl (lv_at hl 2 rfl) ?_
  refine l_arg C hS hl 1 (by omega) (by first | rfl | decide) dL_law_727 dL_law_728 dL_law_729 dL_law_730 dL_law_731 ?_
  refine l_arg C hS hl 2 (by omega) (by first | rfl | decide) dL_law_732 dL_law_733 dL_law_734 dL_law_735 dL_law_736 ?_
  refine lx_ask C hP hD hS gL_law_X4_hush rfl okX4_hush (qX4_hush l D cI cB g (mhi_ M) (mrm_ M) B T (mrf_ M) (xs (i + 1)) (xs (i + 2)) hn7) (by decide) hl.1 rfl rfl (Nat.le_of_ble_eq_true rfl) dL_law_737 (fun v1 u1 H locs hw hP hD hS => ?_)
  refine lv_aload_n C.1 C.2.1 dL_law_740 rfl (lv_at hl 1 rfl) ?_
  refine l_arg C hS hl 1 (by omega) (by first | rfl | decide) dL_law_741 dL_law_742 dL_law_743 dL_law_744 dL_law_745 ?_
  refine l_arg C hS hl 2 (by omega) (by first | rfl | decide) dL_law_746 dL_law_747 dL_law_748 dL_law_749 dL_law_750 ?_
  refine lm_ask C hP hD hS gL_law_X5_hush rfl okX5_hush (qX5_hush l D cI cB r B M (xs (i + 1)) (xs (i + 2)) hI) (by decide) hl.1 rfl rfl (Nat.le_of_ble_eq_true rfl) dL_law_751 (fun v2 u2 H locs hw2 hP hD hS => ?_)
  refine lv_icmp_eq (tgt := 1387) C.1 C.2.1 dL_law_754 (by decide) (fun c9 => ?_) (fun c9 => ?_)
  · exact kk _ _ _ _ _ _ _ _ _ _ _ _ _ _ _ H locs ls (Rel_ask hRel hw.2 hw2.2) hP hD hS hl
  · exact absurd (hw.1.trans hw2.1.symm) c9

set_option maxHeartbeats 1000000 in
set_option maxRecDepth 100000 in
theorem law_19 {p : Program} {l : Launch} {e : Env} {s : State} {m : MethodId} {below : List Frame} {meth : Method} {c : Code} {b Ls : Nat} {xs : Nat → Int32} {D : va_G} {cI cB : ClassId} {g r : Nat → Nat} {B : BayT} {T : BayT} {Q : BayT} {P : Nat → BayT} {hi : Int32} {tc : Nat} {rf : Nat → Int32} {f : Nat → Int32} {L : Nat → Int32} {ln : Nat} {la : Nat} {ct : Nat} {f1 : Nat → Int32} {f2 : Nat → Int32} {M : MT} {H : Heap} {locs : List Loc} {ls : Array Slot} {i : Nat} (C : lwC p s m meth c b Ls xs D cI cB) (hRel : Rel_ B Q P hi tc rf f L ln la ct M) (hi5 : i + 5 ≤ Ls) (hP : va_P D vwCl (lV_ cI cB g r B B T Q P hi tc rf f L ln la ct f1 f2 M) H) (hD : va_D (lwA s) (lV_ cI cB g r B B T Q P hi tc rf f L ln la ct f1 f2 M)) (hS : va_S (lwA s) s.heap H locs) (hl : lv_has ls 4 [(3, .int (nI i)), (2, .ref (r 0)), (1, .ref (g 0)), (0, .ref b)]) (kk : ∀ (B T Q : BayT) (P : Nat → BayT) (hi : Int32) (tc : Nat) (rf f L : Nat → Int32) (ln la ct : Nat) (f1 f2 : Nat → Int32) (M : MT) (H : Heap) (locs : List Loc) (ls : Array Slot), Rel_ B Q P hi tc rf f L ln la ct M → va_P D vwCl (lV_ cI cB g r B B T Q P hi tc rf f L ln la ct f1 f2 M) H → va_D (lwA s) (lV_ cI cB g r B B T Q P hi tc rf f L ln la ct f1 f2 M) → va_S (lwA s) s.heap H locs → lv_has ls 4 [(3, .int (nI i)), (2, .ref (r 0)), (1, .ref (g 0)), (0, .ref b)] → W p l e room_1 s m #[Value.ref b] below meth c H locs 92 1551 (lw_Z below #[Value.ref b] s) (F0 m 1387 ls [])) : W p l e room_1 s m #[Value.ref b] below meth c H locs 92 1551 (lw_Z below #[Value.ref b] s) (F0 m 759 ls []) := by
  have hI := hRel.1
  have hn7 := hI.1
  obtain ⟨-, e1, e2, e3, e4, e5, e6, e7, hln, htc, hct, hla, -, -⟩ := id hRel
  subst e1; subst e2; subst e3; subst e4; subst e5; subst e6; subst e7
  refine lv_aload_n C.1 C.2.1 dL_law_759 rfl (lv_at hl 2 rfl) ?_
  refine l_arg C hS hl 1 (by omega) (by first | rfl | decide) dL_law_760 dL_law_761 dL_law_762 dL_law_763 dL_law_764 ?_
  refine l_arg C hS hl 2 (by omega) (by first | rfl | decide) dL_law_765 dL_law_766 dL_law_767 dL_law_768 dL_law_769 ?_
  refine lx_ask C hP hD hS gL_law_X4_fewest rfl okX4_fewest (qX4_fewest l D cI cB g (mhi_ M) (mrm_ M) B T (mrf_ M) (xs (i + 1)) (xs (i + 2)) hn7) (by decide) hl.1 rfl rfl (Nat.le_of_ble_eq_true rfl) dL_law_770 (fun v1 u1 H locs hw hP hD hS => ?_)
  refine lv_aload_n C.1 C.2.1 dL_law_773 rfl (lv_at hl 1 rfl) ?_
  refine l_arg C hS hl 1 (by omega) (by first | rfl | decide) dL_law_774 dL_law_775 dL_law_776 dL_law_777 dL_law_778 ?_
  refine l_arg C hS hl 2 (by omega) (by first | rfl | decide) dL_law_779 dL_law_780 dL_law_781 dL_law_782 dL_law_783 ?_
  refine lm_ask C hP hD hS gL_law_X5_fewest rfl okX5_fewest (qX5_fewest l D cI cB r B M (xs (i + 1)) (xs (i + 2)) hI) (by decide) hl.1 rfl rfl (Nat.le_of_ble_eq_true rfl) dL_law_784 (fun v2 u2 H locs hw2 hP hD hS => ?_)
  refine lv_icmp_eq (tgt := 1387) C.1 C.2.1 dL_law_787 (by decide) (fun c9 => ?_) (fun c9 => ?_)
  · exact kk _ _ _ _ _ _ _ _ _ _ _ _ _ _ _ H locs ls (Rel_ask hRel hw.2 hw2.2) hP hD hS hl
  · exact absurd (hw.1.trans hw2.1.symm) c9

set_option maxHeartbeats 1000000 in
set_option maxRecDepth 100000 in
theorem law_20 {p : Program} {l : Launch} {e : Env} {s : State} {m : MethodId} {below : List Frame} {meth : Method} {c : Code} {b Ls : Nat} {xs : Nat → Int32} {D : va_G} {cI cB : ClassId} {g r : Nat → Nat} {B : BayT} {T : BayT} {Q : BayT} {P : Nat → BayT} {hi : Int32} {tc : Nat} {rf : Nat → Int32} {f : Nat → Int32} {L : Nat → Int32} {ln : Nat} {la : Nat} {ct : Nat} {f1 : Nat → Int32} {f2 : Nat → Int32} {M : MT} {H : Heap} {locs : List Loc} {ls : Array Slot} {i : Nat} (C : lwC p s m meth c b Ls xs D cI cB) (hRel : Rel_ B Q P hi tc rf f L ln la ct M) (hi5 : i + 5 ≤ Ls) (hP : va_P D vwCl (lV_ cI cB g r B B T Q P hi tc rf f L ln la ct f1 f2 M) H) (hD : va_D (lwA s) (lV_ cI cB g r B B T Q P hi tc rf f L ln la ct f1 f2 M)) (hS : va_S (lwA s) s.heap H locs) (hl : lv_has ls 4 [(3, .int (nI i)), (2, .ref (r 0)), (1, .ref (g 0)), (0, .ref b)]) (kk : ∀ (B T Q : BayT) (P : Nat → BayT) (hi : Int32) (tc : Nat) (rf f L : Nat → Int32) (ln la ct : Nat) (f1 f2 : Nat → Int32) (M : MT) (H : Heap) (locs : List Loc) (ls : Array Slot), Rel_ B Q P hi tc rf f L ln la ct M → va_P D vwCl (lV_ cI cB g r B B T Q P hi tc rf f L ln la ct f1 f2 M) H → va_D (lwA s) (lV_ cI cB g r B B T Q P hi tc rf f L ln la ct f1 f2 M) → va_S (lwA s) s.heap H locs → lv_has ls 4 [(3, .int (nI i)), (2, .ref (r 0)), (1, .ref (g 0)), (0, .ref b)] → W p l e room_1 s m #[Value.ref b] below meth c H locs 92 1551 (lw_Z below #[Value.ref b] s) (F0 m 1387 ls [])) : W p l e room_1 s m #[Value.ref b] below meth c H locs 92 1551 (lw_Z below #[Value.ref b] s) (F0 m 792 ls []) := by
  have hI := hRel.1
  have hn7 := hI.1
  obtain ⟨-, e1, e2, e3, e4, e5, e6, e7, hln, htc, hct, hla, -, -⟩ := id hRel
  subst e1; subst e2; subst e3; subst e4; subst e5; subst e6; subst e7
  refine lv_aload_n C.1 C.2.1 dL_law_792 rfl (lv_at hl 2 rfl) ?_
  refine l_arg C hS hl 1 (by omega) (by first | rfl | decide) dL_law_793 dL_law_794 dL_law_795 dL_law_796 dL_law_797 ?_
  refine l_arg C hS hl 2 (by omega) (by first | rfl | decide) dL_law_798 dL_law_799 dL_law_800 dL_law_801 dL_law_802 ?_
  refine l_arg C hS hl 3 (by omega) (by first | rfl | decide) dL_law_803 dL_law_804 dL_law_805 dL_law_806 dL_law_807 ?_
  refine lx_ask C hP hD hS gL_law_X4_fromWhere rfl okX4_fromWhere (qX4_fromWhere l D cI cB g (mhi_ M) (mrm_ M) B T (mrf_ M) (xs (i + 1)) (xs (i + 2)) (xs (i + 3)) hn7) (by decide) hl.1 rfl rfl (Nat.le_of_ble_eq_true rfl) dL_law_808 (fun v1 u1 H locs hw hP hD hS => ?_)
  refine lv_aload_n C.1 C.2.1 dL_law_811 rfl (lv_at hl 1 rfl) ?_
  refine l_arg C hS hl 1 (by omega) (by first | rfl | decide) dL_law_812 dL_law_813 dL_law_814 dL_law_815 dL_law_816 ?_
  refine l_arg C hS hl 2 (by omega) (by first | rfl | decide) dL_law_817 dL_law_818 dL_law_819 dL_law_820 dL_law_821 ?_
  refine l_arg C hS hl 3 (by omega) (by first | rfl | decide) dL_law_822 dL_law_823 dL_law_824 dL_law_825 dL_law_826 ?_
  refine lm_ask C hP hD hS gL_law_X5_fromWhere rfl okX5_fromWhere (qX5_fromWhere l D cI cB r B M (xs (i + 1)) (xs (i + 2)) (xs (i + 3)) hI) (by decide) hl.1 rfl rfl (Nat.le_of_ble_eq_true rfl) dL_law_827 (fun v2 u2 H locs hw2 hP hD hS => ?_)
  refine lv_icmp_eq (tgt := 1387) C.1 C.2.1 dL_law_830 (by decide) (fun c9 => ?_) (fun c9 => ?_)
  · exact kk _ _ _ _ _ _ _ _ _ _ _ _ _ _ _ H locs ls (Rel_ask hRel hw.2 hw2.2) hP hD hS hl
  · exact absurd (hw.1.trans hw2.1.symm) c9

set_option maxHeartbeats 1000000 in
set_option maxRecDepth 100000 in
theorem law_21 {p : Program} {l : Launch} {e : Env} {s : State} {m : MethodId} {below : List Frame} {meth : Method} {c : Code} {b Ls : Nat} {xs : Nat → Int32} {D : va_G} {cI cB : ClassId} {g r : Nat → Nat} {B : BayT} {T : BayT} {Q : BayT} {P : Nat → BayT} {hi : Int32} {tc : Nat} {rf : Nat → Int32} {f : Nat → Int32} {L : Nat → Int32} {ln : Nat} {la : Nat} {ct : Nat} {f1 : Nat → Int32} {f2 : Nat → Int32} {M : MT} {H : Heap} {locs : List Loc} {ls : Array Slot} {i : Nat} (C : lwC p s m meth c b Ls xs D cI cB) (hRel : Rel_ B Q P hi tc rf f L ln la ct M) (hi5 : i + 5 ≤ Ls) (hP : va_P D vwCl (lV_ cI cB g r B B T Q P hi tc rf f L ln la ct f1 f2 M) H) (hD : va_D (lwA s) (lV_ cI cB g r B B T Q P hi tc rf f L ln la ct f1 f2 M)) (hS : va_S (lwA s) s.heap H locs) (hl : lv_has ls 4 [(3, .int (nI i)), (2, .ref (r 0)), (1, .ref (g 0)), (0, .ref b)]) (kk : ∀ (B T Q : BayT) (P : Nat → BayT) (hi : Int32) (tc : Nat) (rf f L : Nat → Int32) (ln la ct : Nat) (f1 f2 : Nat → Int32) (M : MT) (H : Heap) (locs : List Loc) (ls : Array Slot), Rel_ B Q P hi tc rf f L ln la ct M → va_P D vwCl (lV_ cI cB g r B B T Q P hi tc rf f L ln la ct f1 f2 M) H → va_D (lwA s) (lV_ cI cB g r B B T Q P hi tc rf f L ln la ct f1 f2 M) → va_S (lwA s) s.heap H locs → lv_has ls 4 [(3, .int (nI i)), (2, .ref (r 0)), (1, .ref (g 0)), (0, .ref b)] → W p l e room_1 s m #[Value.ref b] below meth c H locs 92 1551 (lw_Z below #[Value.ref b] s) (F0 m 1387 ls [])) : W p l e room_1 s m #[Value.ref b] below meth c H locs 92 1551 (lw_Z below #[Value.ref b] s) (F0 m 835 ls []) := by
  have hI := hRel.1
  have hn7 := hI.1
  obtain ⟨-, e1, e2, e3, e4, e5, e6, e7, hln, htc, hct, hla, -, -⟩ := id hRel
  subst e1; subst e2; subst e3; subst e4; subst e5; subst e6; subst e7
  refine lv_aload_n C.1 C.2.1 dL_law_835 rfl (lv_at hl 2 rfl) ?_
  refine l_arg C hS hl 1 (by omega) (by first | rfl | decide) dL_law_836 dL_law_837 dL_law_838 dL_law_839 dL_law_840 ?_
  refine l_arg C hS hl 2 (by omega) (by first | rfl | decide) dL_law_841 dL_law_842 dL_law_843 dL_law_844 dL_law_845 ?_
  refine l_arg C hS hl 3 (by omega) (by first | rfl | decide) dL_law_846 dL_law_847 dL_law_848 dL_law_849 dL_law_850 ?_
  refine lx_ask C hP hD hS gL_law_X4_powderWanted rfl okX4_powderWanted (qX4_powderWanted l D cI cB g (mhi_ M) (mrm_ M) B T (mrf_ M) (xs (i + 1)) (xs (i + 2)) (xs (i + 3)) hn7) (by decide) hl.1 rfl rfl (Nat.le_of_ble_eq_true rfl) dL_law_851 (fun v1 u1 H locs hw hP hD hS => ?_)
  refine lv_aload_n C.1 C.2.1 dL_law_854 rfl (lv_at hl 1 rfl) ?_
  refine l_arg C hS hl 1 (by omega) (by first | rfl | decide) dL_law_855 dL_law_856 dL_law_857 dL_law_858 dL_law_859 ?_
  refine l_arg C hS hl 2 (by omega) (by first | rfl | decide) dL_law_860 dL_law_861 dL_law_862 dL_law_863 dL_law_864 ?_
  refine l_arg C hS hl 3 (by omega) (by first | rfl | decide) dL_law_865 dL_law_866 dL_law_867 dL_law_868 dL_law_869 ?_
  refine lm_ask C hP hD hS gL_law_X5_powderWanted rfl okX5_powderWanted (qX5_powderWanted l D cI cB r B M (xs (i + 1)) (xs (i + 2)) (xs (i + 3)) hI) (by decide) hl.1 rfl rfl (Nat.le_of_ble_eq_true rfl) dL_law_870 (fun v2 u2 H locs hw2 hP hD hS => ?_)
  refine lv_icmp_eq (tgt := 1387) C.1 C.2.1 dL_law_873 (by decide) (fun c9 => ?_) (fun c9 => ?_)
  · exact kk _ _ _ _ _ _ _ _ _ _ _ _ _ _ _ H locs ls (Rel_ask hRel hw.2 hw2.2) hP hD hS hl
  · exact absurd (hw.1.trans hw2.1.symm) c9

set_option maxHeartbeats 1000000 in
set_option maxRecDepth 100000 in
theorem law_22 {p : Program} {l : Launch} {e : Env} {s : State} {m : MethodId} {below : List Frame} {meth : Method} {c : Code} {b Ls : Nat} {xs : Nat → Int32} {D : va_G} {cI cB : ClassId} {g r : Nat → Nat} {B : BayT} {T : BayT} {Q : BayT} {P : Nat → BayT} {hi : Int32} {tc : Nat} {rf : Nat → Int32} {f : Nat → Int32} {L : Nat → Int32} {ln : Nat} {la : Nat} {ct : Nat} {f1 : Nat → Int32} {f2 : Nat → Int32} {M : MT} {H : Heap} {locs : List Loc} {ls : Array Slot} {i : Nat} (C : lwC p s m meth c b Ls xs D cI cB) (hRel : Rel_ B Q P hi tc rf f L ln la ct M) (hi5 : i + 5 ≤ Ls) (hP : va_P D vwCl (lV_ cI cB g r B B T Q P hi tc rf f L ln la ct f1 f2 M) H) (hD : va_D (lwA s) (lV_ cI cB g r B B T Q P hi tc rf f L ln la ct f1 f2 M)) (hS : va_S (lwA s) s.heap H locs) (hl : lv_has ls 4 [(3, .int (nI i)), (2, .ref (r 0)), (1, .ref (g 0)), (0, .ref b)]) (kk : ∀ (B T Q : BayT) (P : Nat → BayT) (hi : Int32) (tc : Nat) (rf f L : Nat → Int32) (ln la ct : Nat) (f1 f2 : Nat → Int32) (M : MT) (H : Heap) (locs : List Loc) (ls : Array Slot), Rel_ B Q P hi tc rf f L ln la ct M → va_P D vwCl (lV_ cI cB g r B B T Q P hi tc rf f L ln la ct f1 f2 M) H → va_D (lwA s) (lV_ cI cB g r B B T Q P hi tc rf f L ln la ct f1 f2 M) → va_S (lwA s) s.heap H locs → lv_has ls 4 [(3, .int (nI i)), (2, .ref (r 0)), (1, .ref (g 0)), (0, .ref b)] → W p l e room_1 s m #[Value.ref b] below meth c H locs 92 1551 (lw_Z below #[Value.ref b] s) (F0 m 1387 ls [])) : W p l e room_1 s m #[Value.ref b] below meth c H locs 92 1551 (lw_Z below #[Value.ref b] s) (F0 m 878 ls []) := by
  have hI := hRel.1
  have hn7 := hI.1
  obtain ⟨-, e1, e2, e3, e4, e5, e6, e7, hln, htc, hct, hla, -, -⟩ := id hRel
  subst e1; subst e2; subst e3; subst e4; subst e5; subst e6; subst e7
  refine lv_aload_n C.1 C.2.1 dL_law_878 rfl (lv_at hl 2 rfl) ?_
  refine l_arg C hS hl 1 (by omega) (by first | rfl | decide) dL_law_879 dL_law_880 dL_law_881 dL_law_882 dL_law_883 ?_
  refine l_arg C hS hl 2 (by omega) (by first | rfl | decide) dL_law_884 dL_law_885 dL_law_886 dL_law_887 dL_law_888 ?_
  refine l_arg C hS hl 3 (by omega) (by first | rfl | decide) dL_law_889 dL_law_890 dL_law_891 dL_law_892 dL_law_893 ?_
  refine lx_ask C hP hD hS gL_law_X4_newShore rfl okX4_newShore (qX4_newShore l D cI cB g (mhi_ M) (mrm_ M) B T (mrf_ M) (xs (i + 1)) (xs (i + 2)) (xs (i + 3)) hn7) (by decide) hl.1 rfl rfl (Nat.le_of_ble_eq_true rfl) dL_law_894 (fun v1 u1 H locs hw hP hD hS => ?_)
  refine lv_aload_n C.1 C.2.1 dL_law_897 rfl (lv_at hl 1 rfl) ?_
  refine l_arg C hS hl 1 (by omega) (by first | rfl | decide) dL_law_898 dL_law_899 dL_law_900 dL_law_901 dL_law_902 ?_
  refine l_arg C hS hl 2 (by omega) (by first | rfl | decide) dL_law_903 dL_law_904 dL_law_905 dL_law_906 dL_law_907 ?_
  refine l_arg C hS hl 3 (by omega) (by first | rfl | decide) dL_law_908 dL_law_909 dL_law_910 dL_law_911 dL_law_912 ?_
  refine lm_ask C hP hD hS gL_law_X5_newShore rfl okX5_newShore (qX5_newShore l D cI cB r B M (xs (i + 1)) (xs (i + 2)) (xs (i + 3)) hI) (by decide) hl.1 rfl rfl (Nat.le_of_ble_eq_true rfl) dL_law_913 (fun v2 u2 H locs hw2 hP hD hS => ?_)
  refine lv_icmp_eq (tgt := 1387) C.1 C.2.1 dL_law_916 (by decide) (fun c9 => ?_) (fun c9 => ?_)
  · exact kk _ _ _ _ _ _ _ _ _ _ _ _ _ _ _ H locs ls (Rel_ask hRel hw.2 hw2.2) hP hD hS hl
  · exact absurd (hw.1.trans hw2.1.symm) c9

set_option maxHeartbeats 1000000 in
set_option maxRecDepth 100000 in
theorem law_25 {p : Program} {l : Launch} {e : Env} {s : State} {m : MethodId} {below : List Frame} {meth : Method} {c : Code} {b Ls : Nat} {xs : Nat → Int32} {D : va_G} {cI cB : ClassId} {g r : Nat → Nat} {B : BayT} {T : BayT} {Q : BayT} {P : Nat → BayT} {hi : Int32} {tc : Nat} {rf : Nat → Int32} {f : Nat → Int32} {L : Nat → Int32} {ln : Nat} {la : Nat} {ct : Nat} {f1 : Nat → Int32} {f2 : Nat → Int32} {M : MT} {H : Heap} {locs : List Loc} {ls : Array Slot} {i : Nat} (C : lwC p s m meth c b Ls xs D cI cB) (hRel : Rel_ B Q P hi tc rf f L ln la ct M) (hi5 : i + 5 ≤ Ls) (hP : va_P D vwCl (lV_ cI cB g r B B T Q P hi tc rf f L ln la ct f1 f2 M) H) (hD : va_D (lwA s) (lV_ cI cB g r B B T Q P hi tc rf f L ln la ct f1 f2 M)) (hS : va_S (lwA s) s.heap H locs) (hl : lv_has ls 4 [(3, .int (nI i)), (2, .ref (r 0)), (1, .ref (g 0)), (0, .ref b)]) (kk : ∀ (B T Q : BayT) (P : Nat → BayT) (hi : Int32) (tc : Nat) (rf f L : Nat → Int32) (ln la ct : Nat) (f1 f2 : Nat → Int32) (M : MT) (H : Heap) (locs : List Loc) (ls : Array Slot), Rel_ B Q P hi tc rf f L ln la ct M → va_P D vwCl (lV_ cI cB g r B B T Q P hi tc rf f L ln la ct f1 f2 M) H → va_D (lwA s) (lV_ cI cB g r B B T Q P hi tc rf f L ln la ct f1 f2 M) → va_S (lwA s) s.heap H locs → lv_has ls 4 [(3, .int (nI i)), (2, .ref (r 0)), (1, .ref (g 0)), (0, .ref b)] → W p l e room_1 s m #[Value.ref b] below meth c H locs 92 1551 (lw_Z below #[Value.ref b] s) (F0 m 1387 ls [])) : W p l e room_1 s m #[Value.ref b] below meth c H locs 92 1551 (lw_Z below #[Value.ref b] s) (F0 m 997 ls []) := by
  have hI := hRel.1
  have hn7 := hI.1
  obtain ⟨-, e1, e2, e3, e4, e5, e6, e7, hln, htc, hct, hla, -, -⟩ := id hRel
  subst e1; subst e2; subst e3; subst e4; subst e5; subst e6; subst e7
  refine lv_aload_n C.1 C.2.1 dL_law_997 rfl (lv_at hl 2 rfl) ?_
  refine l_arg C hS hl 1 (by omega) (by first | rfl | decide) dL_law_998 dL_law_999 dL_law_1000 dL_law_1001 dL_law_1002 ?_
  refine l_arg C hS hl 2 (by omega) (by first | rfl | decide) dL_law_1003 dL_law_1004 dL_law_1005 dL_law_1006 dL_law_1007 ?_
  refine l_arg C hS hl 3 (by omega) (by first | rfl | decide) dL_law_1008 dL_law_1009 dL_law_1010 dL_law_1011 dL_law_1012 ?_
  refine l_arg C hS hl 4 (by omega) (by first | rfl | decide) dL_law_1013 dL_law_1014 dL_law_1015 dL_law_1016 dL_law_1017 ?_
  refine lx_askL C hP hD hS gL_law_X4_thunder rfl okX4_thunder (qX4_thunder l D cI cB g (mhi_ M) (mrm_ M) B T (mrf_ M) (xs (i + 1)) (xs (i + 2)) (xs (i + 3)) (xs (i + 4)) hn7) (by decide) hl.1 rfl rfl (Nat.le_of_ble_eq_true rfl) dL_law_1018 (fun v1 u1 H locs hw hP hD hS => ?_)
  refine lv_aload_n C.1 C.2.1 dL_law_1021 rfl (lv_at hl 1 rfl) ?_
  refine l_arg C hS hl 1 (by omega) (by first | rfl | decide) dL_law_1022 dL_law_1023 dL_law_1024 dL_law_1025 dL_law_1026 ?_
  refine l_arg C hS hl 2 (by omega) (by first | rfl | decide) dL_law_1027 dL_law_1028 dL_law_1029 dL_law_1030 dL_law_1031 ?_
  refine l_arg C hS hl 3 (by omega) (by first | rfl | decide) dL_law_1032 dL_law_1033 dL_law_1034 dL_law_1035 dL_law_1036 ?_
  refine l_arg C hS hl 4 (by omega) (by first | rfl | decide) dL_law_1037 dL_law_1038 dL_law_1039 dL_law_1040 dL_law_1041 ?_
  refine lm_askL C hP hD hS gL_law_X5_thunder rfl okX5_thunder (qX5_thunder l D cI cB r B M (xs (i + 1)) (xs (i + 2)) (xs (i + 3)) (xs (i + 4)) hI) (by decide) hl.1 rfl rfl (Nat.le_of_ble_eq_true rfl) dL_law_1042 (fun v2 u2 H locs hw2 hP hD hS => ?_)
  refine W.lcmp C.1 C.2.1 dL_law_1045 ?_
  refine lv_if_eq (tgt := 1387) C.1 C.2.1 dL_law_1046 (by decide) (fun c9 => ?_) (fun c9 => ?_)
  · exact kk _ _ _ _ _ _ _ _ _ _ _ _ _ _ _ H locs ls (Rel_ask hRel hw.2 hw2.2) hP hD hS hl
  · exact absurd ((lg_cmp_eq _ _).mpr (hw.1.trans hw2.1.symm)) c9

set_option maxHeartbeats 1000000 in
set_option maxRecDepth 100000 in
theorem law_26 {p : Program} {l : Launch} {e : Env} {s : State} {m : MethodId} {below : List Frame} {meth : Method} {c : Code} {b Ls : Nat} {xs : Nat → Int32} {D : va_G} {cI cB : ClassId} {g r : Nat → Nat} {B : BayT} {T : BayT} {Q : BayT} {P : Nat → BayT} {hi : Int32} {tc : Nat} {rf : Nat → Int32} {f : Nat → Int32} {L : Nat → Int32} {ln : Nat} {la : Nat} {ct : Nat} {f1 : Nat → Int32} {f2 : Nat → Int32} {M : MT} {H : Heap} {locs : List Loc} {ls : Array Slot} {i : Nat} (C : lwC p s m meth c b Ls xs D cI cB) (hRel : Rel_ B Q P hi tc rf f L ln la ct M) (hi5 : i + 5 ≤ Ls) (hP : va_P D vwCl (lV_ cI cB g r B B T Q P hi tc rf f L ln la ct f1 f2 M) H) (hD : va_D (lwA s) (lV_ cI cB g r B B T Q P hi tc rf f L ln la ct f1 f2 M)) (hS : va_S (lwA s) s.heap H locs) (hl : lv_has ls 4 [(3, .int (nI i)), (2, .ref (r 0)), (1, .ref (g 0)), (0, .ref b)]) (kk : ∀ (B T Q : BayT) (P : Nat → BayT) (hi : Int32) (tc : Nat) (rf f L : Nat → Int32) (ln la ct : Nat) (f1 f2 : Nat → Int32) (M : MT) (H : Heap) (locs : List Loc) (ls : Array Slot), Rel_ B Q P hi tc rf f L ln la ct M → va_P D vwCl (lV_ cI cB g r B B T Q P hi tc rf f L ln la ct f1 f2 M) H → va_D (lwA s) (lV_ cI cB g r B B T Q P hi tc rf f L ln la ct f1 f2 M) → va_S (lwA s) s.heap H locs → lv_has ls 4 [(3, .int (nI i)), (2, .ref (r 0)), (1, .ref (g 0)), (0, .ref b)] → W p l e room_1 s m #[Value.ref b] below meth c H locs 92 1551 (lw_Z below #[Value.ref b] s) (F0 m 1387 ls [])) : W p l e room_1 s m #[Value.ref b] below meth c H locs 92 1551 (lw_Z below #[Value.ref b] s) (F0 m 1051 ls []) := by
  have hI := hRel.1
  have hn7 := hI.1
  obtain ⟨-, e1, e2, e3, e4, e5, e6, e7, hln, htc, hct, hla, -, -⟩ := id hRel
  subst e1; subst e2; subst e3; subst e4; subst e5; subst e6; subst e7
  refine lv_aload_n C.1 C.2.1 dL_law_1051 rfl (lv_at hl 2 rfl) ?_
  refine l_arg C hS hl 1 (by omega) (by first | rfl | decide) dL_law_1052 dL_law_1053 dL_law_1054 dL_law_1055 dL_law_1056 ?_
  refine lx_ask C hP hD hS gL_law_X4_nearest rfl okX4_nearest (qX4_nearest l D cI cB g (mhi_ M) (mrm_ M) B T (mrf_ M) (xs (i + 1)) hn7) (by decide) hl.1 rfl rfl (Nat.le_of_ble_eq_true rfl) dL_law_1057 (fun v1 u1 H locs hw hP hD hS => ?_)
  refine lv_aload_n C.1 C.2.1 dL_law_1060 rfl (lv_at hl 1 rfl) ?_
  refine l_arg C hS hl 1 (by omega) (by first | rfl | decide) dL_law_1061 dL_law_1062 dL_law_1063 dL_law_1064 dL_law_1065 ?_
  refine lm_ask C hP hD hS gL_law_X5_nearest rfl okX5_nearest (qX5_nearest l D cI cB r B M (xs (i + 1)) hI) (by decide) hl.1 rfl rfl (Nat.le_of_ble_eq_true rfl) dL_law_1066 (fun v2 u2 H locs hw2 hP hD hS => ?_)
  refine lv_icmp_eq (tgt := 1387) C.1 C.2.1 dL_law_1069 (by decide) (fun c9 => ?_) (fun c9 => ?_)
  · exact kk _ _ _ _ _ _ _ _ _ _ _ _ _ _ _ H locs ls (Rel_ask hRel hw.2 hw2.2) hP hD hS hl
  · exact absurd (hw.1.trans hw2.1.symm) c9

set_option maxHeartbeats 1000000 in
set_option maxRecDepth 100000 in
theorem law_27 {p : Program} {l : Launch} {e : Env} {s : State} {m : MethodId} {below : List Frame} {meth : Method} {c : Code} {b Ls : Nat} {xs : Nat → Int32} {D : va_G} {cI cB : ClassId} {g r : Nat → Nat} {B : BayT} {T : BayT} {Q : BayT} {P : Nat → BayT} {hi : Int32} {tc : Nat} {rf : Nat → Int32} {f : Nat → Int32} {L : Nat → Int32} {ln : Nat} {la : Nat} {ct : Nat} {f1 : Nat → Int32} {f2 : Nat → Int32} {M : MT} {H : Heap} {locs : List Loc} {ls : Array Slot} {i : Nat} (C : lwC p s m meth c b Ls xs D cI cB) (hRel : Rel_ B Q P hi tc rf f L ln la ct M) (hi5 : i + 5 ≤ Ls) (hP : va_P D vwCl (lV_ cI cB g r B B T Q P hi tc rf f L ln la ct f1 f2 M) H) (hD : va_D (lwA s) (lV_ cI cB g r B B T Q P hi tc rf f L ln la ct f1 f2 M)) (hS : va_S (lwA s) s.heap H locs) (hl : lv_has ls 4 [(3, .int (nI i)), (2, .ref (r 0)), (1, .ref (g 0)), (0, .ref b)]) (kk : ∀ (B T Q : BayT) (P : Nat → BayT) (hi : Int32) (tc : Nat) (rf f L : Nat → Int32) (ln la ct : Nat) (f1 f2 : Nat → Int32) (M : MT) (H : Heap) (locs : List Loc) (ls : Array Slot), Rel_ B Q P hi tc rf f L ln la ct M → va_P D vwCl (lV_ cI cB g r B B T Q P hi tc rf f L ln la ct f1 f2 M) H → va_D (lwA s) (lV_ cI cB g r B B T Q P hi tc rf f L ln la ct f1 f2 M) → va_S (lwA s) s.heap H locs → lv_has ls 4 [(3, .int (nI i)), (2, .ref (r 0)), (1, .ref (g 0)), (0, .ref b)] → W p l e room_1 s m #[Value.ref b] below meth c H locs 92 1551 (lw_Z below #[Value.ref b] s) (F0 m 1387 ls [])) : W p l e room_1 s m #[Value.ref b] below meth c H locs 92 1551 (lw_Z below #[Value.ref b] s) (F0 m 1074 ls []) := by
  have hI := hRel.1
  have hn7 := hI.1
  obtain ⟨-, e1, e2, e3, e4, e5, e6, e7, hln, htc, hct, hla, -, -⟩ := id hRel
  subst e1; subst e2; subst e3; subst e4; subst e5; subst e6; subst e7
  refine lv_aload_n C.1 C.2.1 dL_law_1074 rfl (lv_at hl 2 rfl) ?_
  refine l_arg C hS hl 1 (by omega) (by first | rfl | decide) dL_law_1075 dL_law_1076 dL_law_1077 dL_law_1078 dL_law_1079 ?_
  refine lx_ask C hP hD hS gL_law_X4_shared rfl okX4_shared (qX4_shared l D cI cB g (mhi_ M) (mrm_ M) B T (mrf_ M) (xs (i + 1)) hn7) (by decide) hl.1 rfl rfl (Nat.le_of_ble_eq_true rfl) dL_law_1080 (fun v1 u1 H locs hw hP hD hS => ?_)
  refine lv_aload_n C.1 C.2.1 dL_law_1083 rfl (lv_at hl 1 rfl) ?_
  refine l_arg C hS hl 1 (by omega) (by first | rfl | decide) dL_law_1084 dL_law_1085 dL_law_1086 dL_law_1087 dL_law_1088 ?_
  refine lm_ask C hP hD hS gL_law_X5_shared rfl okX5_shared (qX5_shared l D cI cB r B M (xs (i + 1)) hI) (by decide) hl.1 rfl rfl (Nat.le_of_ble_eq_true rfl) dL_law_1089 (fun v2 u2 H locs hw2 hP hD hS => ?_)
  refine lv_icmp_eq (tgt := 1387) C.1 C.2.1 dL_law_1092 (by decide) (fun c9 => ?_) (fun c9 => ?_)
  · exact kk _ _ _ _ _ _ _ _ _ _ _ _ _ _ _ H locs ls (Rel_ask hRel hw.2 hw2.2) hP hD hS hl
  · exact absurd (hw.1.trans hw2.1.symm) c9

set_option maxHeartbeats 1000000 in
set_option maxRecDepth 100000 in
theorem law_28 {p : Program} {l : Launch} {e : Env} {s : State} {m : MethodId} {below : List Frame} {meth : Method} {c : Code} {b Ls : Nat} {xs : Nat → Int32} {D : va_G} {cI cB : ClassId} {g r : Nat → Nat} {B : BayT} {T : BayT} {Q : BayT} {P : Nat → BayT} {hi : Int32} {tc : Nat} {rf : Nat → Int32} {f : Nat → Int32} {L : Nat → Int32} {ln : Nat} {la : Nat} {ct : Nat} {f1 : Nat → Int32} {f2 : Nat → Int32} {M : MT} {H : Heap} {locs : List Loc} {ls : Array Slot} {i : Nat} (C : lwC p s m meth c b Ls xs D cI cB) (hRel : Rel_ B Q P hi tc rf f L ln la ct M) (hi5 : i + 5 ≤ Ls) (hP : va_P D vwCl (lV_ cI cB g r B B T Q P hi tc rf f L ln la ct f1 f2 M) H) (hD : va_D (lwA s) (lV_ cI cB g r B B T Q P hi tc rf f L ln la ct f1 f2 M)) (hS : va_S (lwA s) s.heap H locs) (hl : lv_has ls 4 [(3, .int (nI i)), (2, .ref (r 0)), (1, .ref (g 0)), (0, .ref b)]) (kk : ∀ (B T Q : BayT) (P : Nat → BayT) (hi : Int32) (tc : Nat) (rf f L : Nat → Int32) (ln la ct : Nat) (f1 f2 : Nat → Int32) (M : MT) (H : Heap) (locs : List Loc) (ls : Array Slot), Rel_ B Q P hi tc rf f L ln la ct M → va_P D vwCl (lV_ cI cB g r B B T Q P hi tc rf f L ln la ct f1 f2 M) H → va_D (lwA s) (lV_ cI cB g r B B T Q P hi tc rf f L ln la ct f1 f2 M) → va_S (lwA s) s.heap H locs → lv_has ls 4 [(3, .int (nI i)), (2, .ref (r 0)), (1, .ref (g 0)), (0, .ref b)] → W p l e room_1 s m #[Value.ref b] below meth c H locs 92 1551 (lw_Z below #[Value.ref b] s) (F0 m 1387 ls [])) : W p l e room_1 s m #[Value.ref b] below meth c H locs 92 1551 (lw_Z below #[Value.ref b] s) (F0 m 1097 ls []) := by
  have hI := hRel.1
  have hn7 := hI.1
  obtain ⟨-, e1, e2, e3, e4, e5, e6, e7, hln, htc, hct, hla, -, -⟩ := id hRel
  subst e1; subst e2; subst e3; subst e4; subst e5; subst e6; subst e7
  refine lv_aload_n C.1 C.2.1 dL_law_1097 rfl (lv_at hl 2 rfl) ?_
  refine l_arg C hS hl 1 (by omega) (by first | rfl | decide) dL_law_1098 dL_law_1099 dL_law_1100 dL_law_1101 dL_law_1102 ?_
  refine lx_ask C hP hD hS gL_law_X4_loudHour rfl okX4_loudHour (qX4_loudHour l D cI cB g (mhi_ M) (mrm_ M) B T (mrf_ M) (xs (i + 1)) hn7) (by decide) hl.1 rfl rfl (Nat.le_of_ble_eq_true rfl) dL_law_1103 (fun v1 u1 H locs hw hP hD hS => ?_)
  refine lv_aload_n C.1 C.2.1 dL_law_1106 rfl (lv_at hl 1 rfl) ?_
  refine l_arg C hS hl 1 (by omega) (by first | rfl | decide) dL_law_1107 dL_law_1108 dL_law_1109 dL_law_1110 dL_law_1111 ?_
  refine lm_ask C hP hD hS gL_law_X5_loudHour rfl okX5_loudHour (qX5_loudHour l D cI cB r B M (xs (i + 1)) hI) (by decide) hl.1 rfl rfl (Nat.le_of_ble_eq_true rfl) dL_law_1112 (fun v2 u2 H locs hw2 hP hD hS => ?_)
  refine lv_icmp_eq (tgt := 1387) C.1 C.2.1 dL_law_1115 (by decide) (fun c9 => ?_) (fun c9 => ?_)
  · exact kk _ _ _ _ _ _ _ _ _ _ _ _ _ _ _ H locs ls (Rel_ask hRel hw.2 hw2.2) hP hD hS hl
  · exact absurd (hw.1.trans hw2.1.symm) c9

set_option maxHeartbeats 1000000 in
set_option maxRecDepth 100000 in
theorem law_30 {p : Program} {l : Launch} {e : Env} {s : State} {m : MethodId} {below : List Frame} {meth : Method} {c : Code} {b Ls : Nat} {xs : Nat → Int32} {D : va_G} {cI cB : ClassId} {g r : Nat → Nat} {B : BayT} {T : BayT} {Q : BayT} {P : Nat → BayT} {hi : Int32} {tc : Nat} {rf : Nat → Int32} {f : Nat → Int32} {L : Nat → Int32} {ln : Nat} {la : Nat} {ct : Nat} {f1 : Nat → Int32} {f2 : Nat → Int32} {M : MT} {H : Heap} {locs : List Loc} {ls : Array Slot} {i : Nat} (C : lwC p s m meth c b Ls xs D cI cB) (hRel : Rel_ B Q P hi tc rf f L ln la ct M) (hi5 : i + 5 ≤ Ls) (hP : va_P D vwCl (lV_ cI cB g r B B T Q P hi tc rf f L ln la ct f1 f2 M) H) (hD : va_D (lwA s) (lV_ cI cB g r B B T Q P hi tc rf f L ln la ct f1 f2 M)) (hS : va_S (lwA s) s.heap H locs) (hl : lv_has ls 4 [(3, .int (nI i)), (2, .ref (r 0)), (1, .ref (g 0)), (0, .ref b)]) (kk : ∀ (B T Q : BayT) (P : Nat → BayT) (hi : Int32) (tc : Nat) (rf f L : Nat → Int32) (ln la ct : Nat) (f1 f2 : Nat → Int32) (M : MT) (H : Heap) (locs : List Loc) (ls : Array Slot), Rel_ B Q P hi tc rf f L ln la ct M → va_P D vwCl (lV_ cI cB g r B B T Q P hi tc rf f L ln la ct f1 f2 M) H → va_D (lwA s) (lV_ cI cB g r B B T Q P hi tc rf f L ln la ct f1 f2 M) → va_S (lwA s) s.heap H locs → lv_has ls 4 [(3, .int (nI i)), (2, .ref (r 0)), (1, .ref (g 0)), (0, .ref b)] → W p l e room_1 s m #[Value.ref b] below meth c H locs 92 1551 (lw_Z below #[Value.ref b] s) (F0 m 1387 ls [])) : W p l e room_1 s m #[Value.ref b] below meth c H locs 92 1551 (lw_Z below #[Value.ref b] s) (F0 m 1144 ls []) := by
  have hI := hRel.1
  have hn7 := hI.1
  obtain ⟨-, e1, e2, e3, e4, e5, e6, e7, hln, htc, hct, hla, -, -⟩ := id hRel
  subst e1; subst e2; subst e3; subst e4; subst e5; subst e6; subst e7
  refine lv_aload_n C.1 C.2.1 dL_law_1144 rfl (lv_at hl 2 rfl) ?_
  refine l_arg C hS hl 1 (by omega) (by first | rfl | decide) dL_law_1145 dL_law_1146 dL_law_1147 dL_law_1148 dL_law_1149 ?_
  refine lx_ask C hP hD hS gL_law_X4_gap rfl okX4_gap (qX4_gap l D cI cB g (mhi_ M) (mrm_ M) B T (mrf_ M) (xs (i + 1)) hn7) (by decide) hl.1 rfl rfl (Nat.le_of_ble_eq_true rfl) dL_law_1150 (fun v1 u1 H locs hw hP hD hS => ?_)
  refine lv_aload_n C.1 C.2.1 dL_law_1153 rfl (lv_at hl 1 rfl) ?_
  refine l_arg C hS hl 1 (by omega) (by first | rfl | decide) dL_law_1154 dL_law_1155 dL_law_1156 dL_law_1157 dL_law_1158 ?_
  refine lm_ask C hP hD hS gL_law_X5_gap rfl okX5_gap (qX5_gap l D cI cB r B M (xs (i + 1)) hI) (by decide) hl.1 rfl rfl (Nat.le_of_ble_eq_true rfl) dL_law_1159 (fun v2 u2 H locs hw2 hP hD hS => ?_)
  refine lv_icmp_eq (tgt := 1387) C.1 C.2.1 dL_law_1162 (by decide) (fun c9 => ?_) (fun c9 => ?_)
  · exact kk _ _ _ _ _ _ _ _ _ _ _ _ _ _ _ H locs ls (Rel_ask hRel hw.2 hw2.2) hP hD hS hl
  · exact absurd (hw.1.trans hw2.1.symm) c9

set_option maxHeartbeats 1000000 in
set_option maxRecDepth 100000 in
theorem law_31 {p : Program} {l : Launch} {e : Env} {s : State} {m : MethodId} {below : List Frame} {meth : Method} {c : Code} {b Ls : Nat} {xs : Nat → Int32} {D : va_G} {cI cB : ClassId} {g r : Nat → Nat} {B : BayT} {T : BayT} {Q : BayT} {P : Nat → BayT} {hi : Int32} {tc : Nat} {rf : Nat → Int32} {f : Nat → Int32} {L : Nat → Int32} {ln : Nat} {la : Nat} {ct : Nat} {f1 : Nat → Int32} {f2 : Nat → Int32} {M : MT} {H : Heap} {locs : List Loc} {ls : Array Slot} {i : Nat} (C : lwC p s m meth c b Ls xs D cI cB) (hRel : Rel_ B Q P hi tc rf f L ln la ct M) (hi5 : i + 5 ≤ Ls) (hP : va_P D vwCl (lV_ cI cB g r B B T Q P hi tc rf f L ln la ct f1 f2 M) H) (hD : va_D (lwA s) (lV_ cI cB g r B B T Q P hi tc rf f L ln la ct f1 f2 M)) (hS : va_S (lwA s) s.heap H locs) (hl : lv_has ls 4 [(3, .int (nI i)), (2, .ref (r 0)), (1, .ref (g 0)), (0, .ref b)]) (kk : ∀ (B T Q : BayT) (P : Nat → BayT) (hi : Int32) (tc : Nat) (rf f L : Nat → Int32) (ln la ct : Nat) (f1 f2 : Nat → Int32) (M : MT) (H : Heap) (locs : List Loc) (ls : Array Slot), Rel_ B Q P hi tc rf f L ln la ct M → va_P D vwCl (lV_ cI cB g r B B T Q P hi tc rf f L ln la ct f1 f2 M) H → va_D (lwA s) (lV_ cI cB g r B B T Q P hi tc rf f L ln la ct f1 f2 M) → va_S (lwA s) s.heap H locs → lv_has ls 4 [(3, .int (nI i)), (2, .ref (r 0)), (1, .ref (g 0)), (0, .ref b)] → W p l e room_1 s m #[Value.ref b] below meth c H locs 92 1551 (lw_Z below #[Value.ref b] s) (F0 m 1387 ls [])) : W p l e room_1 s m #[Value.ref b] below meth c H locs 92 1551 (lw_Z below #[Value.ref b] s) (F0 m 1167 ls []) := by
  have hI := hRel.1
  have hn7 := hI.1
  obtain ⟨-, e1, e2, e3, e4, e5, e6, e7, hln, htc, hct, hla, -, -⟩ := id hRel
  subst e1; subst e2; subst e3; subst e4; subst e5; subst e6; subst e7
  refine lv_aload_n C.1 C.2.1 dL_law_1167 rfl (lv_at hl 2 rfl) ?_
  refine l_arg C hS hl 1 (by omega) (by first | rfl | decide) dL_law_1168 dL_law_1169 dL_law_1170 dL_law_1171 dL_law_1172 ?_
  refine lx_ask C hP hD hS gL_law_X4_spent rfl okX4_spent (qX4_spent l D cI cB g (mhi_ M) (mrm_ M) B T (mrf_ M) (xs (i + 1)) hn7) (by decide) hl.1 rfl rfl (Nat.le_of_ble_eq_true rfl) dL_law_1173 (fun v1 u1 H locs hw hP hD hS => ?_)
  refine lv_aload_n C.1 C.2.1 dL_law_1176 rfl (lv_at hl 1 rfl) ?_
  refine l_arg C hS hl 1 (by omega) (by first | rfl | decide) dL_law_1177 dL_law_1178 dL_law_1179 dL_law_1180 dL_law_1181 ?_
  refine lm_ask C hP hD hS gL_law_X5_spent rfl okX5_spent (qX5_spent l D cI cB r B M (xs (i + 1)) hI) (by decide) hl.1 rfl rfl (Nat.le_of_ble_eq_true rfl) dL_law_1182 (fun v2 u2 H locs hw2 hP hD hS => ?_)
  refine lv_icmp_eq (tgt := 1387) C.1 C.2.1 dL_law_1185 (by decide) (fun c9 => ?_) (fun c9 => ?_)
  · exact kk _ _ _ _ _ _ _ _ _ _ _ _ _ _ _ H locs ls (Rel_ask hRel hw.2 hw2.2) hP hD hS hl
  · exact absurd (hw.1.trans hw2.1.symm) c9

set_option maxHeartbeats 1000000 in
set_option maxRecDepth 100000 in
theorem law_32 {p : Program} {l : Launch} {e : Env} {s : State} {m : MethodId} {below : List Frame} {meth : Method} {c : Code} {b Ls : Nat} {xs : Nat → Int32} {D : va_G} {cI cB : ClassId} {g r : Nat → Nat} {B : BayT} {T : BayT} {Q : BayT} {P : Nat → BayT} {hi : Int32} {tc : Nat} {rf : Nat → Int32} {f : Nat → Int32} {L : Nat → Int32} {ln : Nat} {la : Nat} {ct : Nat} {f1 : Nat → Int32} {f2 : Nat → Int32} {M : MT} {H : Heap} {locs : List Loc} {ls : Array Slot} {i : Nat} (C : lwC p s m meth c b Ls xs D cI cB) (hRel : Rel_ B Q P hi tc rf f L ln la ct M) (hi5 : i + 5 ≤ Ls) (hP : va_P D vwCl (lV_ cI cB g r B B T Q P hi tc rf f L ln la ct f1 f2 M) H) (hD : va_D (lwA s) (lV_ cI cB g r B B T Q P hi tc rf f L ln la ct f1 f2 M)) (hS : va_S (lwA s) s.heap H locs) (hl : lv_has ls 4 [(3, .int (nI i)), (2, .ref (r 0)), (1, .ref (g 0)), (0, .ref b)]) (kk : ∀ (B T Q : BayT) (P : Nat → BayT) (hi : Int32) (tc : Nat) (rf f L : Nat → Int32) (ln la ct : Nat) (f1 f2 : Nat → Int32) (M : MT) (H : Heap) (locs : List Loc) (ls : Array Slot), Rel_ B Q P hi tc rf f L ln la ct M → va_P D vwCl (lV_ cI cB g r B B T Q P hi tc rf f L ln la ct f1 f2 M) H → va_D (lwA s) (lV_ cI cB g r B B T Q P hi tc rf f L ln la ct f1 f2 M) → va_S (lwA s) s.heap H locs → lv_has ls 4 [(3, .int (nI i)), (2, .ref (r 0)), (1, .ref (g 0)), (0, .ref b)] → W p l e room_1 s m #[Value.ref b] below meth c H locs 92 1551 (lw_Z below #[Value.ref b] s) (F0 m 1387 ls [])) : W p l e room_1 s m #[Value.ref b] below meth c H locs 92 1551 (lw_Z below #[Value.ref b] s) (F0 m 1190 ls []) := by
  have hI := hRel.1
  have hn7 := hI.1
  obtain ⟨-, e1, e2, e3, e4, e5, e6, e7, hln, htc, hct, hla, -, -⟩ := id hRel
  subst e1; subst e2; subst e3; subst e4; subst e5; subst e6; subst e7
  refine lv_aload_n C.1 C.2.1 dL_law_1190 rfl (lv_at hl 2 rfl) ?_
  refine l_arg C hS hl 1 (by omega) (by first | rfl | decide) dL_law_1191 dL_law_1192 dL_law_1193 dL_law_1194 dL_law_1195 ?_
  refine l_arg C hS hl 2 (by omega) (by first | rfl | decide) dL_law_1196 dL_law_1197 dL_law_1198 dL_law_1199 dL_law_1200 ?_
  refine lx_ask C hP hD hS gL_law_X4_swap rfl okX4_swap (qX4_swap l D cI cB g (mhi_ M) (mrm_ M) B T (mrf_ M) (xs (i + 1)) (xs (i + 2)) hn7) (by decide) hl.1 rfl rfl (Nat.le_of_ble_eq_true rfl) dL_law_1201 (fun v1 u1 H locs hw hP hD hS => ?_)
  refine lv_aload_n C.1 C.2.1 dL_law_1204 rfl (lv_at hl 1 rfl) ?_
  refine l_arg C hS hl 1 (by omega) (by first | rfl | decide) dL_law_1205 dL_law_1206 dL_law_1207 dL_law_1208 dL_law_1209 ?_
  refine l_arg C hS hl 2 (by omega) (by first | rfl | decide) dL_law_1210 dL_law_1211 dL_law_1212 dL_law_1213 dL_law_1214 ?_
  refine lm_ask C hP hD hS gL_law_X5_swap rfl okX5_swap (qX5_swap l D cI cB r B M (xs (i + 1)) (xs (i + 2)) hI) (by decide) hl.1 rfl rfl (Nat.le_of_ble_eq_true rfl) dL_law_1215 (fun v2 u2 H locs hw2 hP hD hS => ?_)
  refine lv_icmp_eq (tgt := 1387) C.1 C.2.1 dL_law_1218 (by decide) (fun c9 => ?_) (fun c9 => ?_)
  · exact kk _ _ _ _ _ _ _ _ _ _ _ _ _ _ _ H locs ls (Rel_ask hRel hw.2 hw2.2) hP hD hS hl
  · exact absurd (hw.1.trans hw2.1.symm) c9

set_option maxHeartbeats 1000000 in
set_option maxRecDepth 100000 in
theorem law_33 {p : Program} {l : Launch} {e : Env} {s : State} {m : MethodId} {below : List Frame} {meth : Method} {c : Code} {b Ls : Nat} {xs : Nat → Int32} {D : va_G} {cI cB : ClassId} {g r : Nat → Nat} {B : BayT} {T : BayT} {Q : BayT} {P : Nat → BayT} {hi : Int32} {tc : Nat} {rf : Nat → Int32} {f : Nat → Int32} {L : Nat → Int32} {ln : Nat} {la : Nat} {ct : Nat} {f1 : Nat → Int32} {f2 : Nat → Int32} {M : MT} {H : Heap} {locs : List Loc} {ls : Array Slot} {i : Nat} (C : lwC p s m meth c b Ls xs D cI cB) (hRel : Rel_ B Q P hi tc rf f L ln la ct M) (hi5 : i + 5 ≤ Ls) (hP : va_P D vwCl (lV_ cI cB g r B B T Q P hi tc rf f L ln la ct f1 f2 M) H) (hD : va_D (lwA s) (lV_ cI cB g r B B T Q P hi tc rf f L ln la ct f1 f2 M)) (hS : va_S (lwA s) s.heap H locs) (hl : lv_has ls 4 [(3, .int (nI i)), (2, .ref (r 0)), (1, .ref (g 0)), (0, .ref b)]) (kk : ∀ (B T Q : BayT) (P : Nat → BayT) (hi : Int32) (tc : Nat) (rf f L : Nat → Int32) (ln la ct : Nat) (f1 f2 : Nat → Int32) (M : MT) (H : Heap) (locs : List Loc) (ls : Array Slot), Rel_ B Q P hi tc rf f L ln la ct M → va_P D vwCl (lV_ cI cB g r B B T Q P hi tc rf f L ln la ct f1 f2 M) H → va_D (lwA s) (lV_ cI cB g r B B T Q P hi tc rf f L ln la ct f1 f2 M) → va_S (lwA s) s.heap H locs → lv_has ls 4 [(3, .int (nI i)), (2, .ref (r 0)), (1, .ref (g 0)), (0, .ref b)] → W p l e room_1 s m #[Value.ref b] below meth c H locs 92 1551 (lw_Z below #[Value.ref b] s) (F0 m 1387 ls [])) : W p l e room_1 s m #[Value.ref b] below meth c H locs 92 1551 (lw_Z below #[Value.ref b] s) (F0 m 1223 ls []) := by
  have hI := hRel.1
  have hn7 := hI.1
  obtain ⟨-, e1, e2, e3, e4, e5, e6, e7, hln, htc, hct, hla, -, -⟩ := id hRel
  subst e1; subst e2; subst e3; subst e4; subst e5; subst e6; subst e7
  refine lv_aload_n C.1 C.2.1 dL_law_1223 rfl (lv_at hl 2 rfl) ?_
  refine l_arg C hS hl 1 (by omega) (by first | rfl | decide) dL_law_1224 dL_law_1225 dL_law_1226 dL_law_1227 dL_law_1228 ?_
  refine lx_ask C hP hD hS gL_law_X4_ring rfl okX4_ring (qX4_ring l D cI cB g (mhi_ M) (mrm_ M) B T (mrf_ M) (xs (i + 1)) hn7) (by decide) hl.1 rfl rfl (Nat.le_of_ble_eq_true rfl) dL_law_1229 (fun v1 u1 H locs hw hP hD hS => ?_)
  refine lv_aload_n C.1 C.2.1 dL_law_1232 rfl (lv_at hl 1 rfl) ?_
  refine l_arg C hS hl 1 (by omega) (by first | rfl | decide) dL_law_1233 dL_law_1234 dL_law_1235 dL_law_1236 dL_law_1237 ?_
  refine lm_ask C hP hD hS gL_law_X5_ring rfl okX5_ring (qX5_ring l D cI cB r B M (xs (i + 1)) hI) (by decide) hl.1 rfl rfl (Nat.le_of_ble_eq_true rfl) dL_law_1238 (fun v2 u2 H locs hw2 hP hD hS => ?_)
  refine lv_icmp_eq (tgt := 1387) C.1 C.2.1 dL_law_1241 (by decide) (fun c9 => ?_) (fun c9 => ?_)
  · exact kk _ _ _ _ _ _ _ _ _ _ _ _ _ _ _ H locs ls (Rel_ask hRel hw.2 hw2.2) hP hD hS hl
  · exact absurd (hw.1.trans hw2.1.symm) c9

set_option maxHeartbeats 1000000 in
set_option maxRecDepth 100000 in
theorem law_37 {p : Program} {l : Launch} {e : Env} {s : State} {m : MethodId} {below : List Frame} {meth : Method} {c : Code} {b Ls : Nat} {xs : Nat → Int32} {D : va_G} {cI cB : ClassId} {g r : Nat → Nat} {B : BayT} {T : BayT} {Q : BayT} {P : Nat → BayT} {hi : Int32} {tc : Nat} {rf : Nat → Int32} {f : Nat → Int32} {L : Nat → Int32} {ln : Nat} {la : Nat} {ct : Nat} {f1 : Nat → Int32} {f2 : Nat → Int32} {M : MT} {H : Heap} {locs : List Loc} {ls : Array Slot} {i : Nat} (C : lwC p s m meth c b Ls xs D cI cB) (hRel : Rel_ B Q P hi tc rf f L ln la ct M) (hi5 : i + 5 ≤ Ls) (hP : va_P D vwCl (lV_ cI cB g r B B T Q P hi tc rf f L ln la ct f1 f2 M) H) (hD : va_D (lwA s) (lV_ cI cB g r B B T Q P hi tc rf f L ln la ct f1 f2 M)) (hS : va_S (lwA s) s.heap H locs) (hl : lv_has ls 4 [(3, .int (nI i)), (2, .ref (r 0)), (1, .ref (g 0)), (0, .ref b)]) (kk : ∀ (B T Q : BayT) (P : Nat → BayT) (hi : Int32) (tc : Nat) (rf f L : Nat → Int32) (ln la ct : Nat) (f1 f2 : Nat → Int32) (M : MT) (H : Heap) (locs : List Loc) (ls : Array Slot), Rel_ B Q P hi tc rf f L ln la ct M → va_P D vwCl (lV_ cI cB g r B B T Q P hi tc rf f L ln la ct f1 f2 M) H → va_D (lwA s) (lV_ cI cB g r B B T Q P hi tc rf f L ln la ct f1 f2 M) → va_S (lwA s) s.heap H locs → lv_has ls 4 [(3, .int (nI i)), (2, .ref (r 0)), (1, .ref (g 0)), (0, .ref b)] → W p l e room_1 s m #[Value.ref b] below meth c H locs 92 1551 (lw_Z below #[Value.ref b] s) (F0 m 1387 ls [])) : W p l e room_1 s m #[Value.ref b] below meth c H locs 92 1551 (lw_Z below #[Value.ref b] s) (F0 m 1295 ls []) := by
  have hI := hRel.1
  have hn7 := hI.1
  obtain ⟨-, e1, e2, e3, e4, e5, e6, e7, hln, htc, hct, hla, -, -⟩ := id hRel
  subst e1; subst e2; subst e3; subst e4; subst e5; subst e6; subst e7
  refine lv_aload_n C.1 C.2.1 dL_law_1295 rfl (lv_at hl 2 rfl) ?_
  refine l_arg C hS hl 1 (by omega) (by first | rfl | decide) dL_law_1296 dL_law_1297 dL_law_1298 dL_law_1299 dL_law_1300 ?_
  refine l_arg C hS hl 2 (by omega) (by first | rfl | decide) dL_law_1301 dL_law_1302 dL_law_1303 dL_law_1304 dL_law_1305 ?_
  refine l_arg C hS hl 3 (by omega) (by first | rfl | decide) dL_law_1306 dL_law_1307 dL_law_1308 dL_law_1309 dL_law_1310 ?_
  refine lx_ask C hP hD hS gL_law_X4_lots rfl okX4_lots (qX4_lots l D cI cB g (mhi_ M) (mrm_ M) B T (mrf_ M) (xs (i + 1)) (xs (i + 2)) (xs (i + 3)) hn7) (by decide) hl.1 rfl rfl (Nat.le_of_ble_eq_true rfl) dL_law_1311 (fun v1 u1 H locs hw hP hD hS => ?_)
  refine lv_aload_n C.1 C.2.1 dL_law_1314 rfl (lv_at hl 1 rfl) ?_
  refine l_arg C hS hl 1 (by omega) (by first | rfl | decide) dL_law_1315 dL_law_1316 dL_law_1317 dL_law_1318 dL_law_1319 ?_
  refine l_arg C hS hl 2 (by omega) (by first | rfl | decide) dL_law_1320 dL_law_1321 dL_law_1322 dL_law_1323 dL_law_1324 ?_
  refine l_arg C hS hl 3 (by omega) (by first | rfl | decide) dL_law_1325 dL_law_1326 dL_law_1327 dL_law_1328 dL_law_1329 ?_
  refine lm_ask C hP hD hS gL_law_X5_lots rfl okX5_lots (qX5_lots l D cI cB r B M (xs (i + 1)) (xs (i + 2)) (xs (i + 3)) hI) (by decide) hl.1 rfl rfl (Nat.le_of_ble_eq_true rfl) dL_law_1330 (fun v2 u2 H locs hw2 hP hD hS => ?_)
  refine lv_icmp_eq (tgt := 1387) C.1 C.2.1 dL_law_1333 (by decide) (fun c9 => ?_) (fun c9 => ?_)
  · exact kk _ _ _ _ _ _ _ _ _ _ _ _ _ _ _ H locs ls (Rel_ask hRel hw.2 hw2.2) hP hD hS hl
  · exact absurd (hw.1.trans hw2.1.symm) c9

