set_option maxHeartbeats 4000000 in
set_option maxRecDepth 100000 in
theorem law_9 {p : Program} {l : Launch} {e : Env} {s : State} {m : MethodId} {below : List Frame} {meth : Method} {c : Code} {b Ls : Nat} {xs : Nat → Int32} {D : va_G} {cI cB : ClassId} {g r : Nat → Nat} {B : BayT} {T : BayT} {Q : BayT} {P : Nat → BayT} {hi : Int32} {tc : Nat} {rf : Nat → Int32} {f : Nat → Int32} {L : Nat → Int32} {ln : Nat} {la : Nat} {ct : Nat} {f1 : Nat → Int32} {f2 : Nat → Int32} {M : MT} {H : Heap} {locs : List Loc} {ls : Array Slot} {i : Nat} (C : lwC p s m meth c b Ls xs D cI cB) (hRel : Rel_ B Q P hi tc rf f L ln la ct M) (hi5 : i + 5 ≤ Ls) (hP : va_P D vwCl (lV_ cI cB g r B B T Q P hi tc rf f L ln la ct f1 f2 M) H) (hD : va_D (lwA s) (lV_ cI cB g r B B T Q P hi tc rf f L ln la ct f1 f2 M)) (hS : va_S (lwA s) s.heap H locs) (hl : lv_has ls 4 [(3, .int (nI i)), (2, .ref (r 0)), (1, .ref (g 0)), (0, .ref b)]) (kk : ∀ (B T Q : BayT) (P : Nat → BayT) (hi : Int32) (tc : Nat) (rf f L : Nat → Int32) (ln la ct : Nat) (f1 f2 : Nat → Int32) (M : MT) (H : Heap) (locs : List Loc) (ls : Array Slot), Rel_ B Q P hi tc rf f L ln la ct M → va_P D vwCl (lV_ cI cB g r B B T Q P hi tc rf f L ln la ct f1 f2 M) H → va_D (lwA s) (lV_ cI cB g r B B T Q P hi tc rf f L ln la ct f1 f2 M) → va_S (lwA s) s.heap H locs → lv_has ls 4 [(3, .int (nI i)), (2, .ref (r 0)), (1, .ref (g 0)), (0, .ref b)] → W p l e room_1 s m #[Value.ref b] below meth c H locs 92 1551 (lw_Z below #[Value.ref b] s) (F0 m 1387 ls [])) : W p l e room_1 s m #[Value.ref b] below meth c H locs 92 1551 (lw_Z below #[Value.ref b] s) (F0 m 459 ls []) := by
  have hI := hRel.1
  have hn7 := hI.1
  obtain ⟨-, e1, e2, e3, e4, e5, e6, e7, hln, htc, hct, hla, -, -⟩ := id hRel
  subst e1; subst e2; subst e3; subst e4; subst e5; subst e6; subst e7
  refine lv_aload_n C.1 C.2.1 dL_law_459 rfl (lv_at hl 2 rfl) ?_
  refine lx_keep C hP hD hS gL_law_X4_back rfl okX4_back (qX4_back l D cI cB g (mhi_ M) (mrm_ M) B la (mbk_ M) (P la) (mrf_ M)  hla hct) (by omega) (by decide) hl.1 rfl rfl (Nat.le_of_ble_eq_true rfl) dL_law_460 (fun v1 u1 H locs hw hP hD hS => ?_)
  refine lv_aload_n C.1 C.2.1 dL_law_463 rfl (lv_at hl 1 rfl) ?_
  refine lm_chg C hP hD hS gL_law_X5_back rfl okX5_back (qX5_back l D cI cB r B M  hI hct) (by decide) hl.1 rfl rfl (Nat.le_of_ble_eq_true rfl) dL_law_464 (fun v2 u2 H locs hw2 hP hD hS => ?_)
  refine lv_icmp_eq (tgt := 1387) C.1 C.2.1 dL_law_467 (by decide) (fun c9 => ?_) (fun c9 => ?_)
  · rcases hw with ⟨w1, rfl, rfl⟩ | ⟨w1, rfl, rfl⟩
    · rcases hw2 with ⟨w2, rfl, rfl⟩ | ⟨w2, rfl, rfl⟩
      · (have q9 := Rel_back hRel (fun z => by rw [if_pos z] at w1; exact absurd w1 (by decide)); simp only [q9.1] at hP hD; exact kk _ _ _ _ _ _ _ _ _ _ _ _ _ _ _ H locs ls q9.2 hP hD hS hl)
      · exact absurd w1 w2
    · rcases hw2 with ⟨w2, rfl, rfl⟩ | ⟨w2, rfl, rfl⟩
      · exact absurd w2 w1
      · (dsimp only at hP hD; rw [va_up_id] at hP hD; exact kk B T Q P (mhi_ M) (mrm_ M) (rfx_ (mrf_ M) (-3)) (mrw_ M) (mtp_ M) (mtn_ M) la (mbk_ M) f1 f2 (rfm_ M (-3)) H locs ls (Rel_no (-3) hRel) hP hD hS hl)
  · exact absurd (by rcases hw with ⟨w1, rfl, rfl⟩ | ⟨w1, rfl, rfl⟩ <;> rcases hw2 with ⟨w2, rfl, rfl⟩ | ⟨w2, rfl, rfl⟩ <;> first | exact absurd w1 w2 | exact absurd w2 w1 | rfl) c9

set_option maxHeartbeats 4000000 in
set_option maxRecDepth 100000 in
theorem law_39 {p : Program} {l : Launch} {e : Env} {s : State} {m : MethodId} {below : List Frame} {meth : Method} {c : Code} {b Ls : Nat} {xs : Nat → Int32} {D : va_G} {cI cB : ClassId} {g r : Nat → Nat} {B : BayT} {T : BayT} {Q : BayT} {P : Nat → BayT} {hi : Int32} {tc : Nat} {rf : Nat → Int32} {f : Nat → Int32} {L : Nat → Int32} {ln : Nat} {la : Nat} {ct : Nat} {f1 : Nat → Int32} {f2 : Nat → Int32} {M : MT} {H : Heap} {locs : List Loc} {ls : Array Slot} {i : Nat} (C : lwC p s m meth c b Ls xs D cI cB) (hRel : Rel_ B Q P hi tc rf f L ln la ct M) (hi5 : i + 5 ≤ Ls) (hP : va_P D vwCl (lV_ cI cB g r B B T Q P hi tc rf f L ln la ct f1 f2 M) H) (hD : va_D (lwA s) (lV_ cI cB g r B B T Q P hi tc rf f L ln la ct f1 f2 M)) (hS : va_S (lwA s) s.heap H locs) (hl : lv_has ls 4 [(3, .int (nI i)), (2, .ref (r 0)), (1, .ref (g 0)), (0, .ref b)]) (kk : ∀ (B T Q : BayT) (P : Nat → BayT) (hi : Int32) (tc : Nat) (rf f L : Nat → Int32) (ln la ct : Nat) (f1 f2 : Nat → Int32) (M : MT) (H : Heap) (locs : List Loc) (ls : Array Slot), Rel_ B Q P hi tc rf f L ln la ct M → va_P D vwCl (lV_ cI cB g r B B T Q P hi tc rf f L ln la ct f1 f2 M) H → va_D (lwA s) (lV_ cI cB g r B B T Q P hi tc rf f L ln la ct f1 f2 M) → va_S (lwA s) s.heap H locs → lv_has ls 4 [(3, .int (nI i)), (2, .ref (r 0)), (1, .ref (g 0)), (0, .ref b)] → W p l e room_1 s m #[Value.ref b] below meth c H locs 92 1551 (lw_Z below #[Value.ref b] s) (F0 m 1387 ls [])) : W p l e room_1 s m #[Value.ref b] below meth c H locs 92 1551 (lw_Z below #[Value.ref b] s) (F0 m 1351 ls []) := by
  have hI := hRel.1
  have hn7 := hI.1
  obtain ⟨-, e1, e2, e3, e4, e5, e6, e7, hln, htc, hct, hla, -, -⟩ := id hRel
  subst e1; subst e2; subst e3; subst e4; subst e5; subst e6; subst e7
  refine lv_aload_n C.1 C.2.1 dL_law_1351 rfl (lv_at hl 2 rfl) ?_
  refine lx_restore C hP hD hS gL_law_X4_restore rfl okX4_restore (qX4_restore l D cI cB g (mhi_ M) (mrm_ M) B Q la (mbk_ M) (mrf_ M)  ) (by decide) hl.1 rfl rfl (Nat.le_of_ble_eq_true rfl) dL_law_1352 (fun v1 u1 H locs hw hP hD hS => ?_)
  refine lv_aload_n C.1 C.2.1 dL_law_1355 rfl (lv_at hl 1 rfl) ?_
  refine lm_chg C hP hD hS gL_law_X5_restore rfl okX5_restore (qX5_restore l D cI cB r B M  hI) (by decide) hl.1 rfl rfl (Nat.le_of_ble_eq_true rfl) dL_law_1356 (fun v2 u2 H locs hw2 hP hD hS => ?_)
  refine lv_icmp_eq (tgt := 1387) C.1 C.2.1 dL_law_1359 (by decide) (fun c9 => ?_) (fun c9 => ?_)
  · rcases hw with ⟨w1, rfl, rfl⟩ | ⟨w1, rfl, rfl⟩
    · rcases hw2 with ⟨w2, rfl, rfl⟩ | ⟨w2, rfl, rfl⟩
      · (have q9 := Rel_restore hRel (fun z => by rw [if_pos z] at w1; exact absurd w1 (by decide)); simp only [q9.1] at hP hD; exact kk _ _ _ _ _ _ _ _ _ _ _ _ _ _ _ H locs ls q9.2 hP hD hS hl)
      · exact absurd w1 w2
    · rcases hw2 with ⟨w2, rfl, rfl⟩ | ⟨w2, rfl, rfl⟩
      · exact absurd w2 w1
      · (dsimp only at hP hD; exact kk B T Q P (mhi_ M) (mrm_ M) (rfx_ (mrf_ M) (-3)) (mrw_ M) (mtp_ M) (mtn_ M) la (mbk_ M) f1 f2 (rfm_ M (-3)) H locs ls (Rel_no (-3) hRel) hP hD hS hl)
  · exact absurd (by rcases hw with ⟨w1, rfl, rfl⟩ | ⟨w1, rfl, rfl⟩ <;> rcases hw2 with ⟨w2, rfl, rfl⟩ | ⟨w2, rfl, rfl⟩ <;> first | exact absurd w1 w2 | exact absurd w2 w1 | rfl | (rw [(Rel_restore hRel (fun z => by rw [if_pos z] at w1; exact absurd w1 (by decide))).1])) c9

