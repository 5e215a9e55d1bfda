theorem va_up_id {α : Type} (P : Nat → α) (j : Nat) : va_up P j (P j) = P := by
  funext k; unfold va_up
  by_cases h : k = j
  · rw [if_pos h, h]
  · rw [if_neg h]
theorem row_lt {v a b : Int32} {n N : Nat} (h : f2_ (ob_ v a b) (if N ≤ n then -6 else 0) = 0) : n < N := by
  rw [f2_0] at h
  by_cases z : N ≤ n
  · rw [if_pos z] at h; exact absurd h.2 (by decide)
  · omega
theorem bI_hu {B : BayT} (hI : bI_ B) {a : Int32} (w : nb_ a (nI (sn_ B)) = 0) : bI_ (uq_ B (qt_ B ^^^ ((1 : Int32) <<< (nI (tn_ a) &&& 31)))) := by
  have h7 := hI.1
  obtain ⟨k, hk, rfl⟩ := pl_lt (n := sn_ B) (by omega) (nb_0.mp w)
  rw [tn_n (by omega)]
  exact bI_xq hI hk
theorem bI_is {B : BayT} (hI : bI_ B) {q v : Int32} (w : f2_ (uk_ q 1) (if q = 0 then ob_ v 0 30 else ob_ v 1 5) = 0) : bI_ (uv_ B q v) := by
  rw [f2_0] at w
  unfold uv_
  by_cases z : q = 0
  · rw [if_pos z] at w ⊢; exact bI_ui' hI (ob_0.mp w.2)
  · rw [if_neg z] at w ⊢; exact bI_up hI (ob_0.mp w.2)
set_option maxHeartbeats 1000000 in
set_option maxRecDepth 100000 in
theorem law_0 {p : Program} {l : Launch} {e : Env} {s : State} {m : MethodId} {below : List Frame} {meth : Method} {c : Code} {b Ls : Nat} {xs : Nat → Int32} {D : va_G} {cI cB : ClassId} {g r : Nat → Nat} {B : BayT} {T : BayT} {Q : BayT} {P : Nat → BayT} {hi : Int32} {tc : Nat} {rf : Nat → Int32} {f : Nat → Int32} {L : Nat → Int32} {ln : Nat} {la : Nat} {ct : Nat} {f1 : Nat → Int32} {f2 : Nat → Int32} {M : MT} {H : Heap} {locs : List Loc} {ls : Array Slot} {i : Nat} (C : lwC p s m meth c b Ls xs D cI cB) (hRel : Rel_ B Q P hi tc rf f L ln la ct M) (hi5 : i + 5 ≤ Ls) (hP : va_P D vwCl (lV_ cI cB g r B B T Q P hi tc rf f L ln la ct f1 f2 M) H) (hD : va_D (lwA s) (lV_ cI cB g r B B T Q P hi tc rf f L ln la ct f1 f2 M)) (hS : va_S (lwA s) s.heap H locs) (hl : lv_has ls 4 [(3, .int (nI i)), (2, .ref (r 0)), (1, .ref (g 0)), (0, .ref b)]) (kk : ∀ (B T Q : BayT) (P : Nat → BayT) (hi : Int32) (tc : Nat) (rf f L : Nat → Int32) (ln la ct : Nat) (f1 f2 : Nat → Int32) (M : MT) (H : Heap) (locs : List Loc) (ls : Array Slot), Rel_ B Q P hi tc rf f L ln la ct M → va_P D vwCl (lV_ cI cB g r B B T Q P hi tc rf f L ln la ct f1 f2 M) H → va_D (lwA s) (lV_ cI cB g r B B T Q P hi tc rf f L ln la ct f1 f2 M) → va_S (lwA s) s.heap H locs → lv_has ls 4 [(3, .int (nI i)), (2, .ref (r 0)), (1, .ref (g 0)), (0, .ref b)] → W p l e room_1 s m #[Value.ref b] below meth c H locs 92 1551 (lw_Z below #[Value.ref b] s) (F0 m 1387 ls [])) : W p l e room_1 s m #[Value.ref b] below meth c H locs 92 1551 (lw_Z below #[Value.ref b] s) (F0 m 212 ls []) := by
  have hI := hRel.1
  have hn7 := hI.1
  obtain ⟨-, e1, e2, e3, e4, e5, e6, e7, hln, htc, hct, hla, -, -⟩ := id hRel
  subst e1; subst e2; subst e3; subst e4; subst e5; subst e6; subst e7
  refine lv_aload_n C.1 C.2.1 dL_law_212 rfl (lv_at hl 2 rfl) ?_
  refine l_arg C hS hl 1 (by omega) (by first | rfl | decide) dL_law_213 dL_law_214 dL_law_215 dL_law_216 dL_law_217 ?_
  refine lx_feed C hP hD hS gL_law_X4_feed rfl okX4_feed (qX4_feed l D cI cB g (mhi_ M) (mrm_ M) (mtp_ M) (mtn_ M) (mrf_ M) (xs (i + 1)) hln) (by decide) hl.1 rfl rfl (Nat.le_of_ble_eq_true rfl) dL_law_218 (fun v1 u1 H locs hw hP hD hS => ?_)
  refine lv_aload_n C.1 C.2.1 dL_law_221 rfl (lv_at hl 1 rfl) ?_
  refine l_arg C hS hl 1 (by omega) (by first | rfl | decide) dL_law_222 dL_law_223 dL_law_224 dL_law_225 dL_law_226 ?_
  refine lm_ask C hP hD hS gL_law_X5_feed rfl okX5_feed (qX5_feed l D cI cB r B M (xs (i + 1)) hln) (by decide) hl.1 rfl rfl (Nat.le_of_ble_eq_true rfl) dL_law_227 (fun v2 u2 H locs hw2 hP hD hS => ?_)
  refine lv_icmp_eq (tgt := 1387) C.1 C.2.1 dL_law_230 (by decide) (fun c9 => ?_) (fun c9 => ?_)
  · rcases hw with ⟨w1, rfl, rfl⟩ | ⟨w1, rfl, rfl⟩
    · rcases hw2 with ⟨w2, rfl, rfl⟩ | ⟨w2, rfl, rfl⟩
      · exact kk _ _ _ _ _ _ _ _ _ _ _ _ _ _ _ H locs ls (Rel_feed hRel (row_lt w1)) hP hD hS hl
      · exact absurd w1 w2
    · rcases hw2 with ⟨w2, rfl, rfl⟩ | ⟨w2, rfl, rfl⟩
      · exact absurd w2 w1
      · exact kk _ _ _ _ _ _ _ _ _ _ _ _ _ _ _ H locs ls (Rel_no _ hRel) hP hD hS hl
  · exact absurd (by rcases hw with ⟨w1, rfl, rfl⟩ | ⟨w1, rfl, rfl⟩ <;> rcases hw2 with ⟨w2, rfl, rfl⟩ | ⟨w2, rfl, rfl⟩ <;> first | exact absurd w1 w2 | exact absurd w2 w1 | rfl) c9

set_option maxHeartbeats 1000000 in
set_option maxRecDepth 100000 in
theorem law_1 {p : Program} {l : Launch} {e : Env} {s : State} {m : MethodId} {below : List Frame} {meth : Method} {c : Code} {b Ls : Nat} {xs : Nat → Int32} {D : va_G} {cI cB : ClassId} {g r : Nat → Nat} {B : BayT} {T : BayT} {Q : BayT} {P : Nat → BayT} {hi : Int32} {tc : Nat} {rf : Nat → Int32} {f : Nat → Int32} {L : Nat → Int32} {ln : Nat} {la : Nat} {ct : Nat} {f1 : Nat → Int32} {f2 : Nat → Int32} {M : MT} {H : Heap} {locs : List Loc} {ls : Array Slot} {i : Nat} (C : lwC p s m meth c b Ls xs D cI cB) (hRel : Rel_ B Q P hi tc rf f L ln la ct M) (hi5 : i + 5 ≤ Ls) (hP : va_P D vwCl (lV_ cI cB g r B B T Q P hi tc rf f L ln la ct f1 f2 M) H) (hD : va_D (lwA s) (lV_ cI cB g r B B T Q P hi tc rf f L ln la ct f1 f2 M)) (hS : va_S (lwA s) s.heap H locs) (hl : lv_has ls 4 [(3, .int (nI i)), (2, .ref (r 0)), (1, .ref (g 0)), (0, .ref b)]) (kk : ∀ (B T Q : BayT) (P : Nat → BayT) (hi : Int32) (tc : Nat) (rf f L : Nat → Int32) (ln la ct : Nat) (f1 f2 : Nat → Int32) (M : MT) (H : Heap) (locs : List Loc) (ls : Array Slot), Rel_ B Q P hi tc rf f L ln la ct M → va_P D vwCl (lV_ cI cB g r B B T Q P hi tc rf f L ln la ct f1 f2 M) H → va_D (lwA s) (lV_ cI cB g r B B T Q P hi tc rf f L ln la ct f1 f2 M) → va_S (lwA s) s.heap H locs → lv_has ls 4 [(3, .int (nI i)), (2, .ref (r 0)), (1, .ref (g 0)), (0, .ref b)] → W p l e room_1 s m #[Value.ref b] below meth c H locs 92 1551 (lw_Z below #[Value.ref b] s) (F0 m 1387 ls [])) : W p l e room_1 s m #[Value.ref b] below meth c H locs 92 1551 (lw_Z below #[Value.ref b] s) (F0 m 235 ls []) := by
  have hI := hRel.1
  have hn7 := hI.1
  obtain ⟨-, e1, e2, e3, e4, e5, e6, e7, hln, htc, hct, hla, -, -⟩ := id hRel
  subst e1; subst e2; subst e3; subst e4; subst e5; subst e6; subst e7
  refine lv_aload_n C.1 C.2.1 dL_law_235 rfl (lv_at hl 2 rfl) ?_
  refine lx_bay C hP hD hS gL_law_X4_bay rfl okX4_bay (qX4_bay l D cI cB g (mhi_ M) (mrm_ M) B T (mtp_ M) (mtn_ M) la (mbk_ M)  hn7 hln) (by decide) hl.1 rfl rfl (Nat.le_of_ble_eq_true rfl) dL_law_236 (fun v1 u1 H locs hw hP hD hS => ?_)
  refine lv_aload_n C.1 C.2.1 dL_law_239 rfl (lv_at hl 1 rfl) ?_
  refine lm_chg C hP hD hS gL_law_X5_bay rfl okX5_bay (qX5_bay l D cI cB r B M  hI hln) (by decide) hl.1 rfl rfl (Nat.le_of_ble_eq_true rfl) dL_law_240 (fun v2 u2 H locs hw2 hP hD hS => ?_)
  refine lv_icmp_eq (tgt := 1387) C.1 C.2.1 dL_law_243 (by decide) (fun c9 => ?_) (fun c9 => ?_)
  · obtain ⟨-, w3, w4⟩ := hw
    obtain ⟨-, w5, w6⟩ := hw2
    obtain ⟨t1, c1, b1'⟩ := u1
    obtain ⟨b2, m2⟩ := u2
    replace w3 : c1 = _ := w3; replace w4 : b1' = _ := w4; replace w5 : b2 = _ := w5
    subst w3; subst w4; subst w5
    exact kk _ _ _ _ _ _ _ _ _ _ _ _ _ _ _ H locs ls (Rel_bay hRel w6) hP hD hS hl
  · exact absurd (hw.1.trans hw2.1.symm) c9

set_option maxHeartbeats 1000000 in
set_option maxRecDepth 100000 in
theorem law_2 {p : Program} {l : Launch} {e : Env} {s : State} {m : MethodId} {below : List Frame} {meth : Method} {c : Code} {b Ls : Nat} {xs : Nat → Int32} {D : va_G} {cI cB : ClassId} {g r : Nat → Nat} {B : BayT} {T : BayT} {Q : BayT} {P : Nat → BayT} {hi : Int32} {tc : Nat} {rf : Nat → Int32} {f : Nat → Int32} {L : Nat → Int32} {ln : Nat} {la : Nat} {ct : Nat} {f1 : Nat → Int32} {f2 : Nat → Int32} {M : MT} {H : Heap} {locs : List Loc} {ls : Array Slot} {i : Nat} (C : lwC p s m meth c b Ls xs D cI cB) (hRel : Rel_ B Q P hi tc rf f L ln la ct M) (hi5 : i + 5 ≤ Ls) (hP : va_P D vwCl (lV_ cI cB g r B B T Q P hi tc rf f L ln la ct f1 f2 M) H) (hD : va_D (lwA s) (lV_ cI cB g r B B T Q P hi tc rf f L ln la ct f1 f2 M)) (hS : va_S (lwA s) s.heap H locs) (hl : lv_has ls 4 [(3, .int (nI i)), (2, .ref (r 0)), (1, .ref (g 0)), (0, .ref b)]) (kk : ∀ (B T Q : BayT) (P : Nat → BayT) (hi : Int32) (tc : Nat) (rf f L : Nat → Int32) (ln la ct : Nat) (f1 f2 : Nat → Int32) (M : MT) (H : Heap) (locs : List Loc) (ls : Array Slot), Rel_ B Q P hi tc rf f L ln la ct M → va_P D vwCl (lV_ cI cB g r B B T Q P hi tc rf f L ln la ct f1 f2 M) H → va_D (lwA s) (lV_ cI cB g r B B T Q P hi tc rf f L ln la ct f1 f2 M) → va_S (lwA s) s.heap H locs → lv_has ls 4 [(3, .int (nI i)), (2, .ref (r 0)), (1, .ref (g 0)), (0, .ref b)] → W p l e room_1 s m #[Value.ref b] below meth c H locs 92 1551 (lw_Z below #[Value.ref b] s) (F0 m 1387 ls [])) : W p l e room_1 s m #[Value.ref b] below meth c H locs 92 1551 (lw_Z below #[Value.ref b] s) (F0 m 248 ls []) := by
  have hI := hRel.1
  have hn7 := hI.1
  obtain ⟨-, e1, e2, e3, e4, e5, e6, e7, hln, htc, hct, hla, -, -⟩ := id hRel
  subst e1; subst e2; subst e3; subst e4; subst e5; subst e6; subst e7
  refine lv_aload_n C.1 C.2.1 dL_law_248 rfl (lv_at hl 2 rfl) ?_
  refine l_arg C hS hl 1 (by omega) (by first | rfl | decide) dL_law_249 dL_law_250 dL_law_251 dL_law_252 dL_law_253 ?_
  refine l_arg C hS hl 2 (by omega) (by first | rfl | decide) dL_law_254 dL_law_255 dL_law_256 dL_law_257 dL_law_258 ?_
  refine lx_ask C hP hD hS gL_law_X4_shoreOf rfl okX4_shoreOf (qX4_shoreOf l D cI cB g (mhi_ M) (mrm_ M) B T (mrf_ M) (xs (i + 1)) (xs (i + 2)) hn7) (by decide) hl.1 rfl rfl (Nat.le_of_ble_eq_true rfl) dL_law_259 (fun v1 u1 H locs hw hP hD hS => ?_)
  refine lv_aload_n C.1 C.2.1 dL_law_262 rfl (lv_at hl 1 rfl) ?_
  refine l_arg C hS hl 1 (by omega) (by first | rfl | decide) dL_law_263 dL_law_264 dL_law_265 dL_law_266 dL_law_267 ?_
  refine l_arg C hS hl 2 (by omega) (by first | rfl | decide) dL_law_268 dL_law_269 dL_law_270 dL_law_271 dL_law_272 ?_
  refine lm_ask C hP hD hS gL_law_X5_shoreOf rfl okX5_shoreOf (qX5_shoreOf l D cI cB r B M (xs (i + 1)) (xs (i + 2)) hI) (by decide) hl.1 rfl rfl (Nat.le_of_ble_eq_true rfl) dL_law_273 (fun v2 u2 H locs hw2 hP hD hS => ?_)
  refine lv_icmp_eq (tgt := 1387) C.1 C.2.1 dL_law_276 (by decide) (fun c9 => ?_) (fun c9 => ?_)
  · exact kk _ _ _ _ _ _ _ _ _ _ _ _ _ _ _ H locs ls (Rel_ask hRel hw.2 hw2.2) hP hD hS hl
  · exact absurd (hw.1.trans hw2.1.symm) c9

set_option maxHeartbeats 1000000 in
set_option maxRecDepth 100000 in
theorem law_4 {p : Program} {l : Launch} {e : Env} {s : State} {m : MethodId} {below : List Frame} {meth : Method} {c : Code} {b Ls : Nat} {xs : Nat → Int32} {D : va_G} {cI cB : ClassId} {g r : Nat → Nat} {B : BayT} {T : BayT} {Q : BayT} {P : Nat → BayT} {hi : Int32} {tc : Nat} {rf : Nat → Int32} {f : Nat → Int32} {L : Nat → Int32} {ln : Nat} {la : Nat} {ct : Nat} {f1 : Nat → Int32} {f2 : Nat → Int32} {M : MT} {H : Heap} {locs : List Loc} {ls : Array Slot} {i : Nat} (C : lwC p s m meth c b Ls xs D cI cB) (hRel : Rel_ B Q P hi tc rf f L ln la ct M) (hi5 : i + 5 ≤ Ls) (hP : va_P D vwCl (lV_ cI cB g r B B T Q P hi tc rf f L ln la ct f1 f2 M) H) (hD : va_D (lwA s) (lV_ cI cB g r B B T Q P hi tc rf f L ln la ct f1 f2 M)) (hS : va_S (lwA s) s.heap H locs) (hl : lv_has ls 4 [(3, .int (nI i)), (2, .ref (r 0)), (1, .ref (g 0)), (0, .ref b)]) (kk : ∀ (B T Q : BayT) (P : Nat → BayT) (hi : Int32) (tc : Nat) (rf f L : Nat → Int32) (ln la ct : Nat) (f1 f2 : Nat → Int32) (M : MT) (H : Heap) (locs : List Loc) (ls : Array Slot), Rel_ B Q P hi tc rf f L ln la ct M → va_P D vwCl (lV_ cI cB g r B B T Q P hi tc rf f L ln la ct f1 f2 M) H → va_D (lwA s) (lV_ cI cB g r B B T Q P hi tc rf f L ln la ct f1 f2 M) → va_S (lwA s) s.heap H locs → lv_has ls 4 [(3, .int (nI i)), (2, .ref (r 0)), (1, .ref (g 0)), (0, .ref b)] → W p l e room_1 s m #[Value.ref b] below meth c H locs 92 1551 (lw_Z below #[Value.ref b] s) (F0 m 1387 ls [])) : W p l e room_1 s m #[Value.ref b] below meth c H locs 92 1551 (lw_Z below #[Value.ref b] s) (F0 m 304 ls []) := by
  have hI := hRel.1
  have hn7 := hI.1
  obtain ⟨-, e1, e2, e3, e4, e5, e6, e7, hln, htc, hct, hla, -, -⟩ := id hRel
  subst e1; subst e2; subst e3; subst e4; subst e5; subst e6; subst e7
  refine lv_aload_n C.1 C.2.1 dL_law_304 rfl (lv_at hl 2 rfl) ?_
  refine l_arg C hS hl 1 (by omega) (by first | rfl | decide) dL_law_305 dL_law_306 dL_law_307 dL_law_308 dL_law_309 ?_
  refine l_arg C hS hl 2 (by omega) (by first | rfl | decide) dL_law_310 dL_law_311 dL_law_312 dL_law_313 dL_law_314 ?_
  refine l_arg C hS hl 3 (by omega) (by first | rfl | decide) dL_law_315 dL_law_316 dL_law_317 dL_law_318 dL_law_319 ?_
  refine lx_shore C hP hD hS gL_law_X4_shore rfl okX4_shore (qX4_shore l D cI cB g (mhi_ M) (mrm_ M) B la (mbk_ M) (mrf_ M) (xs (i + 1)) (xs (i + 2)) (xs (i + 3)) hn7) (by decide) hl.1 rfl rfl (Nat.le_of_ble_eq_true rfl) dL_law_320 (fun v1 u1 H locs hw hP hD hS => ?_)
  refine lv_aload_n C.1 C.2.1 dL_law_323 rfl (lv_at hl 1 rfl) ?_
  refine l_arg C hS hl 1 (by omega) (by first | rfl | decide) dL_law_324 dL_law_325 dL_law_326 dL_law_327 dL_law_328 ?_
  refine l_arg C hS hl 2 (by omega) (by first | rfl | decide) dL_law_329 dL_law_330 dL_law_331 dL_law_332 dL_law_333 ?_
  refine l_arg C hS hl 3 (by omega) (by first | rfl | decide) dL_law_334 dL_law_335 dL_law_336 dL_law_337 dL_law_338 ?_
  refine lm_chg C hP hD hS gL_law_X5_shore rfl okX5_shore (qX5_shore l D cI cB r B M (xs (i + 1)) (xs (i + 2)) (xs (i + 3)) hI) (by decide) hl.1 rfl rfl (Nat.le_of_ble_eq_true rfl) dL_law_339 (fun v2 u2 H locs hw2 hP hD hS => ?_)
  refine lv_icmp_eq (tgt := 1387) C.1 C.2.1 dL_law_342 (by decide) (fun c9 => ?_) (fun c9 => ?_)
  · rcases hw with ⟨w1, rfl, rfl⟩ | ⟨w1, rfl, rfl⟩
    · rcases hw2 with ⟨w2, rfl, rfl⟩ | ⟨w2, rfl, rfl⟩
      · exact kk _ _ _ _ _ _ _ _ _ _ _ _ _ _ _ H locs ls (Rel_shore hRel (bI_ad hI (rs_k w1).2.2.1 (rs_k w1).1 (rs_k w1).2.1 (rs_k w1).2.2.2.1 (rs_k w1).2.2.2.2)) hP hD hS hl
      · exact absurd w1 w2
    · rcases hw2 with ⟨w2, rfl, rfl⟩ | ⟨w2, rfl, rfl⟩
      · exact absurd w2 w1
      · exact kk _ _ _ _ _ _ _ _ _ _ _ _ _ _ _ H locs ls (Rel_no _ hRel) hP hD hS hl
  · exact absurd (by rcases hw with ⟨w1, rfl, rfl⟩ | ⟨w1, rfl, rfl⟩ <;> rcases hw2 with ⟨w2, rfl, rfl⟩ | ⟨w2, rfl, rfl⟩ <;> first | exact absurd w1 w2 | exact absurd w2 w1 | rfl) c9

set_option maxHeartbeats 1000000 in
set_option maxRecDepth 100000 in
theorem law_5 {p : Program} {l : Launch} {e : Env} {s : State} {m : MethodId} {below : List Frame} {meth : Method} {c : Code} {b Ls : Nat} {xs : Nat → Int32} {D : va_G} {cI cB : ClassId} {g r : Nat → Nat} {B : BayT} {T : BayT} {Q : BayT} {P : Nat → BayT} {hi : Int32} {tc : Nat} {rf : Nat → Int32} {f : Nat → Int32} {L : Nat → Int32} {ln : Nat} {la : Nat} {ct : Nat} {f1 : Nat → Int32} {f2 : Nat → Int32} {M : MT} {H : Heap} {locs : List Loc} {ls : Array Slot} {i : Nat} (C : lwC p s m meth c b Ls xs D cI cB) (hRel : Rel_ B Q P hi tc rf f L ln la ct M) (hi5 : i + 5 ≤ Ls) (hP : va_P D vwCl (lV_ cI cB g r B B T Q P hi tc rf f L ln la ct f1 f2 M) H) (hD : va_D (lwA s) (lV_ cI cB g r B B T Q P hi tc rf f L ln la ct f1 f2 M)) (hS : va_S (lwA s) s.heap H locs) (hl : lv_has ls 4 [(3, .int (nI i)), (2, .ref (r 0)), (1, .ref (g 0)), (0, .ref b)]) (kk : ∀ (B T Q : BayT) (P : Nat → BayT) (hi : Int32) (tc : Nat) (rf f L : Nat → Int32) (ln la ct : Nat) (f1 f2 : Nat → Int32) (M : MT) (H : Heap) (locs : List Loc) (ls : Array Slot), Rel_ B Q P hi tc rf f L ln la ct M → va_P D vwCl (lV_ cI cB g r B B T Q P hi tc rf f L ln la ct f1 f2 M) H → va_D (lwA s) (lV_ cI cB g r B B T Q P hi tc rf f L ln la ct f1 f2 M) → va_S (lwA s) s.heap H locs → lv_has ls 4 [(3, .int (nI i)), (2, .ref (r 0)), (1, .ref (g 0)), (0, .ref b)] → W p l e room_1 s m #[Value.ref b] below meth c H locs 92 1551 (lw_Z below #[Value.ref b] s) (F0 m 1387 ls [])) : W p l e room_1 s m #[Value.ref b] below meth c H locs 92 1551 (lw_Z below #[Value.ref b] s) (F0 m 347 ls []) := by
  have hI := hRel.1
  have hn7 := hI.1
  obtain ⟨-, e1, e2, e3, e4, e5, e6, e7, hln, htc, hct, hla, -, -⟩ := id hRel
  subst e1; subst e2; subst e3; subst e4; subst e5; subst e6; subst e7
  refine lv_aload_n C.1 C.2.1 dL_law_347 rfl (lv_at hl 2 rfl) ?_
  refine l_arg C hS hl 1 (by omega) (by first | rfl | decide) dL_law_348 dL_law_349 dL_law_350 dL_law_351 dL_law_352 ?_
  refine l_arg C hS hl 2 (by omega) (by first | rfl | decide) dL_law_353 dL_law_354 dL_law_355 dL_law_356 dL_law_357 ?_
  refine lx_keep C hP hD hS gL_law_X4_powders rfl okX4_powders (qX4_powders l D cI cB g (mhi_ M) (mrm_ M) B la (mbk_ M) ((la + 1) % 8) (P ((la + 1) % 8)) (mrf_ M) (xs (i + 1)) (xs (i + 2)) hn7 hla hct rfl) (by omega) (by decide) hl.1 rfl rfl (Nat.le_of_ble_eq_true rfl) dL_law_358 (fun v1 u1 H locs hw hP hD hS => ?_)
  refine lv_aload_n C.1 C.2.1 dL_law_361 rfl (lv_at hl 1 rfl) ?_
  refine l_arg C hS hl 1 (by omega) (by first | rfl | decide) dL_law_362 dL_law_363 dL_law_364 dL_law_365 dL_law_366 ?_
  refine l_arg C hS hl 2 (by omega) (by first | rfl | decide) dL_law_367 dL_law_368 dL_law_369 dL_law_370 dL_law_371 ?_
  refine lm_chg C hP hD hS gL_law_X5_powders rfl okX5_powders (qX5_powders l D cI cB r B M (xs (i + 1)) (xs (i + 2)) hI hct) (by decide) hl.1 rfl rfl (Nat.le_of_ble_eq_true rfl) dL_law_372 (fun v2 u2 H locs hw2 hP hD hS => ?_)
  refine lv_icmp_eq (tgt := 1387) C.1 C.2.1 dL_law_375 (by decide) (fun c9 => ?_) (fun c9 => ?_)
  · rcases hw with ⟨w1, rfl, rfl⟩ | ⟨w1, rfl, rfl⟩
    · rcases hw2 with ⟨w2, rfl, rfl⟩ | ⟨w2, rfl, rfl⟩
      · exact kk _ _ _ _ _ _ _ _ _ _ _ _ _ _ _ H locs ls (Rel_keep hRel (bI_uw hI (ob_0.mp (f2_0.mp w1).2)) rfl) hP hD hS hl
      · exact absurd w1 w2
    · rcases hw2 with ⟨w2, rfl, rfl⟩ | ⟨w2, rfl, rfl⟩
      · exact absurd w2 w1
      · (rw [va_up_id] at hP hD; exact kk _ _ _ _ _ _ _ _ _ _ _ _ _ _ _ H locs ls (Rel_no _ hRel) hP hD hS hl)
  · exact absurd (by rcases hw with ⟨w1, rfl, rfl⟩ | ⟨w1, rfl, rfl⟩ <;> rcases hw2 with ⟨w2, rfl, rfl⟩ | ⟨w2, rfl, rfl⟩ <;> first | exact absurd w1 w2 | exact absurd w2 w1 | rfl) c9

set_option maxHeartbeats 1000000 in
set_option maxRecDepth 100000 in
theorem law_6 {p : Program} {l : Launch} {e : Env} {s : State} {m : MethodId} {below : List Frame} {meth : Method} {c : Code} {b Ls : Nat} {xs : Nat → Int32} {D : va_G} {cI cB : ClassId} {g r : Nat → Nat} {B : BayT} {T : BayT} {Q : BayT} {P : Nat → BayT} {hi : Int32} {tc : Nat} {rf : Nat → Int32} {f : Nat → Int32} {L : Nat → Int32} {ln : Nat} {la : Nat} {ct : Nat} {f1 : Nat → Int32} {f2 : Nat → Int32} {M : MT} {H : Heap} {locs : List Loc} {ls : Array Slot} {i : Nat} (C : lwC p s m meth c b Ls xs D cI cB) (hRel : Rel_ B Q P hi tc rf f L ln la ct M) (hi5 : i + 5 ≤ Ls) (hP : va_P D vwCl (lV_ cI cB g r B B T Q P hi tc rf f L ln la ct f1 f2 M) H) (hD : va_D (lwA s) (lV_ cI cB g r B B T Q P hi tc rf f L ln la ct f1 f2 M)) (hS : va_S (lwA s) s.heap H locs) (hl : lv_has ls 4 [(3, .int (nI i)), (2, .ref (r 0)), (1, .ref (g 0)), (0, .ref b)]) (kk : ∀ (B T Q : BayT) (P : Nat → BayT) (hi : Int32) (tc : Nat) (rf f L : Nat → Int32) (ln la ct : Nat) (f1 f2 : Nat → Int32) (M : MT) (H : Heap) (locs : List Loc) (ls : Array Slot), Rel_ B Q P hi tc rf f L ln la ct M → va_P D vwCl (lV_ cI cB g r B B T Q P hi tc rf f L ln la ct f1 f2 M) H → va_D (lwA s) (lV_ cI cB g r B B T Q P hi tc rf f L ln la ct f1 f2 M) → va_S (lwA s) s.heap H locs → lv_has ls 4 [(3, .int (nI i)), (2, .ref (r 0)), (1, .ref (g 0)), (0, .ref b)] → W p l e room_1 s m #[Value.ref b] below meth c H locs 92 1551 (lw_Z below #[Value.ref b] s) (F0 m 1387 ls [])) : W p l e room_1 s m #[Value.ref b] below meth c H locs 92 1551 (lw_Z below #[Value.ref b] s) (F0 m 380 ls []) := by
  have hI := hRel.1
  have hn7 := hI.1
  obtain ⟨-, e1, e2, e3, e4, e5, e6, e7, hln, htc, hct, hla, -, -⟩ := id hRel
  subst e1; subst e2; subst e3; subst e4; subst e5; subst e6; subst e7
  refine lv_aload_n C.1 C.2.1 dL_law_380 rfl (lv_at hl 2 rfl) ?_
  refine l_arg C hS hl 1 (by omega) (by first | rfl | decide) dL_law_381 dL_law_382 dL_law_383 dL_law_384 dL_law_385 ?_
  refine lx_keep C hP hD hS gL_law_X4_hushes rfl okX4_hushes (qX4_hushes l D cI cB g (mhi_ M) (mrm_ M) B la (mbk_ M) ((la + 1) % 8) (P ((la + 1) % 8)) (mrf_ M) (xs (i + 1)) hn7 hla hct rfl) (by omega) (by decide) hl.1 rfl rfl (Nat.le_of_ble_eq_true rfl) dL_law_386 (fun v1 u1 H locs hw hP hD hS => ?_)
  refine lv_aload_n C.1 C.2.1 dL_law_389 rfl (lv_at hl 1 rfl) ?_
  refine l_arg C hS hl 1 (by omega) (by first | rfl | decide) dL_law_390 dL_law_391 dL_law_392 dL_law_393 dL_law_394 ?_
  refine lm_chg C hP hD hS gL_law_X5_hushes rfl okX5_hushes (qX5_hushes l D cI cB r B M (xs (i + 1)) hI hct) (by decide) hl.1 rfl rfl (Nat.le_of_ble_eq_true rfl) dL_law_395 (fun v2 u2 H locs hw2 hP hD hS => ?_)
  refine lv_icmp_eq (tgt := 1387) C.1 C.2.1 dL_law_398 (by decide) (fun c9 => ?_) (fun c9 => ?_)
  · rcases hw with ⟨w1, rfl, rfl⟩ | ⟨w1, rfl, rfl⟩
    · rcases hw2 with ⟨w2, rfl, rfl⟩ | ⟨w2, rfl, rfl⟩
      · exact kk _ _ _ _ _ _ _ _ _ _ _ _ _ _ _ H locs ls (Rel_keep hRel (bI_hu hI w1) rfl) hP hD hS hl
      · exact absurd w1 w2
    · rcases hw2 with ⟨w2, rfl, rfl⟩ | ⟨w2, rfl, rfl⟩
      · exact absurd w2 w1
      · (rw [va_up_id] at hP hD; exact kk _ _ _ _ _ _ _ _ _ _ _ _ _ _ _ H locs ls (Rel_no _ hRel) hP hD hS hl)
  · exact absurd (by rcases hw with ⟨w1, rfl, rfl⟩ | ⟨w1, rfl, rfl⟩ <;> rcases hw2 with ⟨w2, rfl, rfl⟩ | ⟨w2, rfl, rfl⟩ <;> first | exact absurd w1 w2 | exact absurd w2 w1 | rfl) c9

set_option maxHeartbeats 1000000 in
set_option maxRecDepth 100000 in
theorem law_7 {p : Program} {l : Launch} {e : Env} {s : State} {m : MethodId} {below : List Frame} {meth : Method} {c : Code} {b Ls : Nat} {xs : Nat → Int32} {D : va_G} {cI cB : ClassId} {g r : Nat → Nat} {B : BayT} {T : BayT} {Q : BayT} {P : Nat → BayT} {hi : Int32} {tc : Nat} {rf : Nat → Int32} {f : Nat → Int32} {L : Nat → Int32} {ln : Nat} {la : Nat} {ct : Nat} {f1 : Nat → Int32} {f2 : Nat → Int32} {M : MT} {H : Heap} {locs : List Loc} {ls : Array Slot} {i : Nat} (C : lwC p s m meth c b Ls xs D cI cB) (hRel : Rel_ B Q P hi tc rf f L ln la ct M) (hi5 : i + 5 ≤ Ls) (hP : va_P D vwCl (lV_ cI cB g r B B T Q P hi tc rf f L ln la ct f1 f2 M) H) (hD : va_D (lwA s) (lV_ cI cB g r B B T Q P hi tc rf f L ln la ct f1 f2 M)) (hS : va_S (lwA s) s.heap H locs) (hl : lv_has ls 4 [(3, .int (nI i)), (2, .ref (r 0)), (1, .ref (g 0)), (0, .ref b)]) (kk : ∀ (B T Q : BayT) (P : Nat → BayT) (hi : Int32) (tc : Nat) (rf f L : Nat → Int32) (ln la ct : Nat) (f1 f2 : Nat → Int32) (M : MT) (H : Heap) (locs : List Loc) (ls : Array Slot), Rel_ B Q P hi tc rf f L ln la ct M → va_P D vwCl (lV_ cI cB g r B B T Q P hi tc rf f L ln la ct f1 f2 M) H → va_D (lwA s) (lV_ cI cB g r B B T Q P hi tc rf f L ln la ct f1 f2 M) → va_S (lwA s) s.heap H locs → lv_has ls 4 [(3, .int (nI i)), (2, .ref (r 0)), (1, .ref (g 0)), (0, .ref b)] → W p l e room_1 s m #[Value.ref b] below meth c H locs 92 1551 (lw_Z below #[Value.ref b] s) (F0 m 1387 ls [])) : W p l e room_1 s m #[Value.ref b] below meth c H locs 92 1551 (lw_Z below #[Value.ref b] s) (F0 m 403 ls []) := by
  have hI := hRel.1
  have hn7 := hI.1
  obtain ⟨-, e1, e2, e3, e4, e5, e6, e7, hln, htc, hct, hla, -, -⟩ := id hRel
  subst e1; subst e2; subst e3; subst e4; subst e5; subst e6; subst e7
  refine lv_aload_n C.1 C.2.1 dL_law_403 rfl (lv_at hl 2 rfl) ?_
  refine l_arg C hS hl 1 (by omega) (by first | rfl | decide) dL_law_404 dL_law_405 dL_law_406 dL_law_407 dL_law_408 ?_
  refine l_arg C hS hl 2 (by omega) (by first | rfl | decide) dL_law_409 dL_law_410 dL_law_411 dL_law_412 dL_law_413 ?_
  refine lx_keep C hP hD hS gL_law_X4_isle rfl okX4_isle (qX4_isle l D cI cB g (mhi_ M) (mrm_ M) B la (mbk_ M) ((la + 1) % 8) (P ((la + 1) % 8)) (mrf_ M) (xs (i + 1)) (xs (i + 2)) hn7 hla hct rfl) (by omega) (by decide) hl.1 rfl rfl (Nat.le_of_ble_eq_true rfl) dL_law_414 (fun v1 u1 H locs hw hP hD hS => ?_)
  refine lv_aload_n C.1 C.2.1 dL_law_417 rfl (lv_at hl 1 rfl) ?_
  refine l_arg C hS hl 1 (by omega) (by first | rfl | decide) dL_law_418 dL_law_419 dL_law_420 dL_law_421 dL_law_422 ?_
  refine l_arg C hS hl 2 (by omega) (by first | rfl | decide) dL_law_423 dL_law_424 dL_law_425 dL_law_426 dL_law_427 ?_
  refine lm_chg C hP hD hS gL_law_X5_isle rfl okX5_isle (qX5_isle l D cI cB r B M (xs (i + 1)) (xs (i + 2)) hI hct) (by decide) hl.1 rfl rfl (Nat.le_of_ble_eq_true rfl) dL_law_428 (fun v2 u2 H locs hw2 hP hD hS => ?_)
  refine lv_icmp_eq (tgt := 1387) C.1 C.2.1 dL_law_431 (by decide) (fun c9 => ?_) (fun c9 => ?_)
  · rcases hw with ⟨w1, rfl, rfl⟩ | ⟨w1, rfl, rfl⟩
    · rcases hw2 with ⟨w2, rfl, rfl⟩ | ⟨w2, rfl, rfl⟩
      · exact kk _ _ _ _ _ _ _ _ _ _ _ _ _ _ _ H locs ls (Rel_keep hRel (bI_is hI w1) rfl) hP hD hS hl
      · exact absurd w1 w2
    · rcases hw2 with ⟨w2, rfl, rfl⟩ | ⟨w2, rfl, rfl⟩
      · exact absurd w2 w1
      · (rw [va_up_id] at hP hD; exact kk _ _ _ _ _ _ _ _ _ _ _ _ _ _ _ H locs ls (Rel_no _ hRel) hP hD hS hl)
  · exact absurd (by rcases hw with ⟨w1, rfl, rfl⟩ | ⟨w1, rfl, rfl⟩ <;> rcases hw2 with ⟨w2, rfl, rfl⟩ | ⟨w2, rfl, rfl⟩ <;> first | exact absurd w1 w2 | exact absurd w2 w1 | rfl) c9

set_option maxHeartbeats 1000000 in
set_option maxRecDepth 100000 in
theorem law_8 {p : Program} {l : Launch} {e : Env} {s : State} {m : MethodId} {below : List Frame} {meth : Method} {c : Code} {b Ls : Nat} {xs : Nat → Int32} {D : va_G} {cI cB : ClassId} {g r : Nat → Nat} {B : BayT} {T : BayT} {Q : BayT} {P : Nat → BayT} {hi : Int32} {tc : Nat} {rf : Nat → Int32} {f : Nat → Int32} {L : Nat → Int32} {ln : Nat} {la : Nat} {ct : Nat} {f1 : Nat → Int32} {f2 : Nat → Int32} {M : MT} {H : Heap} {locs : List Loc} {ls : Array Slot} {i : Nat} (C : lwC p s m meth c b Ls xs D cI cB) (hRel : Rel_ B Q P hi tc rf f L ln la ct M) (hi5 : i + 5 ≤ Ls) (hP : va_P D vwCl (lV_ cI cB g r B B T Q P hi tc rf f L ln la ct f1 f2 M) H) (hD : va_D (lwA s) (lV_ cI cB g r B B T Q P hi tc rf f L ln la ct f1 f2 M)) (hS : va_S (lwA s) s.heap H locs) (hl : lv_has ls 4 [(3, .int (nI i)), (2, .ref (r 0)), (1, .ref (g 0)), (0, .ref b)]) (kk : ∀ (B T Q : BayT) (P : Nat → BayT) (hi : Int32) (tc : Nat) (rf f L : Nat → Int32) (ln la ct : Nat) (f1 f2 : Nat → Int32) (M : MT) (H : Heap) (locs : List Loc) (ls : Array Slot), Rel_ B Q P hi tc rf f L ln la ct M → va_P D vwCl (lV_ cI cB g r B B T Q P hi tc rf f L ln la ct f1 f2 M) H → va_D (lwA s) (lV_ cI cB g r B B T Q P hi tc rf f L ln la ct f1 f2 M) → va_S (lwA s) s.heap H locs → lv_has ls 4 [(3, .int (nI i)), (2, .ref (r 0)), (1, .ref (g 0)), (0, .ref b)] → W p l e room_1 s m #[Value.ref b] below meth c H locs 92 1551 (lw_Z below #[Value.ref b] s) (F0 m 1387 ls [])) : W p l e room_1 s m #[Value.ref b] below meth c H locs 92 1551 (lw_Z below #[Value.ref b] s) (F0 m 436 ls []) := by
  have hI := hRel.1
  have hn7 := hI.1
  obtain ⟨-, e1, e2, e3, e4, e5, e6, e7, hln, htc, hct, hla, -, -⟩ := id hRel
  subst e1; subst e2; subst e3; subst e4; subst e5; subst e6; subst e7
  refine lv_aload_n C.1 C.2.1 dL_law_436 rfl (lv_at hl 2 rfl) ?_
  refine l_arg C hS hl 1 (by omega) (by first | rfl | decide) dL_law_437 dL_law_438 dL_law_439 dL_law_440 dL_law_441 ?_
  refine lx_keep C hP hD hS gL_law_X4_hours rfl okX4_hours (qX4_hours l D cI cB g (mhi_ M) (mrm_ M) B la (mbk_ M) ((la + 1) % 8) (P ((la + 1) % 8)) (mrf_ M) (xs (i + 1)) hn7 hla hct rfl) (by omega) (by decide) hl.1 rfl rfl (Nat.le_of_ble_eq_true rfl) dL_law_442 (fun v1 u1 H locs hw hP hD hS => ?_)
  refine lv_aload_n C.1 C.2.1 dL_law_445 rfl (lv_at hl 1 rfl) ?_
  refine l_arg C hS hl 1 (by omega) (by first | rfl | decide) dL_law_446 dL_law_447 dL_law_448 dL_law_449 dL_law_450 ?_
  refine lm_chg C hP hD hS gL_law_X5_hours rfl okX5_hours (qX5_hours l D cI cB r B M (xs (i + 1)) hI hct) (by decide) hl.1 rfl rfl (Nat.le_of_ble_eq_true rfl) dL_law_451 (fun v2 u2 H locs hw2 hP hD hS => ?_)
  refine lv_icmp_eq (tgt := 1387) C.1 C.2.1 dL_law_454 (by decide) (fun c9 => ?_) (fun c9 => ?_)
  · rcases hw with ⟨w1, rfl, rfl⟩ | ⟨w1, rfl, rfl⟩
    · rcases hw2 with ⟨w2, rfl, rfl⟩ | ⟨w2, rfl, rfl⟩
      · exact kk _ _ _ _ _ _ _ _ _ _ _ _ _ _ _ H locs ls (Rel_keep hRel (bI_hs hI _) rfl) hP hD hS hl
      · exact absurd w1 w2
    · rcases hw2 with ⟨w2, rfl, rfl⟩ | ⟨w2, rfl, rfl⟩
      · exact absurd w2 w1
      · (rw [va_up_id] at hP hD; exact kk _ _ _ _ _ _ _ _ _ _ _ _ _ _ _ H locs ls (Rel_no _ hRel) hP hD hS hl)
  · exact absurd (by rcases hw with ⟨w1, rfl, rfl⟩ | ⟨w1, rfl, rfl⟩ <;> rcases hw2 with ⟨w2, rfl, rfl⟩ | ⟨w2, rfl, rfl⟩ <;> first | exact absurd w1 w2 | exact absurd w2 w1 | rfl) c9

set_option maxHeartbeats 1000000 in
set_option maxRecDepth 100000 in
theorem law_23 {p : Program} {l : Launch} {e : Env} {s : State} {m : MethodId} {below : List Frame} {meth : Method} {c : Code} {b Ls : Nat} {xs : Nat → Int32} {D : va_G} {cI cB : ClassId} {g r : Nat → Nat} {B : BayT} {T : BayT} {Q : BayT} {P : Nat → BayT} {hi : Int32} {tc : Nat} {rf : Nat → Int32} {f : Nat → Int32} {L : Nat → Int32} {ln : Nat} {la : Nat} {ct : Nat} {f1 : Nat → Int32} {f2 : Nat → Int32} {M : MT} {H : Heap} {locs : List Loc} {ls : Array Slot} {i : Nat} (C : lwC p s m meth c b Ls xs D cI cB) (hRel : Rel_ B Q P hi tc rf f L ln la ct M) (hi5 : i + 5 ≤ Ls) (hP : va_P D vwCl (lV_ cI cB g r B B T Q P hi tc rf f L ln la ct f1 f2 M) H) (hD : va_D (lwA s) (lV_ cI cB g r B B T Q P hi tc rf f L ln la ct f1 f2 M)) (hS : va_S (lwA s) s.heap H locs) (hl : lv_has ls 4 [(3, .int (nI i)), (2, .ref (r 0)), (1, .ref (g 0)), (0, .ref b)]) (kk : ∀ (B T Q : BayT) (P : Nat → BayT) (hi : Int32) (tc : Nat) (rf f L : Nat → Int32) (ln la ct : Nat) (f1 f2 : Nat → Int32) (M : MT) (H : Heap) (locs : List Loc) (ls : Array Slot), Rel_ B Q P hi tc rf f L ln la ct M → va_P D vwCl (lV_ cI cB g r B B T Q P hi tc rf f L ln la ct f1 f2 M) H → va_D (lwA s) (lV_ cI cB g r B B T Q P hi tc rf f L ln la ct f1 f2 M) → va_S (lwA s) s.heap H locs → lv_has ls 4 [(3, .int (nI i)), (2, .ref (r 0)), (1, .ref (g 0)), (0, .ref b)] → W p l e room_1 s m #[Value.ref b] below meth c H locs 92 1551 (lw_Z below #[Value.ref b] s) (F0 m 1387 ls [])) : W p l e room_1 s m #[Value.ref b] below meth c H locs 92 1551 (lw_Z below #[Value.ref b] s) (F0 m 921 ls []) := by
  have hI := hRel.1
  have hn7 := hI.1
  obtain ⟨-, e1, e2, e3, e4, e5, e6, e7, hln, htc, hct, hla, -, -⟩ := id hRel
  subst e1; subst e2; subst e3; subst e4; subst e5; subst e6; subst e7
  refine lv_aload_n C.1 C.2.1 dL_law_921 rfl (lv_at hl 2 rfl) ?_
  refine l_arg C hS hl 1 (by omega) (by first | rfl | decide) dL_law_922 dL_law_923 dL_law_924 dL_law_925 dL_law_926 ?_
  refine l_arg C hS hl 2 (by omega) (by first | rfl | decide) dL_law_927 dL_law_928 dL_law_929 dL_law_930 dL_law_931 ?_
  refine lx_which C hP hD hS gL_law_X4_which rfl okX4_which (qX4_which l D cI cB g (mhi_ M) (mrm_ M) B T (mrf_ M) (mrw_ M) (xs (i + 1)) (xs (i + 2)) hn7 htc) (by decide) hl.1 rfl rfl (Nat.le_of_ble_eq_true rfl) dL_law_932 (fun v1 u1 H locs hw hP hD hS => ?_)
  refine lv_aload_n C.1 C.2.1 dL_law_935 rfl (lv_at hl 1 rfl) ?_
  refine l_arg C hS hl 1 (by omega) (by first | rfl | decide) dL_law_936 dL_law_937 dL_law_938 dL_law_939 dL_law_940 ?_
  refine l_arg C hS hl 2 (by omega) (by first | rfl | decide) dL_law_941 dL_law_942 dL_law_943 dL_law_944 dL_law_945 ?_
  refine lm_ask C hP hD hS gL_law_X5_which rfl okX5_which (qX5_which l D cI cB r B M (xs (i + 1)) (xs (i + 2)) hI htc) (by decide) hl.1 rfl rfl (Nat.le_of_ble_eq_true rfl) dL_law_946 (fun v2 u2 H locs hw2 hP hD hS => ?_)
  refine lv_icmp_eq (tgt := 1387) C.1 C.2.1 dL_law_949 (by decide) (fun c9 => ?_) (fun c9 => ?_)
  · exact kk _ _ _ _ _ _ _ _ _ _ _ _ _ _ _ H locs ls (Rel_ask hRel hw.2 hw2.2) hP hD hS hl
  · exact absurd (hw.1.trans hw2.1.symm) c9

set_option maxHeartbeats 1000000 in
set_option maxRecDepth 100000 in
theorem law_24 {p : Program} {l : Launch} {e : Env} {s : State} {m : MethodId} {below : List Frame} {meth : Method} {c : Code} {b Ls : Nat} {xs : Nat → Int32} {D : va_G} {cI cB : ClassId} {g r : Nat → Nat} {B : BayT} {T : BayT} {Q : BayT} {P : Nat → BayT} {hi : Int32} {tc : Nat} {rf : Nat → Int32} {f : Nat → Int32} {L : Nat → Int32} {ln : Nat} {la : Nat} {ct : Nat} {f1 : Nat → Int32} {f2 : Nat → Int32} {M : MT} {H : Heap} {locs : List Loc} {ls : Array Slot} {i : Nat} (C : lwC p s m meth c b Ls xs D cI cB) (hRel : Rel_ B Q P hi tc rf f L ln la ct M) (hi5 : i + 5 ≤ Ls) (hP : va_P D vwCl (lV_ cI cB g r B B T Q P hi tc rf f L ln la ct f1 f2 M) H) (hD : va_D (lwA s) (lV_ cI cB g r B B T Q P hi tc rf f L ln la ct f1 f2 M)) (hS : va_S (lwA s) s.heap H locs) (hl : lv_has ls 4 [(3, .int (nI i)), (2, .ref (r 0)), (1, .ref (g 0)), (0, .ref b)]) (kk : ∀ (B T Q : BayT) (P : Nat → BayT) (hi : Int32) (tc : Nat) (rf f L : Nat → Int32) (ln la ct : Nat) (f1 f2 : Nat → Int32) (M : MT) (H : Heap) (locs : List Loc) (ls : Array Slot), Rel_ B Q P hi tc rf f L ln la ct M → va_P D vwCl (lV_ cI cB g r B B T Q P hi tc rf f L ln la ct f1 f2 M) H → va_D (lwA s) (lV_ cI cB g r B B T Q P hi tc rf f L ln la ct f1 f2 M) → va_S (lwA s) s.heap H locs → lv_has ls 4 [(3, .int (nI i)), (2, .ref (r 0)), (1, .ref (g 0)), (0, .ref b)] → W p l e room_1 s m #[Value.ref b] below meth c H locs 92 1551 (lw_Z below #[Value.ref b] s) (F0 m 1387 ls [])) : W p l e room_1 s m #[Value.ref b] below meth c H locs 92 1551 (lw_Z below #[Value.ref b] s) (F0 m 954 ls []) := by
  have hI := hRel.1
  have hn7 := hI.1
  obtain ⟨-, e1, e2, e3, e4, e5, e6, e7, hln, htc, hct, hla, -, -⟩ := id hRel
  subst e1; subst e2; subst e3; subst e4; subst e5; subst e6; subst e7
  refine lv_aload_n C.1 C.2.1 dL_law_954 rfl (lv_at hl 2 rfl) ?_
  refine l_arg C hS hl 1 (by omega) (by first | rfl | decide) dL_law_955 dL_law_956 dL_law_957 dL_law_958 dL_law_959 ?_
  refine l_arg C hS hl 2 (by omega) (by first | rfl | decide) dL_law_960 dL_law_961 dL_law_962 dL_law_963 dL_law_964 ?_
  refine l_arg C hS hl 3 (by omega) (by first | rfl | decide) dL_law_965 dL_law_966 dL_law_967 dL_law_968 dL_law_969 ?_
  refine lx_treaty C hP hD hS gL_law_X4_treaty rfl okX4_treaty (qX4_treaty l D cI cB g (mhi_ M) (mrm_ M) B T (mrf_ M) f1 f2 (xs (i + 1)) (xs (i + 2)) (xs (i + 3)) hn7) (by decide) hl.1 rfl rfl (Nat.le_of_ble_eq_true rfl) dL_law_970 (fun v1 u1 H locs hw hP hD hS => ?_)
  refine lv_aload_n C.1 C.2.1 dL_law_973 rfl (lv_at hl 1 rfl) ?_
  refine l_arg C hS hl 1 (by omega) (by first | rfl | decide) dL_law_974 dL_law_975 dL_law_976 dL_law_977 dL_law_978 ?_
  refine l_arg C hS hl 2 (by omega) (by first | rfl | decide) dL_law_979 dL_law_980 dL_law_981 dL_law_982 dL_law_983 ?_
  refine l_arg C hS hl 3 (by omega) (by first | rfl | decide) dL_law_984 dL_law_985 dL_law_986 dL_law_987 dL_law_988 ?_
  refine lm_ask C hP hD hS gL_law_X5_treaty rfl okX5_treaty (qX5_treaty l D cI cB r B M (xs (i + 1)) (xs (i + 2)) (xs (i + 3)) hI) (by decide) hl.1 rfl rfl (Nat.le_of_ble_eq_true rfl) dL_law_989 (fun v2 u2 H locs hw2 hP hD hS => ?_)
  refine lv_icmp_eq (tgt := 1387) C.1 C.2.1 dL_law_992 (by decide) (fun c9 => ?_) (fun c9 => ?_)
  · exact kk _ _ _ _ _ _ _ _ _ _ _ _ _ _ _ H locs ls (Rel_ask hRel hw.2 hw2.2) hP hD hS hl
  · exact absurd (hw.1.trans hw2.1.symm) c9

set_option maxHeartbeats 1000000 in
set_option maxRecDepth 100000 in
theorem law_29 {p : Program} {l : Launch} {e : Env} {s : State} {m : MethodId} {below : List Frame} {meth : Method} {c : Code} {b Ls : Nat} {xs : Nat → Int32} {D : va_G} {cI cB : ClassId} {g r : Nat → Nat} {B : BayT} {T : BayT} {Q : BayT} {P : Nat → BayT} {hi : Int32} {tc : Nat} {rf : Nat → Int32} {f : Nat → Int32} {L : Nat → Int32} {ln : Nat} {la : Nat} {ct : Nat} {f1 : Nat → Int32} {f2 : Nat → Int32} {M : MT} {H : Heap} {locs : List Loc} {ls : Array Slot} {i : Nat} (C : lwC p s m meth c b Ls xs D cI cB) (hRel : Rel_ B Q P hi tc rf f L ln la ct M) (hi5 : i + 5 ≤ Ls) (hP : va_P D vwCl (lV_ cI cB g r B B T Q P hi tc rf f L ln la ct f1 f2 M) H) (hD : va_D (lwA s) (lV_ cI cB g r B B T Q P hi tc rf f L ln la ct f1 f2 M)) (hS : va_S (lwA s) s.heap H locs) (hl : lv_has ls 4 [(3, .int (nI i)), (2, .ref (r 0)), (1, .ref (g 0)), (0, .ref b)]) (kk : ∀ (B T Q : BayT) (P : Nat → BayT) (hi : Int32) (tc : Nat) (rf f L : Nat → Int32) (ln la ct : Nat) (f1 f2 : Nat → Int32) (M : MT) (H : Heap) (locs : List Loc) (ls : Array Slot), Rel_ B Q P hi tc rf f L ln la ct M → va_P D vwCl (lV_ cI cB g r B B T Q P hi tc rf f L ln la ct f1 f2 M) H → va_D (lwA s) (lV_ cI cB g r B B T Q P hi tc rf f L ln la ct f1 f2 M) → va_S (lwA s) s.heap H locs → lv_has ls 4 [(3, .int (nI i)), (2, .ref (r 0)), (1, .ref (g 0)), (0, .ref b)] → W p l e room_1 s m #[Value.ref b] below meth c H locs 92 1551 (lw_Z below #[Value.ref b] s) (F0 m 1387 ls [])) : W p l e room_1 s m #[Value.ref b] below meth c H locs 92 1551 (lw_Z below #[Value.ref b] s) (F0 m 1120 ls []) := by
  have hI := hRel.1
  have hn7 := hI.1
  obtain ⟨-, e1, e2, e3, e4, e5, e6, e7, hln, htc, hct, hla, -, -⟩ := id hRel
  subst e1; subst e2; subst e3; subst e4; subst e5; subst e6; subst e7
  refine lv_aload_n C.1 C.2.1 dL_law_1120 rfl (lv_at hl 2 rfl) ?_
  refine l_arg C hS hl 1 (by omega) (by first | rfl | decide) dL_law_1121 dL_law_1122 dL_law_1123 dL_law_1124 dL_law_1125 ?_
  refine lx_askL C hP hD hS gL_law_X4_mean rfl okX4_mean (qX4_mean l D cI cB g (mhi_ M) (mrm_ M) B T (mrf_ M) (xs (i + 1)) hn7) (by decide) hl.1 rfl rfl (Nat.le_of_ble_eq_true rfl) dL_law_1126 (fun v1 u1 H locs hw hP hD hS => ?_)
  refine lv_aload_n C.1 C.2.1 dL_law_1129 rfl (lv_at hl 1 rfl) ?_
  refine l_arg C hS hl 1 (by omega) (by first | rfl | decide) dL_law_1130 dL_law_1131 dL_law_1132 dL_law_1133 dL_law_1134 ?_
  refine lm_askL C hP hD hS gL_law_X5_mean rfl okX5_mean (qX5_mean l D cI cB r B M (xs (i + 1)) hI) (by decide) hl.1 rfl rfl (Nat.le_of_ble_eq_true rfl) dL_law_1135 (fun v2 u2 H locs hw2 hP hD hS => ?_)
  refine W.lcmp C.1 C.2.1 dL_law_1138 ?_
  refine lv_if_eq (tgt := 1387) C.1 C.2.1 dL_law_1139 (by decide) (fun c9 => ?_) (fun c9 => ?_)
  · exact kk _ _ _ _ _ _ _ _ _ _ _ _ _ _ _ H locs ls (Rel_ask hRel hw.2 hw2.2) hP hD hS hl
  · exact absurd ((lg_cmp_eq _ _).mpr (hw.1.trans hw2.1.symm)) c9

set_option maxHeartbeats 1000000 in
set_option maxRecDepth 100000 in
theorem law_34 {p : Program} {l : Launch} {e : Env} {s : State} {m : MethodId} {below : List Frame} {meth : Method} {c : Code} {b Ls : Nat} {xs : Nat → Int32} {D : va_G} {cI cB : ClassId} {g r : Nat → Nat} {B : BayT} {T : BayT} {Q : BayT} {P : Nat → BayT} {hi : Int32} {tc : Nat} {rf : Nat → Int32} {f : Nat → Int32} {L : Nat → Int32} {ln : Nat} {la : Nat} {ct : Nat} {f1 : Nat → Int32} {f2 : Nat → Int32} {M : MT} {H : Heap} {locs : List Loc} {ls : Array Slot} {i : Nat} (C : lwC p s m meth c b Ls xs D cI cB) (hRel : Rel_ B Q P hi tc rf f L ln la ct M) (hi5 : i + 5 ≤ Ls) (hP : va_P D vwCl (lV_ cI cB g r B B T Q P hi tc rf f L ln la ct f1 f2 M) H) (hD : va_D (lwA s) (lV_ cI cB g r B B T Q P hi tc rf f L ln la ct f1 f2 M)) (hS : va_S (lwA s) s.heap H locs) (hl : lv_has ls 4 [(3, .int (nI i)), (2, .ref (r 0)), (1, .ref (g 0)), (0, .ref b)]) (kk : ∀ (B T Q : BayT) (P : Nat → BayT) (hi : Int32) (tc : Nat) (rf f L : Nat → Int32) (ln la ct : Nat) (f1 f2 : Nat → Int32) (M : MT) (H : Heap) (locs : List Loc) (ls : Array Slot), Rel_ B Q P hi tc rf f L ln la ct M → va_P D vwCl (lV_ cI cB g r B B T Q P hi tc rf f L ln la ct f1 f2 M) H → va_D (lwA s) (lV_ cI cB g r B B T Q P hi tc rf f L ln la ct f1 f2 M) → va_S (lwA s) s.heap H locs → lv_has ls 4 [(3, .int (nI i)), (2, .ref (r 0)), (1, .ref (g 0)), (0, .ref b)] → W p l e room_1 s m #[Value.ref b] below meth c H locs 92 1551 (lw_Z below #[Value.ref b] s) (F0 m 1387 ls [])) : W p l e room_1 s m #[Value.ref b] below meth c H locs 92 1551 (lw_Z below #[Value.ref b] s) (F0 m 1246 ls []) := by
  have hI := hRel.1
  have hn7 := hI.1
  obtain ⟨-, e1, e2, e3, e4, e5, e6, e7, hln, htc, hct, hla, -, -⟩ := id hRel
  subst e1; subst e2; subst e3; subst e4; subst e5; subst e6; subst e7
  refine lv_aload_n C.1 C.2.1 dL_law_1246 rfl (lv_at hl 2 rfl) ?_
  refine l_arg C hS hl 1 (by omega) (by first | rfl | decide) dL_law_1247 dL_law_1248 dL_law_1249 dL_law_1250 dL_law_1251 ?_
  refine lx_row C hP hD hS gL_law_X4_row rfl okX4_row (qX4_row l D cI cB g (mhi_ M) (mrm_ M) (mrw_ M) (mrf_ M) (xs (i + 1)) htc) (by decide) hl.1 rfl rfl (Nat.le_of_ble_eq_true rfl) dL_law_1252 (fun v1 u1 H locs hw hP hD hS => ?_)
  refine lv_aload_n C.1 C.2.1 dL_law_1255 rfl (lv_at hl 1 rfl) ?_
  refine l_arg C hS hl 1 (by omega) (by first | rfl | decide) dL_law_1256 dL_law_1257 dL_law_1258 dL_law_1259 dL_law_1260 ?_
  refine lm_ask C hP hD hS gL_law_X5_row rfl okX5_row (qX5_row l D cI cB r B M (xs (i + 1)) htc) (by decide) hl.1 rfl rfl (Nat.le_of_ble_eq_true rfl) dL_law_1261 (fun v2 u2 H locs hw2 hP hD hS => ?_)
  refine lv_icmp_eq (tgt := 1387) C.1 C.2.1 dL_law_1264 (by decide) (fun c9 => ?_) (fun c9 => ?_)
  · rcases hw with ⟨w1, rfl, rfl⟩ | ⟨w1, rfl, rfl⟩
    · rcases hw2 with ⟨w2, rfl, rfl⟩ | ⟨w2, rfl, rfl⟩
      · exact kk _ _ _ _ _ _ _ _ _ _ _ _ _ _ _ H locs ls (Rel_row hRel (row_lt w1)) hP hD hS hl
      · exact absurd w1 w2
    · rcases hw2 with ⟨w2, rfl, rfl⟩ | ⟨w2, rfl, rfl⟩
      · exact absurd w2 w1
      · exact kk _ _ _ _ _ _ _ _ _ _ _ _ _ _ _ H locs ls (Rel_no _ hRel) hP hD hS hl
  · exact absurd (by rcases hw with ⟨w1, rfl, rfl⟩ | ⟨w1, rfl, rfl⟩ <;> rcases hw2 with ⟨w2, rfl, rfl⟩ | ⟨w2, rfl, rfl⟩ <;> first | exact absurd w1 w2 | exact absurd w2 w1 | rfl) c9

set_option maxHeartbeats 1000000 in
set_option maxRecDepth 100000 in
theorem law_35 {p : Program} {l : Launch} {e : Env} {s : State} {m : MethodId} {below : List Frame} {meth : Method} {c : Code} {b Ls : Nat} {xs : Nat → Int32} {D : va_G} {cI cB : ClassId} {g r : Nat → Nat} {B : BayT} {T : BayT} {Q : BayT} {P : Nat → BayT} {hi : Int32} {tc : Nat} {rf : Nat → Int32} {f : Nat → Int32} {L : Nat → Int32} {ln : Nat} {la : Nat} {ct : Nat} {f1 : Nat → Int32} {f2 : Nat → Int32} {M : MT} {H : Heap} {locs : List Loc} {ls : Array Slot} {i : Nat} (C : lwC p s m meth c b Ls xs D cI cB) (hRel : Rel_ B Q P hi tc rf f L ln la ct M) (hi5 : i + 5 ≤ Ls) (hP : va_P D vwCl (lV_ cI cB g r B B T Q P hi tc rf f L ln la ct f1 f2 M) H) (hD : va_D (lwA s) (lV_ cI cB g r B B T Q P hi tc rf f L ln la ct f1 f2 M)) (hS : va_S (lwA s) s.heap H locs) (hl : lv_has ls 4 [(3, .int (nI i)), (2, .ref (r 0)), (1, .ref (g 0)), (0, .ref b)]) (kk : ∀ (B T Q : BayT) (P : Nat → BayT) (hi : Int32) (tc : Nat) (rf f L : Nat → Int32) (ln la ct : Nat) (f1 f2 : Nat → Int32) (M : MT) (H : Heap) (locs : List Loc) (ls : Array Slot), Rel_ B Q P hi tc rf f L ln la ct M → va_P D vwCl (lV_ cI cB g r B B T Q P hi tc rf f L ln la ct f1 f2 M) H → va_D (lwA s) (lV_ cI cB g r B B T Q P hi tc rf f L ln la ct f1 f2 M) → va_S (lwA s) s.heap H locs → lv_has ls 4 [(3, .int (nI i)), (2, .ref (r 0)), (1, .ref (g 0)), (0, .ref b)] → W p l e room_1 s m #[Value.ref b] below meth c H locs 92 1551 (lw_Z below #[Value.ref b] s) (F0 m 1387 ls [])) : W p l e room_1 s m #[Value.ref b] below meth c H locs 92 1551 (lw_Z below #[Value.ref b] s) (F0 m 1269 ls []) := by
  have hI := hRel.1
  have hn7 := hI.1
  obtain ⟨-, e1, e2, e3, e4, e5, e6, e7, hln, htc, hct, hla, -, -⟩ := id hRel
  subst e1; subst e2; subst e3; subst e4; subst e5; subst e6; subst e7
  refine lv_aload_n C.1 C.2.1 dL_law_1269 rfl (lv_at hl 2 rfl) ?_
  refine lx_judge C hP hD hS gL_law_X4_judge rfl okX4_judge (qX4_judge l D cI cB g (mhi_ M) (mrm_ M) B T (mrw_ M)  hn7 htc) (by decide) hl.1 rfl rfl (Nat.le_of_ble_eq_true rfl) dL_law_1270 (fun v1 u1 H locs hw hP hD hS => ?_)
  refine lv_aload_n C.1 C.2.1 dL_law_1273 rfl (lv_at hl 1 rfl) ?_
  refine lm_ask C hP hD hS gL_law_X5_judge rfl okX5_judge (qX5_judge l D cI cB r B M  hI htc) (by decide) hl.1 rfl rfl (Nat.le_of_ble_eq_true rfl) dL_law_1274 (fun v2 u2 H locs hw2 hP hD hS => ?_)
  refine lv_icmp_eq (tgt := 1387) C.1 C.2.1 dL_law_1277 (by decide) (fun c9 => ?_) (fun c9 => ?_)
  · exact kk _ _ _ _ _ _ _ _ _ _ _ _ _ _ _ H locs ls (Rel_oM (Rel_clear hRel) hw2.2) hP hD hS hl
  · exact absurd (hw.trans hw2.1.symm) c9

set_option maxHeartbeats 1000000 in
set_option maxRecDepth 100000 in
theorem law_36 {p : Program} {l : Launch} {e : Env} {s : State} {m : MethodId} {below : List Frame} {meth : Method} {c : Code} {b Ls : Nat} {xs : Nat → Int32} {D : va_G} {cI cB : ClassId} {g r : Nat → Nat} {B : BayT} {T : BayT} {Q : BayT} {P : Nat → BayT} {hi : Int32} {tc : Nat} {rf : Nat → Int32} {f : Nat → Int32} {L : Nat → Int32} {ln : Nat} {la : Nat} {ct : Nat} {f1 : Nat → Int32} {f2 : Nat → Int32} {M : MT} {H : Heap} {locs : List Loc} {ls : Array Slot} {i : Nat} (C : lwC p s m meth c b Ls xs D cI cB) (hRel : Rel_ B Q P hi tc rf f L ln la ct M) (hi5 : i + 5 ≤ Ls) (hP : va_P D vwCl (lV_ cI cB g r B B T Q P hi tc rf f L ln la ct f1 f2 M) H) (hD : va_D (lwA s) (lV_ cI cB g r B B T Q P hi tc rf f L ln la ct f1 f2 M)) (hS : va_S (lwA s) s.heap H locs) (hl : lv_has ls 4 [(3, .int (nI i)), (2, .ref (r 0)), (1, .ref (g 0)), (0, .ref b)]) (kk : ∀ (B T Q : BayT) (P : Nat → BayT) (hi : Int32) (tc : Nat) (rf f L : Nat → Int32) (ln la ct : Nat) (f1 f2 : Nat → Int32) (M : MT) (H : Heap) (locs : List Loc) (ls : Array Slot), Rel_ B Q P hi tc rf f L ln la ct M → va_P D vwCl (lV_ cI cB g r B B T Q P hi tc rf f L ln la ct f1 f2 M) H → va_D (lwA s) (lV_ cI cB g r B B T Q P hi tc rf f L ln la ct f1 f2 M) → va_S (lwA s) s.heap H locs → lv_has ls 4 [(3, .int (nI i)), (2, .ref (r 0)), (1, .ref (g 0)), (0, .ref b)] → W p l e room_1 s m #[Value.ref b] below meth c H locs 92 1551 (lw_Z below #[Value.ref b] s) (F0 m 1387 ls [])) : W p l e room_1 s m #[Value.ref b] below meth c H locs 92 1551 (lw_Z below #[Value.ref b] s) (F0 m 1282 ls []) := by
  have hI := hRel.1
  have hn7 := hI.1
  obtain ⟨-, e1, e2, e3, e4, e5, e6, e7, hln, htc, hct, hla, -, -⟩ := id hRel
  subst e1; subst e2; subst e3; subst e4; subst e5; subst e6; subst e7
  refine lv_aload_n C.1 C.2.1 dL_law_1282 rfl (lv_at hl 2 rfl) ?_
  refine lx_clear C hP hD hS gL_law_X4_clear rfl okX4_clear (qX4_clear l D cI cB g (mhi_ M) (mrm_ M)  ) (by decide) hl.1 rfl rfl (Nat.le_of_ble_eq_true rfl) dL_law_1283 (fun v1 u1 H locs hw hP hD hS => ?_)
  refine lv_aload_n C.1 C.2.1 dL_law_1286 rfl (lv_at hl 1 rfl) ?_
  refine lm_ask C hP hD hS gL_law_X5_clear rfl okX5_clear (qX5_clear l D cI cB r B M  ) (by decide) hl.1 rfl rfl (Nat.le_of_ble_eq_true rfl) dL_law_1287 (fun v2 u2 H locs hw2 hP hD hS => ?_)
  refine lv_icmp_eq (tgt := 1387) C.1 C.2.1 dL_law_1290 (by decide) (fun c9 => ?_) (fun c9 => ?_)
  · obtain ⟨-, rfl⟩ := hw2
    exact kk _ _ _ _ _ _ _ _ _ _ _ _ _ _ _ H locs ls (Rel_clear hRel) hP hD hS hl
  · exact absurd (hw.trans hw2.1.symm) c9

set_option maxHeartbeats 1000000 in
set_option maxRecDepth 100000 in
theorem law_38 {p : Program} {l : Launch} {e : Env} {s : State} {m : MethodId} {below : List Frame} {meth : Method} {c : Code} {b Ls : Nat} {xs : Nat → Int32} {D : va_G} {cI cB : ClassId} {g r : Nat → Nat} {B : BayT} {T : BayT} {Q : BayT} {P : Nat → BayT} {hi : Int32} {tc : Nat} {rf : Nat → Int32} {f : Nat → Int32} {L : Nat → Int32} {ln : Nat} {la : Nat} {ct : Nat} {f1 : Nat → Int32} {f2 : Nat → Int32} {M : MT} {H : Heap} {locs : List Loc} {ls : Array Slot} {i : Nat} (C : lwC p s m meth c b Ls xs D cI cB) (hRel : Rel_ B Q P hi tc rf f L ln la ct M) (hi5 : i + 5 ≤ Ls) (hP : va_P D vwCl (lV_ cI cB g r B B T Q P hi tc rf f L ln la ct f1 f2 M) H) (hD : va_D (lwA s) (lV_ cI cB g r B B T Q P hi tc rf f L ln la ct f1 f2 M)) (hS : va_S (lwA s) s.heap H locs) (hl : lv_has ls 4 [(3, .int (nI i)), (2, .ref (r 0)), (1, .ref (g 0)), (0, .ref b)]) (kk : ∀ (B T Q : BayT) (P : Nat → BayT) (hi : Int32) (tc : Nat) (rf f L : Nat → Int32) (ln la ct : Nat) (f1 f2 : Nat → Int32) (M : MT) (H : Heap) (locs : List Loc) (ls : Array Slot), Rel_ B Q P hi tc rf f L ln la ct M → va_P D vwCl (lV_ cI cB g r B B T Q P hi tc rf f L ln la ct f1 f2 M) H → va_D (lwA s) (lV_ cI cB g r B B T Q P hi tc rf f L ln la ct f1 f2 M) → va_S (lwA s) s.heap H locs → lv_has ls 4 [(3, .int (nI i)), (2, .ref (r 0)), (1, .ref (g 0)), (0, .ref b)] → W p l e room_1 s m #[Value.ref b] below meth c H locs 92 1551 (lw_Z below #[Value.ref b] s) (F0 m 1387 ls [])) : W p l e room_1 s m #[Value.ref b] below meth c H locs 92 1551 (lw_Z below #[Value.ref b] s) (F0 m 1338 ls []) := by
  have hI := hRel.1
  have hn7 := hI.1
  obtain ⟨-, e1, e2, e3, e4, e5, e6, e7, hln, htc, hct, hla, -, -⟩ := id hRel
  subst e1; subst e2; subst e3; subst e4; subst e5; subst e6; subst e7
  refine lv_aload_n C.1 C.2.1 dL_law_1338 rfl (lv_at hl 2 rfl) ?_
  refine lx_image C hP hD hS gL_law_X4_image rfl okX4_image (qX4_image l D cI cB g (mhi_ M) (mrm_ M) B Q  ) (by decide) hl.1 rfl rfl (Nat.le_of_ble_eq_true rfl) dL_law_1339 (fun v1 u1 H locs hw hP hD hS => ?_)
  refine lv_aload_n C.1 C.2.1 dL_law_1342 rfl (lv_at hl 1 rfl) ?_
  refine lm_ask C hP hD hS gL_law_X5_image rfl okX5_image (qX5_image l D cI cB r B M  ) (by decide) hl.1 rfl rfl (Nat.le_of_ble_eq_true rfl) dL_law_1343 (fun v2 u2 H locs hw2 hP hD hS => ?_)
  refine lv_icmp_eq (tgt := 1387) C.1 C.2.1 dL_law_1346 (by decide) (fun c9 => ?_) (fun c9 => ?_)
  · obtain ⟨-, rfl⟩ := hw2
    exact kk _ _ _ _ _ _ _ _ _ _ _ _ _ _ _ H locs ls (Rel_image hRel) hP hD hS hl
  · exact absurd (hw.trans hw2.1.symm) c9

set_option maxHeartbeats 1000000 in
set_option maxRecDepth 100000 in
theorem law_40 {p : Program} {l : Launch} {e : Env} {s : State} {m : MethodId} {below : List Frame} {meth : Method} {c : Code} {b Ls : Nat} {xs : Nat → Int32} {D : va_G} {cI cB : ClassId} {g r : Nat → Nat} {B : BayT} {T : BayT} {Q : BayT} {P : Nat → BayT} {hi : Int32} {tc : Nat} {rf : Nat → Int32} {f : Nat → Int32} {L : Nat → Int32} {ln : Nat} {la : Nat} {ct : Nat} {f1 : Nat → Int32} {f2 : Nat → Int32} {M : MT} {H : Heap} {locs : List Loc} {ls : Array Slot} {i : Nat} (C : lwC p s m meth c b Ls xs D cI cB) (hRel : Rel_ B Q P hi tc rf f L ln la ct M) (hi5 : i + 5 ≤ Ls) (hP : va_P D vwCl (lV_ cI cB g r B B T Q P hi tc rf f L ln la ct f1 f2 M) H) (hD : va_D (lwA s) (lV_ cI cB g r B B T Q P hi tc rf f L ln la ct f1 f2 M)) (hS : va_S (lwA s) s.heap H locs) (hl : lv_has ls 4 [(3, .int (nI i)), (2, .ref (r 0)), (1, .ref (g 0)), (0, .ref b)]) (kk : ∀ (B T Q : BayT) (P : Nat → BayT) (hi : Int32) (tc : Nat) (rf f L : Nat → Int32) (ln la ct : Nat) (f1 f2 : Nat → Int32) (M : MT) (H : Heap) (locs : List Loc) (ls : Array Slot), Rel_ B Q P hi tc rf f L ln la ct M → va_P D vwCl (lV_ cI cB g r B B T Q P hi tc rf f L ln la ct f1 f2 M) H → va_D (lwA s) (lV_ cI cB g r B B T Q P hi tc rf f L ln la ct f1 f2 M) → va_S (lwA s) s.heap H locs → lv_has ls 4 [(3, .int (nI i)), (2, .ref (r 0)), (1, .ref (g 0)), (0, .ref b)] → W p l e room_1 s m #[Value.ref b] below meth c H locs 92 1551 (lw_Z below #[Value.ref b] s) (F0 m 1387 ls [])) : W p l e room_1 s m #[Value.ref b] below meth c H locs 92 1551 (lw_Z below #[Value.ref b] s) (F0 m 1364 ls []) := by
  have hI := hRel.1
  have hn7 := hI.1
  obtain ⟨-, e1, e2, e3, e4, e5, e6, e7, hln, htc, hct, hla, -, -⟩ := id hRel
  subst e1; subst e2; subst e3; subst e4; subst e5; subst e6; subst e7
  refine lv_aload_n C.1 C.2.1 dL_law_1364 rfl (lv_at hl 2 rfl) ?_
  refine l_arg C hS hl 1 (by omega) (by first | rfl | decide) dL_law_1365 dL_law_1366 dL_law_1367 dL_law_1368 dL_law_1369 ?_
  refine lx_count C hP gL_law_X4_count rfl okX4_count (qX4_count l D cI cB g (mhi_ M) (mrm_ M) B (mtp_ M) (mtn_ M) la (mbk_ M) (mrf_ M) (xs (i + 1)) hn7) (by decide) hl.1 rfl rfl (Nat.le_of_ble_eq_true rfl) dL_law_1370 (fun v1 hw => ?_)
  refine lv_aload_n C.1 C.2.1 dL_law_1373 rfl (lv_at hl 1 rfl) ?_
  refine l_arg C hS hl 1 (by omega) (by first | rfl | decide) dL_law_1374 dL_law_1375 dL_law_1376 dL_law_1377 dL_law_1378 ?_
  refine lm_count C hP gL_law_X5_count rfl okX5_count (qX5_count l D cI cB r B M (xs (i + 1)) hn7) (by decide) hl.1 rfl rfl (Nat.le_of_ble_eq_true rfl) dL_law_1379 (fun v2 hw2 => ?_)
  refine lv_icmp_eq (tgt := 1387) C.1 C.2.1 dL_law_1382 (by decide) (fun c9 => ?_) (fun c9 => ?_)
  · exact kk _ _ _ _ _ _ _ _ _ _ _ _ _ _ _ H locs ls (hRel) hP hD hS hl
  · exact absurd (hw.trans hw2.symm) c9
