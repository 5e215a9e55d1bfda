/-! the law's state: what both sides hold in common -/
def Rel_ (B Q : BayT) (P : Nat → BayT) (hi : Int32) (tc : Nat) (rf f L : Nat → Int32) (ln la ct : Nat) (M : MT) : Prop := bI_ B ∧ mrf_ M = rf ∧ mtp_ M = L ∧ mtn_ M = ln ∧ mrw_ M = f ∧ mrm_ M = tc ∧ mhi_ M = hi ∧ mbk_ M = ct ∧ ln ≤ 96 ∧ tc ≤ 12 ∧ ct ≤ 8 ∧ la < 8 ∧ (hi = 0 ∨ (mkp_ M 0 = Q ∧ bI_ Q)) ∧ ∀ i, i < ct → mkp_ M (2 + ct - i) = P ((la + 8 - i) % 8) ∧ bI_ (P ((la + 8 - i) % 8))
abbrev lW_ (cI cB : ClassId) (g r : Nat → Nat) (B T Q : BayT) (P : Nat → BayT) (hi : Int32) (tc : Nat) (rf f L : Nat → Int32) (ln la ct : Nat) (f1 f2 : Nat → Int32) (M : MT) : va_W := xO g hi tc ++ miO g ++ bW cI g 4 B ++ bW cI g 10 T ++ rW cI g rf ++ mW cI r B M ++ [(g 2, .inl (cI, 4, .inl f1)), (g 3, .inl (cI, 4, .inl f2))] ++ [(g 16, .inl (cI, 12, .inl f))] ++ lW cI g L ln ++ pW cB g la ct ++ bW cI g 20 Q ++ rgW cI g P
/-- the same with the two sides' bays told apart -/
abbrev lV_ (cI cB : ClassId) (g r : Nat → Nat) (B B2 T Q : BayT) (P : Nat → BayT) (hi : Int32) (tc : Nat) (rf f L : Nat → Int32) (ln la ct : Nat) (f1 f2 : Nat → Int32) (M : MT) : va_W := xO g hi tc ++ miO g ++ bW cI g 4 B ++ bW cI g 10 T ++ rW cI g rf ++ mW cI r B2 M ++ [(g 2, .inl (cI, 4, .inl f1)), (g 3, .inl (cI, 4, .inl f2))] ++ [(g 16, .inl (cI, 12, .inl f))] ++ lW cI g L ln ++ pW cB g la ct ++ bW cI g 20 Q ++ rgW cI g P
section REL
variable {B Q : BayT} {P : Nat → BayT} {hi : Int32} {tc : Nat} {rf f L : Nat → Int32} {ln la ct : Nat} {M u : MT}
theorem Rel_0 : Rel_ B0_ B0_ (fun _ => B0_) 0 0 z0_ z0_ z0_ 0 0 0 M0_ := by
  refine ⟨⟨by decide, fun k hk => absurd hk (Nat.not_lt_zero _), fun a b ha => absurd ha (Nat.not_lt_zero _), ⟨0, by decide, rfl⟩, ?_, ?_, ?_, trivial⟩, rfl, rfl, rfl, rfl, rfl, rfl, rfl, by omega, by omega, by omega, by omega, Or.inl rfl, fun i hi => absurd hi (Nat.not_lt_zero _)⟩
  · exact ⟨by decide, by decide⟩
  · exact ⟨by decide, by decide⟩
  · exact ⟨by decide, by decide⟩
/-- behind a question -/
theorem Rel_ask {w : Int32} {rf2 : Nat → Int32} (h : Rel_ B Q P hi tc rf f L ln la ct M) (hr : rf2 = rfx_ rf w) (hu : oQ_ M u w) : Rel_ B Q P hi tc rf2 f L ln la ct u := by
  obtain ⟨h1, h2, h3, h4, h5, h6, h7, h8, h9, h10, h11, h12, h13, h14⟩ := h
  obtain ⟨a1, a2, a3, a4, a5, a6, a7, a8⟩ := hu
  refine ⟨h1, ?_, a2.trans h3, a4.trans h4, a3.trans h5, a7.trans h6, a5.trans h7, a6.trans h8, h9, h10, h11, h12, ?_, ?_⟩
  · rw [hr, ← h2]; exact a1
  · exact h13.imp id (fun q => ⟨(a8 0 (by omega)).trans q.1, q.2⟩)
  · exact fun i hi => ⟨(a8 (2 + ct - i) (by omega)).trans (h14 i hi).1, (h14 i hi).2⟩
/-- a refused call -/
theorem Rel_no (w : Int32) (h : Rel_ B Q P hi tc rf f L ln la ct M) : Rel_ B Q P hi tc (rfx_ rf w) f L ln la ct (rfm_ M w) := Rel_ask (w := w) h rfl (oQ_n M w)
theorem Rel_shore {B2 : BayT} (h : Rel_ B Q P hi tc rf f L ln la ct M) (hB : bI_ B2) : Rel_ B2 Q P hi tc rf f L ln la 0 (ubk_ M 0) := by
  obtain ⟨h1, h2, h3, h4, h5, h6, h7, h8, h9, h10, h11, h12, h13, h14⟩ := h
  exact ⟨hB, h2, h3, h4, h5, h6, h7, rfl, h9, h10, by omega, h12, h13, fun i hi => absurd hi (Nat.not_lt_zero _)⟩
/-- a change that is kept -/
theorem Rel_keep {B2 : BayT} {j : Nat} (h : Rel_ B Q P hi tc rf f L ln la ct M) (hB : bI_ B2) (hj : j = (la + 1) % 8) : Rel_ B2 Q (va_up P j B) hi tc rf f L ln j (mc8 ct) (kb_ M B) := by
  obtain ⟨h1, h2, h3, h4, h5, h6, h7, h8, h9, h10, h11, h12, h13, h14⟩ := h
  have hj8 : j < 8 := by omega
  refine ⟨hB, h2, h3, h4, h5, h6, h7, by rw [← h8]; rfl, h9, h10, (mc8_8 ct).1, hj8, ?_, fun i hi => ?_⟩
  · refine h13.imp id (fun q => ⟨?_, q.2⟩)
    show (if mbk_ M = 8 then va_up (shK_ (mkp_ M)) 10 B else va_up (mkp_ M) (3 + mbk_ M) B) 0 = Q
    split
    · rw [va_up_ne _ _ (by omega)]; exact q.1
    · rw [va_up_ne _ _ (by omega)]; exact q.1
  · have hK : mkp_ (kb_ M B) = (if mbk_ M = 8 then va_up (shK_ (mkp_ M)) 10 B else va_up (mkp_ M) (3 + mbk_ M) B) := rfl
    by_cases hi0 : i = 0
    · subst hi0
      have e1 : (j + 8 - 0) % 8 = j := by omega
      rw [e1, va_up_self]
      refine ⟨?_, h1⟩
      rw [hK, h8]
      unfold mc8
      by_cases c : ct = 8
      · rw [if_pos c, if_neg (by omega)]; exact va_up_self _ _ _
      · rw [if_neg c, if_pos (by omega), show 2 + (ct + 1) - 0 = 3 + ct by omega]; exact va_up_self _ _ _
    · have hlt : i < 9 := by have := (mc8_8 ct).1; omega
      have hi8 : i < 8 := by have := (mc8_8 ct).1; omega
      have hne : (j + 8 - i) % 8 ≠ j := by omega
      have hic : i - 1 < ct := by
        unfold mc8 at hi
        by_cases c : ct < 8
        · rw [if_pos c] at hi; omega
        · rw [if_neg c] at hi; omega
      have he : (j + 8 - i) % 8 = (la + 8 - (i - 1)) % 8 := by omega
      rw [va_up_ne _ _ hne, he]
      refine ⟨?_, (h14 (i - 1) hic).2⟩
      rw [← (h14 (i - 1) hic).1, hK, h8]
      unfold mc8
      by_cases c : ct = 8
      · rw [if_pos c, if_neg (by omega), va_up_ne _ _ (by omega)]
        unfold shK_
        rw [if_pos (by omega)]
        congr 1; omega
      · rw [if_neg c, if_pos (by omega), va_up_ne _ _ (by omega)]
        congr 1; omega
theorem Rel_back (h : Rel_ B Q P hi tc rf f L ln la ct M) (h0 : ¬ ct = 0) : mkp_ M (2 + mbk_ M) = P la ∧ Rel_ (P la) Q (va_up P la (P la)) hi tc rf f L ln ((la + 7) % 8) (ct - 1) (pu_ (ubk_ M (mbk_ M - 1)) (2 + mbk_ M)) := by
  obtain ⟨h1, h2, h3, h4, h5, h6, h7, h8, h9, h10, h11, h12, h13, h14⟩ := h
  have hz := h14 0 (by omega)
  have e1 : (la + 8 - 0) % 8 = la := by omega
  rw [e1] at hz
  have eP : va_up P la (P la) = P := by
    funext j; unfold va_up
    by_cases c : j = la
    · rw [if_pos c, c]
    · rw [if_neg c]
  rw [eP]
  refine ⟨by rw [h8]; exact hz.1, hz.2, h2, h3, h4, h5, h6, h7, by rw [← h8]; rfl, h9, h10, by omega, by omega, h13, fun i hi => ?_⟩
  have h15 := h14 (i + 1) (by omega)
  have e2 : (la + 8 - (i + 1)) % 8 = ((la + 7) % 8 + 8 - i) % 8 := by omega
  rw [e2] at h15
  refine ⟨?_, h15.2⟩
  rw [← h15.1]
  show mkp_ M (2 + (ct - 1) - i) = _
  congr 1; omega
theorem Rel_image (h : Rel_ B Q P hi tc rf f L ln la ct M) : Rel_ B B P 1 tc rf f L ln la ct (pk_ (uhi_ M 1) 0 B) := by
  obtain ⟨h1, h2, h3, h4, h5, h6, h7, h8, h9, h10, h11, h12, h13, h14⟩ := h
  exact ⟨h1, h2, h3, h4, h5, h6, rfl, h8, h9, h10, h11, h12, Or.inr ⟨va_up_self (mkp_ M) 0 B, h1⟩, fun i hi => ⟨(va_up_ne (mkp_ M) B (show 2 + ct - i ≠ 0 by omega)).trans (h14 i hi).1, (h14 i hi).2⟩⟩
theorem Rel_restore (h : Rel_ B Q P hi tc rf f L ln la ct M) (h0 : ¬ hi = 0) : mkp_ M 0 = Q ∧ Rel_ Q Q P hi tc rf f L ln la 0 (ubk_ (pu_ M 0) 0) := by
  obtain ⟨h1, h2, h3, h4, h5, h6, h7, h8, h9, h10, h11, h12, h13, h14⟩ := h
  rcases h13 with q | q
  · exact absurd q h0
  · exact ⟨q.1, q.2, h2, h3, h4, h5, h6, h7, rfl, h9, h10, by omega, h12, Or.inr q, fun i hi => absurd hi (Nat.not_lt_zero _)⟩
theorem Rel_feed {v : Int32} (h : Rel_ B Q P hi tc rf f L ln la ct M) (hn : ln < 96) : Rel_ B Q P hi tc rf f (upd L ln v) (ln + 1) la ct (utp_ M v) := by
  obtain ⟨h1, h2, h3, h4, h5, h6, h7, h8, h9, h10, h11, h12, h13, h14⟩ := h
  exact ⟨h1, h2, by rw [← h3, ← h4]; rfl, by rw [← h4]; rfl, h5, h6, h7, h8, by omega, h10, h11, h12, h13, h14⟩
theorem Rel_row {v : Int32} (h : Rel_ B Q P hi tc rf f L ln la ct M) (hn : tc < 12) : Rel_ B Q P hi (tc + 1) rf (upd f tc v) L ln la ct (urw_ M v) := by
  obtain ⟨h1, h2, h3, h4, h5, h6, h7, h8, h9, h10, h11, h12, h13, h14⟩ := h
  exact ⟨h1, h2, h3, h4, by rw [← h5, ← h6]; rfl, by rw [← h6]; rfl, h7, h8, h9, by omega, h11, h12, h13, h14⟩
theorem Rel_clear (h : Rel_ B Q P hi tc rf f L ln la ct M) : Rel_ B Q P hi 0 rf f L ln la ct (urm_ M 0) := by
  obtain ⟨h1, h2, h3, h4, h5, h6, h7, h8, h9, h10, h11, h12, h13, h14⟩ := h
  exact ⟨h1, h2, h3, h4, h5, rfl, h7, h8, h9, by omega, h11, h12, h13, h14⟩
theorem Rel_oM (h : Rel_ B Q P hi tc rf f L ln la ct M) (hu : oM_ M u) : Rel_ B Q P hi tc rf f L ln la ct u := by
  have := Rel_ask (w := 0) h (rfx_0 rfl) (oQ_0 rfl hu)
  exact this
theorem bI_tl {L : Nat → Int32} {n : Nat} : ∀ m k i T, bI_ T → ∀ q, tl_ L n m k i T = .inr q → bI_ q.2
  | 0, k, i, T, hT, q, h => by unfold tl_ at h; cases h; exact hT
  | m + 1, k, i, T, hT, q, h => by
    unfold tl_ at h
    by_cases c : i < n ∧ k < n
    · rw [if_pos c] at h
      by_cases d : rst_ L n i T = 0
      · rw [if_pos d] at h; exact bI_tl m _ _ _ (bI_cst hT d) q h
      · rw [if_neg d] at h; cases h
    · rw [if_neg c] at h; cases h; exact hT
theorem Rel_bay {o : Option Nat} (h : Rel_ B Q P hi tc rf f L ln la ct M) (hu : oB_ M u (bC_ o (mbk_ M) (tl_ L ln 97 0 0 B))) : Rel_ (bB_ o B (tl_ L ln 97 0 0 B)) Q P hi tc rf f L 0 la (bC_ o ct (tl_ L ln 97 0 0 B)) u := by
  obtain ⟨h1, h2, h3, h4, h5, h6, h7, h8, h9, h10, h11, h12, h13, h14⟩ := h
  obtain ⟨a1, a2, a3, a4, a5, a6, a7, a8⟩ := hu
  rw [h8] at a6
  have key : ∀ X : BayT, ∀ c : Nat, (c = ct ∨ c = 0) → mbk_ u = c → bI_ X → Rel_ X Q P hi tc rf f L 0 la c u := by
    intro X c hc hm hX
    refine ⟨hX, a1.trans h2, a2.trans h3, a4, a3.trans h5, a7.trans h6, a5.trans h7, hm, by omega, h10, by omega, h12, h13.imp id (fun q => ⟨(a8 0 (by omega)).trans q.1, q.2⟩), fun i hi => ?_⟩
    rcases hc with e | e
    · subst e; exact ⟨(a8 _ (by omega)).trans (h14 i hi).1, (h14 i hi).2⟩
    · omega
  cases o with
  | some q => exact key _ _ (Or.inl rfl) a6 h1
  | none =>
    cases ht : tl_ L ln 97 0 0 B with
    | inl i => rw [ht] at a6; exact key _ _ (Or.inl rfl) a6 h1
    | inr q => rw [ht] at a6; exact key _ _ (Or.inr rfl) a6 (bI_tl _ _ _ _ h1 q ht)
end REL
