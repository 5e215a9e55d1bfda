/-! refusals: which place in the row of counts; what a refused call leaves -/
def rc_ (w : Int32) : Prop := w = -1 ∨ w = -2 ∨ w = -3 ∨ w = -4 ∨ w = -6
def rc0_ (w : Int32) : Prop := w = 0 ∨ rc_ w
def ri_ (w : Int32) : Nat := (-w).toNatClampNeg
theorem rc_i {w : Int32} (h : rc_ w) : -w = nI (ri_ w) ∧ ri_ w < 7 := by
  rcases h with e | e | e | e | e <;> subst e <;> decide
theorem rc_n {w : Int32} (h : rc_ w) : ¬ w = 0 ∧ w < 0 ∧ -w < 7 := by
  rcases h with e | e | e | e | e <;> subst e <;> decide
theorem rc0_n {w : Int32} (h : rc0_ w) (c : ¬ w = 0) : rc_ w := h.elim (fun e => absurd e c) id
theorem rc0_nb (v b : Int32) : rc0_ (nb_ v b) := by
  unfold nb_; split
  · exact Or.inr (Or.inl rfl)
  · exact Or.inl rfl
theorem rc0_uk (v b : Int32) : rc0_ (uk_ v b) := by
  unfold uk_; split
  · exact Or.inr (Or.inr (Or.inl rfl))
  · exact Or.inl rfl
theorem rc0_ob (v a b : Int32) : rc0_ (ob_ v a b) := by
  unfold ob_; split
  · exact Or.inr (Or.inr (Or.inr (Or.inr (Or.inl rfl))))
  · split
    · exact Or.inr (Or.inr (Or.inr (Or.inr (Or.inr rfl))))
    · exact Or.inl rfl
theorem rc0_f2 {a b : Int32} (ha : rc0_ a) (hb : rc0_ b) : rc0_ (f2_ a b) := by
  unfold f2_; split
  · exact hb
  · exact ha
theorem rc0_if {c : Prop} [Decidable c] {a b : Int32} (ha : rc0_ a) (hb : rc0_ b) : rc0_ (if c then a else b) := by
  split
  · exact ha
  · exact hb
theorem rc0_rs (B : BayT) (w f v : Int32) : rc0_ (rs_ B w f v) := by
  unfold rs_
  split
  · exact Or.inr (Or.inr (Or.inl rfl))
  · split
    · exact Or.inr (Or.inr (Or.inr (Or.inr (Or.inl rfl))))
    · split
      · exact Or.inr (Or.inr (Or.inr (Or.inr (Or.inr rfl))))
      · split
        · exact Or.inr (Or.inl rfl)
        · split
          · exact Or.inl rfl
          · exact Or.inr (Or.inr (Or.inr (Or.inl rfl)))
theorem rc0_rh (B : BayT) (n : Int32) : rc0_ (rh_ B n) := by
  unfold rh_
  split
  · exact Or.inr (Or.inr (Or.inr (Or.inr (Or.inl rfl))))
  · split
    · exact Or.inr (Or.inr (Or.inr (Or.inr (Or.inr rfl))))
    · split
      · exact Or.inr (Or.inr (Or.inr (Or.inr (Or.inr rfl))))
      · exact Or.inl rfl
def rfx_ (f : Nat → Int32) (w : Int32) : Nat → Int32 := if w = 0 then f else upd f (ri_ w) (f (ri_ w) + 1)
theorem f2_0 {a b : Int32} : f2_ a b = 0 ↔ a = 0 ∧ b = 0 := by
  unfold f2_
  by_cases h : a = 0
  · rw [if_pos h]; exact ⟨fun e => ⟨h, e⟩, fun e => e.2⟩
  · rw [if_neg h]; exact ⟨fun e => absurd e h, fun e => absurd e.1 h⟩
theorem nb_0 {v b : Int32} : nb_ v b = 0 ↔ 0 ≤ v ∧ v < b := by
  unfold nb_
  by_cases h : v < 0 ∨ b ≤ v
  · rw [if_pos h]
    refine ⟨fun e => absurd e (by decide), fun e => ?_⟩
    rcases h with h | h
    · exact absurd h (Int32.not_lt.mpr e.1)
    · exact absurd h (Int32.not_le.mpr e.2)
  · rw [if_neg h]
    exact ⟨fun _ => ⟨Int32.not_lt.mp (fun q => h (Or.inl q)), Int32.not_le.mp (fun q => h (Or.inr q))⟩, fun _ => rfl⟩
theorem uk_0 {v b : Int32} : uk_ v b = 0 ↔ 0 ≤ v ∧ v ≤ b := by
  unfold uk_
  by_cases h : v < 0 ∨ b < v
  · rw [if_pos h]
    refine ⟨fun e => absurd e (by decide), fun e => ?_⟩
    rcases h with h | h
    · exact absurd h (Int32.not_lt.mpr e.1)
    · exact absurd h (Int32.not_lt.mpr e.2)
  · rw [if_neg h]
    exact ⟨fun _ => ⟨Int32.not_lt.mp (fun q => h (Or.inl q)), Int32.not_lt.mp (fun q => h (Or.inr q))⟩, fun _ => rfl⟩
theorem ob_0 {v a b : Int32} : ob_ v a b = 0 ↔ a ≤ v ∧ v ≤ b := by
  unfold ob_
  by_cases h : v < a
  · rw [if_pos h]; exact ⟨fun e => absurd e (by decide), fun e => absurd h (Int32.not_lt.mpr e.1)⟩
  · rw [if_neg h]
    by_cases h2 : b < v
    · rw [if_pos h2]; exact ⟨fun e => absurd e (by decide), fun e => absurd h2 (Int32.not_lt.mpr e.2)⟩
    · rw [if_neg h2]; exact ⟨fun _ => ⟨Int32.not_lt.mp h, Int32.not_lt.mp h2⟩, fun _ => rfl⟩
/-- a number in range is a place -/
theorem pl_lt {v : Int32} {n : Nat} (hn : n < 2147483648) (h : 0 ≤ v ∧ v < nI n) : ∃ k : Nat, k < n ∧ v = nI k := by
  obtain ⟨k, hk, rfl⟩ := nI_of (x := v) (Int32.not_lt.mpr h.1)
  exact ⟨k, (jlt hk hn).mp h.2, rfl⟩
theorem pl_le {v : Int32} {n : Nat} (hn : n < 2147483648) (h : 0 ≤ v ∧ v ≤ nI n) : ∃ k : Nat, k ≤ n ∧ v = nI k := by
  obtain ⟨k, hk, rfl⟩ := nI_of (x := v) (Int32.not_lt.mpr h.1)
  exact ⟨k, (jle hk hn).mp h.2, rfl⟩
/-- the place that a number names -/
def tn_ (v : Int32) : Nat := v.toNatClampNeg
theorem tn_n {k : Nat} (h : k < 2147483648) : tn_ (nI k) = k := nI_clamp h
/-- why a call of each shape is refused -/
def wS_ (n : Nat) (a : Int32) : Int32 := nb_ a (nI n)
def wSN_ (n : Nat) (a v : Int32) : Int32 := f2_ (nb_ a (nI n)) (ob_ v 0 99)
def wSNW_ (n : Nat) (a v w : Int32) : Int32 := f2_ (wSN_ n a v) (uk_ w 1)
def wNW_ (v w : Int32) : Int32 := f2_ (ob_ v 0 99) (uk_ w 1)
