theorem kd_z {x : Int32} (h : 0 ≤ x ∧ x ≤ 5) (h1 : ¬ x = 1) (h2 : ¬ x = 2) (h3 : ¬ x = 3) (h4 : ¬ x = 4) (h5 : ¬ x = 5) : x = 0 := by
  obtain ⟨j, hj, rfl⟩ := rg9 5 (by decide) h.1 h.2
  have : j = 0 ∨ j = 1 ∨ j = 2 ∨ j = 3 ∨ j = 4 ∨ j = 5 := by omega
  rcases this with e | e | e | e | e | e <;> subst e
  · rfl
  · exact absurd rfl h1
  · exact absurd rfl h2
  · exact absurd rfl h3
  · exact absurd rfl h4
  · exact absurd rfl h5
theorem dr_rng_d : ∀ j : Fin 10, (0 ≤ nI j.val + 3 ∧ nI j.val + 3 ≤ 30) ∧ (0 ≤ 2 * (nI j.val + 3) ∧ 2 * (nI j.val + 3) ≤ 30) ∧ (0 ≤ nI j.val ∧ nI j.val ≤ 30) := by decide +kernel
theorem ld_rng {k f h : Int32} (hf : 0 ≤ f ∧ f ≤ 9) : 0 ≤ ld_ k f h ∧ ld_ k f h ≤ 30 := by
  obtain ⟨j, hj, rfl⟩ := rg9 9 (by decide) hf.1 hf.2
  obtain ⟨a1, a2, a3⟩ := dr_rng_d ⟨j, by omega⟩
  unfold ld_ dr_
  split
  · exact a3
  · split
    · split
      · exact a1
      · exact ⟨by decide, by decide⟩
    · split
      · exact ⟨by decide, by decide⟩
      · split
        · split
          · split
            · exact a2
            · exact ⟨by decide, by decide⟩
          · split
            · exact a1
            · exact ⟨by decide, by decide⟩
        · split
          · split <;> exact ⟨by decide, by decide⟩
          · exact ⟨by decide, by decide⟩
theorem no_rng {B : BayT} (hI : bI_ B) {k : Nat} (hk : k < sn_ B) (h : Int32) : ∃ j : Nat, j ≤ 30 ∧ no_ B k h = nI j := by
  have hf := (hI.2.1 k hk).2.1
  have h2 : 0 ≤ no_ B k h ∧ no_ B k h ≤ 30 := by
    unfold no_
    split
    · exact ⟨by decide, by decide⟩
    · exact ld_rng hf
  exact rg9 30 (by decide) h2.1 h2.2
theorem lou_d : ∀ a : Fin 31, ∀ b : Fin 31, (nI b.val < nI a.val ↔ 0 < nI a.val - nI b.val) ∧ (nI a.val = nI b.val ↔ nI a.val - nI b.val = 0) := by decide +kernel
theorem louder_eq {B : BayT} {h : Int32} (hI : bI_ B) {k t : Nat} (hk : k < sn_ B) (ht : t < sn_ B) : (no_ B t h < no_ B k h ∨ (no_ B k h = no_ B t h ∧ di_ B k < di_ B t)) ↔ (0 < no_ B k h - no_ B t h ∨ (no_ B k h - no_ B t h = 0 ∧ fr_ (pl_ B k) (il_ B) < fr_ (pl_ B t) (il_ B))) := by
  obtain ⟨a, ha, ea⟩ := no_rng hI hk h
  obtain ⟨b, hb, eb⟩ := no_rng hI ht h
  rw [di_fr (hI.2.1 k hk).2.2.1 hI.2.2.2.2.1, di_fr (hI.2.1 t ht).2.2.1 hI.2.2.2.2.1, ea, eb]
  obtain ⟨h1, h2⟩ := lou_d ⟨a, by omega⟩ ⟨b, by omega⟩
  rw [h1, h2]
theorem lo_no {B : BayT} {h : Int32} {i t : Nat} (hi : no_ B i h ≤ 0) (ht : 0 < no_ B t h) : ¬ (no_ B t h < no_ B i h ∨ (no_ B i h = no_ B t h ∧ di_ B i < di_ B t)) := by
  rintro (q | ⟨q, -⟩)
  · exact absurd (Int32.lt_of_lt_of_le (Int32.lt_trans ht q) hi) Int32.lt_irrefl
  · rw [q] at hi
    exact absurd (Int32.lt_of_lt_of_le ht hi) Int32.lt_irrefl
theorem drift_u {B : BayT} {a b : Int32} (h : a = b) : mkB (kd_ B) (fg_ B) (pl_ B) (pw_ B) (jy_ B) (qt_ B) (sn_ B) a (pa_ B) (ho_ B) (dy_ B) = ui_ B b := by subst h; rfl
