/-! the reference: its bay, and what else it holds -/
abbrev MT : Type := (Nat → Int32) × (Nat → Int32) × (Nat → Int32) × (Nat → Int32) × (Nat → Int32) × (Nat → BayT) × (Nat → Int32) × (Nat → Int32) × (Nat → Int32) × (Nat → Int32) × Nat × Nat × Nat × Nat × Nat × Nat × Int32 × Int32 × Int32 × Int32 × Int32 × Int32
abbrev mrf_ (M : MT) : Nat → Int32 := M.1
abbrev mtp_ (M : MT) : Nat → Int32 := M.2.1
abbrev mlt_ (M : MT) : Nat → Int32 := M.2.2.1
abbrev mla_ (M : MT) : Nat → Int32 := M.2.2.2.1
abbrev mtd_ (M : MT) : Nat → Int32 := M.2.2.2.2.1
abbrev mkp_ (M : MT) : Nat → BayT := M.2.2.2.2.2.1
abbrev mof_ (M : MT) : Nat → Int32 := M.2.2.2.2.2.2.1
abbrev mfa_ (M : MT) : Nat → Int32 := M.2.2.2.2.2.2.2.1
abbrev mrw_ (M : MT) : Nat → Int32 := M.2.2.2.2.2.2.2.2.1
abbrev mhb_ (M : MT) : Nat → Int32 := M.2.2.2.2.2.2.2.2.2.1
abbrev mtn_ (M : MT) : Nat := M.2.2.2.2.2.2.2.2.2.2.1
abbrev mrd_ (M : MT) : Nat := M.2.2.2.2.2.2.2.2.2.2.2.1
abbrev msm_ (M : MT) : Nat := M.2.2.2.2.2.2.2.2.2.2.2.2.1
abbrev mcu_ (M : MT) : Nat := M.2.2.2.2.2.2.2.2.2.2.2.2.2.1
abbrev mbk_ (M : MT) : Nat := M.2.2.2.2.2.2.2.2.2.2.2.2.2.2.1
abbrev mrm_ (M : MT) : Nat := M.2.2.2.2.2.2.2.2.2.2.2.2.2.2.2.1
abbrev mhi_ (M : MT) : Int32 := M.2.2.2.2.2.2.2.2.2.2.2.2.2.2.2.2.1
abbrev mik_ (M : MT) : Int32 := M.2.2.2.2.2.2.2.2.2.2.2.2.2.2.2.2.2.1
abbrev mlw_ (M : MT) : Int32 := M.2.2.2.2.2.2.2.2.2.2.2.2.2.2.2.2.2.2.1
abbrev mhg_ (M : MT) : Int32 := M.2.2.2.2.2.2.2.2.2.2.2.2.2.2.2.2.2.2.2.1
abbrev msl_ (M : MT) : Int32 := M.2.2.2.2.2.2.2.2.2.2.2.2.2.2.2.2.2.2.2.2.1
abbrev mlo_ (M : MT) : Int32 := M.2.2.2.2.2.2.2.2.2.2.2.2.2.2.2.2.2.2.2.2.2
abbrev mkM (a0 : Nat → Int32) (a1 : Nat → Int32) (a2 : Nat → Int32) (a3 : Nat → Int32) (a4 : Nat → Int32) (a5 : Nat → BayT) (a6 : Nat → Int32) (a7 : Nat → Int32) (a8 : Nat → Int32) (a9 : Nat → Int32) (a10 : Nat) (a11 : Nat) (a12 : Nat) (a13 : Nat) (a14 : Nat) (a15 : Nat) (a16 : Int32) (a17 : Int32) (a18 : Int32) (a19 : Int32) (a20 : Int32) (a21 : Int32) : MT := (a0, a1, a2, a3, a4, a5, a6, a7, a8, a9, a10, a11, a12, a13, a14, a15, a16, a17, a18, a19, a20, a21)
/-- a bay's 41 numbers in a row -/
def bc_ (B : BayT) (i : Nat) : Int32 := if i < 7 then kd_ B i else if i < 14 then fg_ B (i - 7) else if i < 21 then pl_ B (i - 14) else if i < 28 then pw_ B (i - 21) else if i < 35 then jy_ B (i - 28) else if i = 35 then nI (sn_ B) else if i = 36 then qt_ B else if i = 37 then il_ B else if i = 38 then pa_ B else if i = 39 then ho_ B else dy_ B
def flatK (K : Nat → BayT) : Nat → Int32 := fun j => bc_ (K (j / 41)) (j % 41)
abbrev mO (r : Nat → Nat) (B : BayT) (M : MT) : va_W := [(r 0, .inr (5, [.ref (r 1), .ref (r 2), .ref (r 3), .ref (r 4), .ref (r 5), .ref (r 6), .int (nI (sn_ B)), .int (qt_ B), .int (il_ B), .int (pa_ B), .int (ho_ B), .int (dy_ B), .ref (r 13), .ref (r 14), .ref (r 15), .ref (r 16), .int (nI (mtn_ M)), .int (nI (mrd_ M)), .int (nI (msm_ M)), .ref (r 20), .int (mhi_ M), .int (mik_ M), .int (nI (mcu_ M)), .int (nI (mbk_ M)), .ref (r 25), .ref (r 26), .int (mlw_ M), .int (mhg_ M), .int (msl_ M), .ref (r 30), .int (nI (mrm_ M)), .ref (r 32), .int (mlo_ M)]))]
abbrev mWr (cI : ClassId) (r : Nat → Nat) (B : BayT) (M : MT) (K : Nat → Int32) : va_W := [(r 0, .inr (5, [.ref (r 1), .ref (r 2), .ref (r 3), .ref (r 4), .ref (r 5), .ref (r 6), .int (nI (sn_ B)), .int (qt_ B), .int (il_ B), .int (pa_ B), .int (ho_ B), .int (dy_ B), .ref (r 13), .ref (r 14), .ref (r 15), .ref (r 16), .int (nI (mtn_ M)), .int (nI (mrd_ M)), .int (nI (msm_ M)), .ref (r 20), .int (mhi_ M), .int (mik_ M), .int (nI (mcu_ M)), .int (nI (mbk_ M)), .ref (r 25), .ref (r 26), .int (mlw_ M), .int (mhg_ M), .int (msl_ M), .ref (r 30), .int (nI (mrm_ M)), .ref (r 32), .int (mlo_ M)])), (r 1, .inl (cI, 7, .inl (mrf_ M))), (r 2, .inl (cI, 7, .inl (kd_ B))), (r 3, .inl (cI, 7, .inl (fg_ B))), (r 4, .inl (cI, 7, .inl (pl_ B))), (r 5, .inl (cI, 7, .inl (pw_ B))), (r 6, .inl (cI, 7, .inl (jy_ B))), (r 13, .inl (cI, 96, .inl (mtp_ M))), (r 14, .inl (cI, 48, .inl (mlt_ M))), (r 15, .inl (cI, 48, .inl (mla_ M))), (r 16, .inl (cI, 144, .inl (mtd_ M))), (r 20, .inl (cI, 451, .inl K)), (r 25, .inl (cI, 7, .inl (mof_ M))), (r 26, .inl (cI, 7, .inl (mfa_ M))), (r 30, .inl (cI, 12, .inl (mrw_ M))), (r 32, .inl (cI, 8, .inl (mhb_ M)))]
abbrev mW (cI : ClassId) (r : Nat → Nat) (B : BayT) (M : MT) : va_W := mWr cI r B M (flatK (mkp_ M))
/-- what a question in mind leaves as it was -/
def oM_ (M u : MT) : Prop := mrf_ u = mrf_ M ∧ mtp_ u = mtp_ M ∧ mrw_ u = mrw_ M ∧ mtn_ u = mtn_ M ∧ mhi_ u = mhi_ M ∧ mbk_ u = mbk_ M ∧ mrm_ u = mrm_ M ∧ ∀ j : Nat, (j = 0 ∨ 3 ≤ j) → mkp_ u j = mkp_ M j
theorem oM_.rf (M : MT) : oM_ M M := ⟨rfl, rfl, rfl, rfl, rfl, rfl, rfl, fun _ _ => rfl⟩
theorem oM_.tr {M u v : MT} (h1 : oM_ M u) (h2 : oM_ u v) : oM_ M v := by
  obtain ⟨a1, a2, a3, a4, a5, a6, a7, a8⟩ := h1
  obtain ⟨b1, b2, b3, b4, b5, b6, b7, b8⟩ := h2
  exact ⟨b1.trans a1, b2.trans a2, b3.trans a3, b4.trans a4, b5.trans a5, b6.trans a6, b7.trans a7, fun j hj => (b8 j hj).trans (a8 j hj)⟩
def fr_ (a b : Int32) : Int32 := if b < a then a - b else b - a
def he_ (v a b : Int32) : Int32 := if v < a then a else if b < v then b else v
/-- what holds of every bay that a run can come to -/
def bI_ (B : BayT) : Prop := sn_ B ≤ 7 ∧ (∀ k, k < sn_ B → (0 ≤ kd_ B k ∧ kd_ B k ≤ 5) ∧ (0 ≤ fg_ B k ∧ fg_ B k ≤ 9) ∧ (0 ≤ pl_ B k ∧ pl_ B k ≤ 30) ∧ (0 ≤ pw_ B k ∧ pw_ B k ≤ 99) ∧ (0 ≤ jy_ B k ∧ jy_ B k ≤ 999)) ∧ (∀ a b, a < sn_ B → b < sn_ B → pl_ B a = pl_ B b → a = b) ∧ (∃ q, q < p2_ (sn_ B) ∧ qt_ B = nI q) ∧ (0 ≤ il_ B ∧ il_ B ≤ 30) ∧ (1 ≤ pa_ B ∧ pa_ B ≤ 5) ∧ (0 ≤ ho_ B ∧ ho_ B ≤ 23) ∧ True
theorem rg9 {x : Int32} (n : Nat) (hn : n < 2147483648) (h0 : 0 ≤ x) (h1 : x ≤ nI n) : ∃ j : Nat, j ≤ n ∧ x = nI j := nI_of2 (M := nI n) (nI_toInt hn) (Int32.not_lt.mpr h0) h1
theorem di_fr_d : ∀ a : Fin 31, ∀ b : Fin 31, (if (0 : Int32) ≤ nI a.val - nI b.val then nI a.val - nI b.val else 0 - (nI a.val - nI b.val)) = fr_ (nI a.val) (nI b.val) := by decide +kernel
theorem di_fr {B : BayT} {k : Nat} (h1 : 0 ≤ pl_ B k ∧ pl_ B k ≤ 30) (h2 : 0 ≤ il_ B ∧ il_ B ≤ 30) : di_ B k = fr_ (pl_ B k) (il_ B) := by
  obtain ⟨a, ha, ea⟩ := rg9 30 (by decide) h1.1 h1.2
  obtain ⟨b, hb, eb⟩ := rg9 30 (by decide) h2.1 h2.2
  unfold di_
  rw [ea, eb]
  exact di_fr_d ⟨a, by omega⟩ ⟨b, by omega⟩
theorem dtw_d : ∀ a : Fin 31, ∀ b : Fin 31, ∀ c : Fin 6, he_ (if nI b.val < nI a.val then nI b.val + (if nI c.val < fr_ (nI a.val) (nI b.val) then nI c.val else fr_ (nI a.val) (nI b.val)) else nI b.val - (if nI c.val < fr_ (nI a.val) (nI b.val) then nI c.val else fr_ (nI a.val) (nI b.val))) 0 30 = nI b.val + (if -nI c.val < (if nI a.val - nI b.val < nI c.val then nI a.val - nI b.val else nI c.val) then (if nI a.val - nI b.val < nI c.val then nI a.val - nI b.val else nI c.val) else -nI c.val) := by decide +kernel
theorem daw_d : ∀ a : Fin 31, ∀ b : Fin 31, ∀ c : Fin 6, he_ (if nI a.val < nI b.val then nI b.val + nI c.val else nI b.val - nI c.val) 0 30 = (if (0 : Int32) < (if nI b.val + (if nI a.val < nI b.val then nI c.val else -nI c.val) < 30 then nI b.val + (if nI a.val < nI b.val then nI c.val else -nI c.val) else 30) then (if nI b.val + (if nI a.val < nI b.val then nI c.val else -nI c.val) < 30 then nI b.val + (if nI a.val < nI b.val then nI c.val else -nI c.val) else 30) else 0) := by decide +kernel
theorem tw_eq {B : BayT} {k : Nat} (h1 : 0 ≤ pl_ B k ∧ pl_ B k ≤ 30) (h2 : 0 ≤ il_ B ∧ il_ B ≤ 30) (h3 : 1 ≤ pa_ B ∧ pa_ B ≤ 5) : he_ (if il_ B < pl_ B k then il_ B + (if pa_ B < fr_ (pl_ B k) (il_ B) then pa_ B else fr_ (pl_ B k) (il_ B)) else il_ B - (if pa_ B < fr_ (pl_ B k) (il_ B) then pa_ B else fr_ (pl_ B k) (il_ B))) 0 30 = tw_ B k := by
  obtain ⟨a, ha, ea⟩ := rg9 30 (by decide) h1.1 h1.2
  obtain ⟨b, hb, eb⟩ := rg9 30 (by decide) h2.1 h2.2
  obtain ⟨c, hc, ec⟩ := rg9 5 (by decide) (Int32.le_trans (by decide) h3.1) h3.2
  unfold tw_
  rw [ea, eb, ec]
  exact dtw_d ⟨a, by omega⟩ ⟨b, by omega⟩ ⟨c, by omega⟩
theorem aw_eq {B : BayT} {k : Nat} (h1 : 0 ≤ pl_ B k ∧ pl_ B k ≤ 30) (h2 : 0 ≤ il_ B ∧ il_ B ≤ 30) (h3 : 1 ≤ pa_ B ∧ pa_ B ≤ 5) : he_ (if pl_ B k < il_ B then il_ B + pa_ B else il_ B - pa_ B) 0 30 = aw_ B k := by
  obtain ⟨a, ha, ea⟩ := rg9 30 (by decide) h1.1 h1.2
  obtain ⟨b, hb, eb⟩ := rg9 30 (by decide) h2.1 h2.2
  obtain ⟨c, hc, ec⟩ := rg9 5 (by decide) (Int32.le_trans (by decide) h3.1) h3.2
  unfold aw_
  rw [ea, eb, ec]
  exact daw_d ⟨a, by omega⟩ ⟨b, by omega⟩ ⟨c, by omega⟩
