/-! why a call is refused, path by path; sums as numbers; gaps; lots -/
theorem tr_1 {n : Nat} {a b q : Int32} (h1 : ¬ (0 ≤ a ∧ a < nI n)) : wTr_ n a b q = -1 := by
  unfold wTr_
  rw [f2_a (by rw [f2_a (by rw [nb_o h1]; decide), nb_o h1]; decide), f2_a (by rw [nb_o h1]; decide), nb_o h1]
theorem tr_2 {n : Nat} {a b q : Int32} (h1 : 0 ≤ a ∧ a < nI n) (h2 : ¬ (0 ≤ b ∧ b < nI n)) : wTr_ n a b q = -1 := by
  unfold wTr_
  rw [f2_a (by rw [f2_b (nb_i h1), nb_o h2]; decide), f2_b (nb_i h1), nb_o h2]
theorem tr_3 {n : Nat} {a b q : Int32} (h1 : 0 ≤ a ∧ a < nI n) (h2 : 0 ≤ b ∧ b < nI n) (h3 : a = b) : wTr_ n a b q = -1 := by
  unfold wTr_
  rw [f2_b (by rw [f2_b (nb_i h1), nb_i h2]), if_pos h3]
theorem tr_4 {n : Nat} {a b q : Int32} (h1 : 0 ≤ a ∧ a < nI n) (h2 : 0 ≤ b ∧ b < nI n) (h3 : ¬ a = b) (h4 : ¬ (0 ≤ q ∧ q ≤ 1)) : wTr_ n a b q = -2 := by
  unfold wTr_
  rw [f2_b (by rw [f2_b (nb_i h1), nb_i h2]), if_neg h3, uk_o h4]
theorem tr_5 {n : Nat} {a b q : Int32} (h1 : 0 ≤ a ∧ a < nI n) (h2 : 0 ≤ b ∧ b < nI n) (h3 : ¬ a = b) (h4 : 0 ≤ q ∧ q ≤ 1) : wTr_ n a b q = 0 := by
  unfold wTr_
  rw [f2_b (by rw [f2_b (nb_i h1), nb_i h2]), if_neg h3, uk_i h4]
theorem th_1 {n : Nat} {a v t p : Int32} (h1 : ¬ (0 ≤ a ∧ a < nI n)) : wTh_ n a v t p = -1 := by
  unfold wTh_
  rw [f2_a (by rw [f2_a (by rw [nb_o h1]; decide), nb_o h1]; decide), f2_a (by rw [nb_o h1]; decide), nb_o h1]
theorem th_2 {n : Nat} {a v t p : Int32} (h1 : 0 ≤ a ∧ a < nI n) (h2 : v < 0) : wTh_ n a v t p = -4 := by
  unfold wTh_
  rw [f2_b (nb_i h1), if_pos h2]; rfl
theorem th_3 {n : Nat} {a v t p : Int32} (h1 : 0 ≤ a ∧ a < nI n) (h2 : ¬ v < 0) (h3 : ¬ 2 ≤ t) : wTh_ n a v t p = -4 := by
  unfold wTh_
  rw [f2_b (nb_i h1), if_neg h2, if_pos (Int32.not_le.mp h3)]; rfl
theorem th_4 {n : Nat} {a v t p : Int32} (h1 : 0 ≤ a ∧ a < nI n) (h2 : ¬ v < 0) (h3 : 2 ≤ t) (h4 : 7 < v) : wTh_ n a v t p = -6 := by
  unfold wTh_
  rw [f2_b (nb_i h1), if_neg h2, if_neg (Int32.not_lt.mpr h3), if_pos h4]; rfl
theorem th_5 {n : Nat} {a v t p : Int32} (h1 : 0 ≤ a ∧ a < nI n) (h2 : ¬ v < 0) (h3 : 2 ≤ t) (h4 : ¬ 7 < v) (h5 : ¬ t ≤ 20) : wTh_ n a v t p = -6 := by
  unfold wTh_
  rw [f2_b (nb_i h1), if_neg h2, if_neg (Int32.not_lt.mpr h3), if_neg h4, if_pos (Int32.not_le.mp h5)]; rfl
theorem th_6 {n : Nat} {a v t p : Int32} (h1 : 0 ≤ a ∧ a < nI n) (h2 : ¬ v < 0) (h3 : 2 ≤ t) (h4 : ¬ 7 < v) (h5 : t ≤ 20) (h6 : ¬ (0 ≤ p ∧ p ≤ 1)) : wTh_ n a v t p = -2 := by
  unfold wTh_
  rw [f2_b (nb_i h1), if_neg h2, if_neg (Int32.not_lt.mpr h3), if_neg h4, if_neg (Int32.not_lt.mpr h5), uk_o h6]; rfl
theorem th_7 {n : Nat} {a v t p : Int32} (h1 : 0 ≤ a ∧ a < nI n) (h2 : ¬ v < 0) (h3 : 2 ≤ t) (h4 : ¬ 7 < v) (h5 : t ≤ 20) (h6 : 0 ≤ p ∧ p ≤ 1) : wTh_ n a v t p = 0 := by
  unfold wTh_
  rw [f2_b (nb_i h1), if_neg h2, if_neg (Int32.not_lt.mpr h3), if_neg h4, if_neg (Int32.not_lt.mpr h5), uk_i h6]; rfl
theorem al_N {t i : Nat} (h2 : 2 ≤ t) (h20 : t ≤ 20) : ∀ j, ∃ x, x ≤ 19 ^ j ∧ al_ (nI t) i j = lN x
  | 0 => ⟨1, Nat.le_refl _, rfl⟩
  | j + 1 => by
    obtain ⟨x, h1, e⟩ := al_N (i := i) h2 h20 j
    have et : (nI t - 1).toInt64 = lN (t - 1) := by rw [pd1 (by omega), nI_l (by omega)]
    unfold al_
    rw [e, et]
    by_cases c : qb_ (nI i) j = 1
    · rw [if_pos c]
      refine ⟨x * 1, ?_, lN_mul x 1⟩
      rw [Nat.pow_succ]
      exact Nat.mul_le_mul h1 (by decide)
    · rw [if_neg c, lN_mul]
      refine ⟨x * (t - 1), ?_, rfl⟩
      rw [Nat.pow_succ]
      exact Nat.mul_le_mul h1 (by omega)
theorem wy_Ni {B : BayT} {k n t : Nat} (h2 : 2 ≤ t) (h20 : t ≤ 20) (hn : n ≤ 7) : ∀ i, ∃ x, x ≤ i * 19 ^ 7 ∧ wy_ B k n (nI t) i = lN x
  | 0 => ⟨0, Nat.zero_le _, rfl⟩
  | i + 1 => by
    obtain ⟨x, h1, e⟩ := wy_Ni (B := B) (k := k) h2 h20 hn i
    obtain ⟨y, h3, e2⟩ := al_N (i := i) h2 h20 n
    have h4 : 19 ^ n ≤ 19 ^ 7 := Nat.pow_le_pow_right (by decide) hn
    unfold wy_
    rw [e, e2]
    by_cases c : pl_ (th_ B i n) k = il_ (th_ B i n)
    · rw [if_pos c, lN_add]
      exact ⟨x + y, by rw [Nat.succ_mul]; omega, rfl⟩
    · rw [if_neg c]
      refine ⟨x, by rw [Nat.succ_mul]; exact Nat.le_trans h1 (Nat.le_add_right _ _), ?_⟩
      have e0 := lN_add x 0
      rw [Nat.add_zero] at e0
      exact e0
theorem wy_N {B : BayT} {k n t : Nat} (h2 : 2 ≤ t) (h20 : t ≤ 20) (hn : n ≤ 7) : ∃ x, x < 2 ^ 62 ∧ wy_ B k n (nI t) (p2_ n) = lN x := by
  obtain ⟨x, h1, e⟩ := wy_Ni (B := B) (k := k) h2 h20 hn (p2_ n)
  have h3 := p2_7 hn
  have h4 : p2_ n * 19 ^ 7 ≤ 128 * 19 ^ 7 := Nat.mul_le_mul_right _ h3
  exact ⟨x, Nat.lt_of_le_of_lt (Nat.le_trans h1 h4) (by decide), e⟩
theorem pwl_Nn {t : Nat} (h2 : 2 ≤ t) (h20 : t ≤ 20) : ∀ n, pw_l (nI t).toInt64 n = lN (t ^ n)
  | 0 => rfl
  | n + 1 => by
    show pw_l (nI t).toInt64 n * (nI t).toInt64 = _
    rw [pwl_Nn h2 h20 n, nI_l (by omega), lN_mul, Nat.pow_succ]
theorem pwl_N {t n : Nat} (h2 : 2 ≤ t) (h20 : t ≤ 20) (hn : n ≤ 7) : ∃ y, 0 < y ∧ y < 2 ^ 31 ∧ pw_l (nI t).toInt64 n = lN y := by
  refine ⟨t ^ n, Nat.pow_pos (by omega), ?_, pwl_Nn h2 h20 n⟩
  have h1 : t ^ n ≤ 20 ^ n := Nat.pow_le_pow_left h20 n
  have h3 : 20 ^ n ≤ 20 ^ 7 := Nat.pow_le_pow_right (by decide) hn
  exact Nat.lt_of_le_of_lt (Nat.le_trans h1 h3) (by decide)
theorem di_i {B : BayT} (hI : bI_ B) {k : Nat} (hk : k < sn_ B) : di_ B k = fr_ (pl_ B k) (il_ B) := di_fr (hI.2.1 k hk).2.2.1 hI.2.2.2.2.1
theorem sn_nz {B : BayT} (c : ¬ sn_ B = 0) (hn7 : sn_ B ≤ 7) : ¬ nI (sn_ B) = 0 := fun q => c ((jeq (b := 0) (by omega) (by decide)).mp q)
theorem mx_n {n : Nat} (h : 0 < n) (h7 : n ≤ 7) : mx1_ n = nI n := by
  have : n = 1 ∨ n = 2 ∨ n = 3 ∨ n = 4 ∨ n = 5 ∨ n = 6 ∨ n = 7 := by omega
  rcases this with e | e | e | e | e | e | e <;> subst e <;> decide
theorem q1_ {q : Int32} (h : 0 ≤ q ∧ q ≤ 2) (h0 : ¬ q = 0) (h2 : ¬ q = 2) : q = 1 := by
  obtain ⟨k, hk, rfl⟩ := pl_le (v := q) (n := 2) (by decide) h
  have : k = 0 ∨ k = 1 ∨ k = 2 := by omega
  rcases this with e | e | e
  · subst e; exact absurd rfl h0
  · subst e; rfl
  · subst e; exact absurd rfl h2
theorem q1n_ {q : Int32} (h : 0 ≤ q ∧ q ≤ 1) (h0 : ¬ q = 0) : q = 1 := by
  obtain ⟨k, hk, rfl⟩ := pl_le (v := q) (n := 1) (by decide) h
  have : k = 0 ∨ k = 1 := by omega
  rcases this with e | e
  · subst e; exact absurd rfl h0
  · subst e; rfl
theorem sh_0 {B : BayT} {q : Int32} (c : sn_ B = 0) (h : 0 ≤ q ∧ q ≤ 2) (h2 : ¬ q = 2) : 0 = (if q = 0 then su_ (jy_ B) (sn_ B) / mx1_ (sn_ B) else if q = 1 then su_ (jy_ B) (sn_ B) - su_ (jy_ B) (sn_ B) / mx1_ (sn_ B) * mx1_ (sn_ B) else bi_ (jy_ B) 0 (sn_ B)) := by
  rw [c]
  by_cases h0 : q = 0
  · rw [if_pos h0]; show (0 : Int32) = 0 / mx1_ 0; decide
  · rw [if_neg h0, if_pos (q1_ h h0 h2)]; show (0 : Int32) = 0 - 0 / mx1_ 0 * mx1_ 0; decide
theorem su_N {B : BayT} (hI : bI_ B) : ∃ x, x < 2 ^ 62 ∧ (su_ (pl_ B) (sn_ B)).toInt64 = lN x := by
  have hn := hI.1
  obtain ⟨m, h1, h2⟩ := su_b (f := pl_ B) (M := 30) (by decide) (sn_ B) hn fun k hk => (hI.2.1 k hk).2.2.1
  exact ⟨m, by omega, by rw [h2, nI_l (by omega)]⟩
theorem mean_0 {B : BayT} {p : Int32} (c : sn_ B = 0) (h : 0 ≤ p ∧ p ≤ 1) : p.toInt64 = it_ ((su_ (pl_ B) (sn_ B) : Int32).toInt64) ((mx1_ (sn_ B) : Int32).toInt64) p := by
  rw [c]
  by_cases h0 : p = 0
  · subst h0; show (0 : Int32).toInt64 = it_ ((0 : Int32).toInt64) ((mx1_ 0).toInt64) 0; decide +kernel
  · have h1 := q1n_ h h0
    subst h1; show (1 : Int32).toInt64 = it_ ((0 : Int32).toInt64) ((mx1_ 0).toInt64) 1; decide +kernel
theorem g3_lt {B : BayT} : ∀ v t, (g3_ B v).1 = some t → t < v
  | 0, t, h => by cases h
  | v + 1, t, h => by
    unfold g3_ at h
    by_cases c : sa_ B (nI v) = none
    · rw [if_pos c] at h; have := g3_lt v t h; omega
    · rw [if_neg c] at h; cases h; omega
theorem g3_a {B : BayT} {v : Nat} (c : sa_ B (nI v) = none) : g3_ B (v + 1) = g3_ B v := by
  show (if sa_ B (nI v) = none then _ else _) = _
  rw [if_pos c]
theorem g3_n {B : BayT} {v : Nat} (c : ¬ sa_ B (nI v) = none) : g3_ B (v + 1) = (some v, match (g3_ B v).1 with
    | none => (g3_ B v).2
    | some a => if (g3_ B v).2.2 < nI v - nI a then (some a, nI v - nI a) else (g3_ B v).2) := by
  show (if sa_ B (nI v) = none then _ else _) = _
  rw [if_neg c]; rfl
theorem g3_b {B : BayT} {v : Nat} (c : ¬ sa_ B (nI v) = none) (h : (g3_ B v).1 = none) : (g3_ B (v + 1)).2 = (g3_ B v).2 := by rw [g3_n c, h]
theorem g3_c {B : BayT} {v a : Nat} (c : ¬ sa_ B (nI v) = none) (h : (g3_ B v).1 = some a) (d : (g3_ B v).2.2 < nI v - nI a) : (g3_ B (v + 1)).2 = (some a, nI v - nI a) := by
  rw [g3_n c, h]; exact if_pos d
theorem g3_d {B : BayT} {v a : Nat} (c : ¬ sa_ B (nI v) = none) (h : (g3_ B v).1 = some a) (d : ¬ (g3_ B v).2.2 < nI v - nI a) : (g3_ B (v + 1)).2 = (g3_ B v).2 := by
  rw [g3_n c, h]; exact if_neg d
theorem g3_a2 {B : BayT} {v : Nat} {o : Option Nat} (c : sa_ B (nI v) = none) (h : (g3_ B v).1 = o) : oI_ (g3_ B (v + 1)).1 = oI_ o := by rw [g3_a c, h]
theorem g3_b2 {B : BayT} {v : Nat} (c : ¬ sa_ B (nI v) = none) : oI_ (g3_ B (v + 1)).1 = nI v := by rw [g3_n c]; rfl
def urw_ (M : MT) (v : Int32) : MT := mkM (mrf_ M) (mtp_ M) (mlt_ M) (mla_ M) (mtd_ M) (mkp_ M) (mof_ M) (mfa_ M) (upd (mrw_ M) (mrm_ M) v) (mhb_ M) (mtn_ M) (mrd_ M) (msm_ M) (mcu_ M) (mbk_ M) (mrm_ M + 1) (mhi_ M) (mik_ M) (mlw_ M) (mhg_ M) (msl_ M) (mlo_ M)
theorem dn_31 (x : Int32) : 0 ≤ dz_ x 31 ∧ dz_ x 31 ≤ 30 := by
  rw [dz_eq, ← dn_d]
  obtain ⟨m, hm, e⟩ := and31 x
  rw [e, show (65536 : Int32) = nI 65536 from rfl, pk_div hm (by decide) (by decide), show (31 : Int32) = nI 31 from rfl, pk_rem (by omega) (by decide) (by decide)]
  have h := Nat.mod_lt (m / 65536) (show 0 < 31 by decide)
  exact ⟨Int32.not_lt.mp (nI_pos (by omega)), (jle (b := 30) (by omega) (by decide)).mpr (by omega)⟩
theorem bI_layi {B : BayT} (hI : bI_ B) (z : Int32) : ∀ i, i ≤ sn_ B → bI_ (layz_ B z i)
  | 0, _ => bI_ui' hI (dn_31 _)
  | i + 1, h => by
    have ih := bI_layi hI z i (by omega)
    have h2 := bI_sq (B := layz_ B z i) ih (z := dz_ (nz_ (lqz_ B z i).1) 4 = 0) (k := i) (by show i < sn_ B; omega)
    rw [← layz_s (dz_ (nz_ (lqz_ B z i).1) 4 = 0) Iff.rfl]
    exact h2
theorem bI_lay {B : BayT} (hI : bI_ B) (z : Int32) : bI_ (layz_ B z (sn_ B)) := bI_layi hI z _ (Nat.le_refl _)
theorem cn_in {B : BayT} {ln tc ct : Nat} {rf : Nat → Int32} {q : Int32} (h : 11 ≤ q ∧ q ≤ 16) : cnX_ B ln tc ct rf q = rf (tn_ q - 10) := by
  obtain ⟨k, hk, rfl⟩ := pl_le (v := q) (n := 16) (by decide) ⟨Int32.le_trans (by decide) h.1, h.2⟩
  have h3 : 11 ≤ k := (jle (a := 11) (by decide) (by omega)).mp h.1
  have hne : ∀ j : Nat, j ≤ 8 → ¬ nI k = nI j := fun j hj e => by have := (jeq (by omega) (by omega)).mp e; omega
  unfold cnX_
  rw [if_neg (show ¬ nI k = (0 : Int32) from hne 0 (by decide)), if_neg (show ¬ nI k = (1 : Int32) from hne 1 (by decide)), if_neg (show ¬ nI k = (2 : Int32) from hne 2 (by decide)), if_neg (show ¬ nI k = (3 : Int32) from hne 3 (by decide)), if_neg (show ¬ nI k = (4 : Int32) from hne 4 (by decide)), if_neg (show ¬ nI k = (5 : Int32) from hne 5 (by decide)), if_neg (show ¬ nI k = (6 : Int32) from hne 6 (by decide)), if_neg (show ¬ nI k = (7 : Int32) from hne 7 (by decide)), if_neg (show ¬ nI k = (8 : Int32) from hne 8 (by decide)), if_pos h]
