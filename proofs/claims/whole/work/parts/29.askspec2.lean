/-! where the two sides go different ways: the ring, fractions, starts, powder, places, gaps -/
theorem ho_hs {B : BayT} {h : Nat} (hh : h ≤ 23) (e : ho_ B = nI h) : ∀ i, ho_ (hs_ i B) = nI ((h + i) % 24)
  | 0 => by show ho_ B = _; rw [e, Nat.add_zero, Nat.mod_eq_of_lt (by omega)]
  | i + 1 => by
    have ih := ho_hs hh e i
    show (if 23 < ho_ (hs_ i B) + 1 then 0 else ho_ (hs_ i B) + 1) = _
    rw [ih, nI_1]
    have h3 : (h + i) % 24 < 24 := Nat.mod_lt _ (by decide)
    by_cases c : (23 : Int32) < nI ((h + i) % 24 + 1)
    · rw [if_pos c]
      have c2 : 23 < (h + i) % 24 + 1 := (jlt (a := 23) (by decide) (by omega)).mp c
      rw [show (h + (i + 1)) % 24 = 0 by omega]; rfl
    · rw [if_neg c]
      have c2 : ¬ 23 < (h + i) % 24 + 1 := fun q => c ((jlt (a := 23) (by decide) (by omega)).mpr q)
      rw [show (h + (i + 1)) % 24 = (h + i) % 24 + 1 by omega]
theorem rg_no {A : BayT} : ∀ m i, (∀ j, i ≤ j → j < i + m → ¬ (il_ (hs_ (j + 1) A) = il_ A ∧ ho_ (hs_ (j + 1) A) = ho_ A)) → rg_ A m i = none
  | 0, _, _ => rfl
  | m + 1, i, h => by
    rw [rg_, if_neg (show ¬ (il_ (hb_ False (hs_ i A)) = il_ A ∧ ho_ (hb_ False (hs_ i A)) = ho_ A) from h i (Nat.le_refl _) (by omega))]
    exact rg_no m (i + 1) fun j h1 h2 => h j (by omega) (by omega)
theorem rg_yes {A : BayT} {t : Nat} : ∀ m i, i ≤ t → t < i + m → (il_ (hs_ (t + 1) A) = il_ A ∧ ho_ (hs_ (t + 1) A) = ho_ A) → (∀ j, i ≤ j → j < t → ¬ (il_ (hs_ (j + 1) A) = il_ A ∧ ho_ (hs_ (j + 1) A) = ho_ A)) → rg_ A m i = some (t + 1)
  | 0, i, h1, h2, _, _ => by omega
  | m + 1, i, h1, h2, h3, h4 => by
    by_cases e : i = t
    · subst e; rw [rg_, if_pos (show il_ (hb_ False (hs_ i A)) = il_ A ∧ ho_ (hb_ False (hs_ i A)) = ho_ A from h3)]
    · rw [rg_, if_neg (show ¬ (il_ (hb_ False (hs_ i A)) = il_ A ∧ ho_ (hb_ False (hs_ i A)) = ho_ A) from h4 i (Nat.le_refl _) (by omega))]
      exact rg_yes m (i + 1) (by omega) (by omega) h3 fun j a b => h4 j (by omega) b
def rgX_ (A : BayT) : Int32 := if il_ (hs_ 24 A) = il_ A then 24 else if il_ (hs_ 48 A) = il_ A then 48 else -9
theorem rg_eq {A : BayT} (hI : bI_ A) : rgX_ A = oI_ (rg_ A 48 0) := by
  obtain ⟨h, hh, e⟩ := rg9 23 (by decide) hI.2.2.2.2.2.2.1.1 hI.2.2.2.2.2.2.1.2
  have key : ∀ i, (ho_ (hs_ i A) = ho_ A ↔ i % 24 = 0) := by
    intro i
    rw [ho_hs hh e i, e, jeq (by have := Nat.mod_lt (h + i) (show 0 < 24 by decide); omega) (by omega)]
    omega
  unfold rgX_
  by_cases c1 : il_ (hs_ 24 A) = il_ A
  · rw [if_pos c1, rg_yes (t := 23) 48 0 (by omega) (by omega) ⟨c1, (key 24).mpr rfl⟩ (fun j _ h2 q => by have := (key (j + 1)).mp q.2; omega)]; rfl
  · rw [if_neg c1]
    by_cases c2 : il_ (hs_ 48 A) = il_ A
    · rw [if_pos c2, rg_yes (t := 47) 48 0 (by omega) (by omega) ⟨c2, (key 48).mpr rfl⟩ (fun j _ h2 q => by
        have h3 := (key (j + 1)).mp q.2
        have h4 : j = 23 := by omega
        subst h4
        exact c1 q.1)]; rfl
    · rw [if_neg c2, rg_no 48 0 (fun j _ h2 q => by
        have h3 := (key (j + 1)).mp q.2
        have h4 : j = 23 ∨ j = 47 := by omega
        rcases h4 with h4 | h4
        · subst h4; exact c1 q.1
        · subst h4; exact c2 q.1)]; rfl
theorem hs_hs (n : Nat) (B : BayT) : ∀ m, hs_ m (hs_ n B) = hs_ (n + m) B
  | 0 => rfl
  | m + 1 => by show hb_ False (hs_ m (hs_ n B)) = hb_ False (hs_ (n + m) B); rw [hs_hs n B m]
/-- fractions -/
def gcn_ : Nat → Nat → Nat → Nat
  | 0, a, _ => a
  | m + 1, a, b => if b = 0 then a else gcn_ m b (a % b)
theorem gc_n : ∀ m a b, a < 2 ^ 63 → b < 2 ^ 63 → gc_ m (lN a) (lN b) = lN (gcn_ m a b)
  | 0, _, _, _, _ => rfl
  | m + 1, a, b, ha, hb => by
    unfold gc_ gcn_
    by_cases c : b = 0
    · subst c; rw [if_pos (show lN 0 = (0 : Int64) from rfl), if_pos rfl]
    · rw [if_neg c, if_neg (show ¬ lN b = (0 : Int64) from fun q => c ((pk_lEQ (b := 0) hb (by decide)).mp q)), pk_lRem ha (by omega) hb]
      exact gc_n m b (a % b) hb (Nat.lt_trans (Nat.mod_lt _ (by omega)) hb)
theorem gcn_pos : ∀ m a b, (0 < a ∨ (0 < b ∧ 0 < m)) → 0 < gcn_ m a b
  | 0, a, b, h => by rcases h with h | h; exact h; omega
  | m + 1, a, b, h => by
    unfold gcn_
    by_cases c : b = 0
    · rw [if_pos c]; rcases h with h | h; exact h; omega
    · rw [if_neg c]; exact gcn_pos m b (a % b) (Or.inl (by omega))
theorem gcn_lt {N : Nat} : ∀ m a b, a < N → b < N → gcn_ m a b < N
  | 0, a, b, h, _ => h
  | m + 1, a, b, h1, h2 => by
    unfold gcn_
    by_cases c : b = 0
    · rw [if_pos c]; exact h1
    · rw [if_neg c]; exact gcn_lt m b (a % b) h2 (Nat.lt_trans (Nat.mod_lt _ (by omega)) h2)
theorem it_eq {a b : Nat} (ha : a < 2 ^ 63) (hb : b < 2 ^ 63) (h0 : 0 < b) (p : Int32) : it_ (lN a) (lN b) p = (if p = 0 then lN a else lN b) / gc_ 128 (lN a) (lN b) := by
  unfold it_
  rw [if_neg]
  rw [gc_n 128 a b ha hb]
  intro q
  have h1 := (pk_lLT (b := 1) (gcn_lt 128 a b ha hb) (by decide)).mp q
  have h2 := gcn_pos 128 a b (Or.inr ⟨h0, by decide⟩)
  omega
theorem gc_nz {a b : Nat} (ha : a < 2 ^ 63) (hb : b < 2 ^ 63) (h0 : 0 < b) : ¬ gc_ 128 (lN a) (lN b) = 0 := by
  rw [gc_n 128 a b ha hb]
  intro q
  have h1 := (pk_lEQ (b := 0) (gcn_lt 128 a b ha hb) (by decide)).mp q
  have h2 := gcn_pos 128 a b (Or.inr ⟨h0, by decide⟩)
  omega
/-- Euclid's way is short: i steps are gone -/
def eu_ (i a b : Nat) : Prop := (i = 0 ∧ a < 2 ^ 62 ∧ b < 2 ^ 31) ∨ (b ≤ a ∧ a < 2 ^ 31 ∧ a * b * 2 ^ i < 2 ^ 64)
theorem eu_s {i a b : Nat} (h : eu_ i a b) (hb : 0 < b) : eu_ (i + 1) b (a % b) := by
  have h1 : a % b < b := Nat.mod_lt _ hb
  rcases h with ⟨hi, ha, hb2⟩ | ⟨hba, ha, hp⟩
  · right
    subst hi
    refine ⟨by omega, hb2, ?_⟩
    have h2 : b * (a % b) < 2 ^ 31 * 2 ^ 31 := Nat.mul_lt_mul'' hb2 (by omega)
    omega
  · right
    refine ⟨by omega, by omega, ?_⟩
    have h3 : a % b + b ≤ a := by
      have h4 := Nat.div_add_mod a b
      have h5 : 1 ≤ a / b := Nat.div_pos hba hb
      have h6 : b * 1 ≤ b * (a / b) := Nat.mul_le_mul_left b h5
      omega
    have h7 : 2 * (a % b) ≤ a := by omega
    have h8 : b * (2 * (a % b)) ≤ b * a := Nat.mul_le_mul_left b h7
    have h9 : b * (2 * (a % b)) * 2 ^ i ≤ b * a * 2 ^ i := Nat.mul_le_mul_right _ h8
    have h10 : b * (a % b) * 2 ^ (i + 1) = b * (2 * (a % b)) * 2 ^ i := by
      rw [Nat.pow_succ, Nat.mul_comm (2 ^ i) 2, ← Nat.mul_assoc, Nat.mul_assoc b, Nat.mul_comm (a % b) 2]
    rw [h10]
    refine Nat.lt_of_le_of_lt h9 ?_
    rw [Nat.mul_comm b a]; exact hp
theorem eu_i {i a b : Nat} (h : eu_ i a b) (hb : 0 < b) : i < 64 := by
  rcases h with ⟨hi, -, -⟩ | ⟨hba, ha, hp⟩
  · omega
  · have h1 : 1 * 2 ^ i ≤ a * b * 2 ^ i := Nat.mul_le_mul_right _ (Nat.mul_pos (by omega) hb)
    have h2 : 2 ^ i < 2 ^ 64 := by omega
    exact (Nat.pow_lt_pow_iff_right (by decide)).mp h2
theorem eu_b {i a b : Nat} (h : eu_ i a b) : a < 2 ^ 62 ∧ b < 2 ^ 31 := by
  rcases h with ⟨-, ha, hb2⟩ | ⟨hba, ha, -⟩
  · exact ⟨ha, hb2⟩
  · exact ⟨by omega, by omega⟩
theorem gc_z0 (n : Nat) (a : Int64) : gc_ n a 0 = a := by cases n with
  | zero => rfl
  | succ n => rw [gc_, if_pos rfl]
theorem eu_gc {i a b : Nat} (h : eu_ i a b) (hb : 0 < b) : gc_ (128 - i) (lN a) (lN b) = gc_ (128 - (i + 1)) (lN b) (lN a - lN a / lN b * lN b) := by
  have h1 := eu_i h hb
  exact gc_s (by omega) (fun q => by have := (pk_lEQ (b := 0) (by have := (eu_b h).2; omega) (by decide)).mp q; omega)
/-- sums of small numbers -/
theorem su_b {f : Nat → Int32} {M : Nat} (hM : M < 100000) : ∀ n, n ≤ 7 → (∀ k, k < n → 0 ≤ f k ∧ f k ≤ nI M) → ∃ m, m ≤ M * n ∧ su_ f n = nI m
  | 0, _, _ => ⟨0, by omega, rfl⟩
  | n + 1, hn, h => by
    obtain ⟨m, h1, h2⟩ := su_b hM n (by omega) fun k hk => h k (by omega)
    obtain ⟨j, h3, h4⟩ := rg9 M (by omega) (h n (by omega)).1 (h n (by omega)).2
    refine ⟨m + j, by rw [Nat.mul_succ]; omega, ?_⟩
    show su_ f n + f n = _
    rw [h2, h4, nI_add]
theorem su_l {B : BayT} (hI : bI_ B) {i : Nat} (hi : i < sn_ B) : (su_ (pl_ B) i).toInt64 + (pl_ B i).toInt64 = (su_ (pl_ B) (i + 1)).toInt64 := by
  have hn := hI.1
  obtain ⟨m, h1, h2⟩ := su_b (f := pl_ B) (M := 30) (by decide) i (by omega) fun k hk => (hI.2.1 k (by omega)).2.2.1
  obtain ⟨j, h3, h4⟩ := rg9 30 (by decide) (hI.2.1 i hi).2.2.1.1 (hI.2.1 i hi).2.2.1.2
  show _ = (su_ (pl_ B) i + pl_ B i).toInt64
  rw [h2, h4, nI_add, nI_l (by omega), nI_l (by omega), nI_l (by omega), lN_add]
/-- from the greatest place down -/
def csd_ (B : BayT) (k n : Nat) : Nat → Int32
  | 0 => 0
  | i + 1 => if lead_ B k n (30 - i) then csd_ B k n i + 1 else csd_ B k n i
theorem csd_cs {B : BayT} {k n : Nat} : ∀ i, i ≤ 31 → csd_ B k n i + cs_ B k n (31 - i) = cs_ B k n 31
  | 0, _ => by show 0 + cs_ B k n 31 = _; exact Int32.zero_add _
  | i + 1, h => by
    have ih := csd_cs (B := B) (k := k) (n := n) i (by omega)
    rw [show 31 - i = (31 - (i + 1)) + 1 by omega] at ih
    rw [← ih]
    show (if lead_ B k n (30 - i) then csd_ B k n i + 1 else csd_ B k n i) + cs_ B k n (31 - (i + 1)) = csd_ B k n i + (if lead_ B k n (31 - (i + 1)) then cs_ B k n (31 - (i + 1)) + 1 else cs_ B k n (31 - (i + 1)))
    rw [show 31 - (i + 1) = 30 - i by omega]
    by_cases c : lead_ B k n (30 - i)
    · rw [if_pos c, if_pos c, Int32.add_assoc, Int32.add_comm 1, ← Int32.add_assoc]
    · rw [if_neg c, if_neg c]
theorem csd_31 (B : BayT) (k n : Nat) : csd_ B k n 31 = cs_ B k n 31 := by
  have h := csd_cs (B := B) (k := k) (n := n) 31 (Nat.le_refl _)
  rw [← h]
  exact (Int32.add_zero _).symm
theorem ls_d {B : BayT} {k n i : Nat} (h : i ≤ 30) : ls_ B k n (i + 1) (31 - (i + 1)) = if lead_ B k n (30 - i) then some (30 - i) else ls_ B k n i (31 - i) := by
  show (if lead_ B k n (31 - (i + 1)) then some (31 - (i + 1)) else ls_ B k n i (31 - (i + 1) + 1)) = _
  rw [show 31 - (i + 1) = 30 - i by omega, show 30 - i + 1 = 31 - i by omega]
theorem nI_sub9 {a b : Nat} (h : b ≤ a) : nI a - nI b = nI (a - b) := by
  have e : nI a = nI (a - b) + nI b := by rw [nI_add, Nat.sub_add_cancel h]
  rw [e, Int32.add_sub_cancel]
theorem sub_div_self9 (v c : Nat) : (v - c) / c = v / c - 1 := by
  have h := Nat.sub_mul_div v c 1
  rw [Nat.mul_one] at h; exact h
/-- POWDER beyond what it takes to sound once more makes no difference -/
def rp_ (T : BayT) (p : Nat → Int32) : BayT := mkB (kd_ T) (fg_ T) (pl_ T) p (jy_ T) (qt_ T) (sn_ T) (il_ T) (pa_ T) (ho_ T) (dy_ T)
def Qp_ (k c : Nat) (T : BayT) (p : Nat → Int32) : Prop := co_ (kd_ T k) (fg_ T k) = nI c ∧ c ≤ 5 ∧ (∀ j, ¬ j = k → p j = pw_ T j) ∧ ∃ v w : Nat, pw_ T k = nI v ∧ p k = nI w ∧ v ≤ 99 ∧ w ≤ 99 ∧ (c = 0 ∨ v / c = w / c)
theorem no_rp {k c : Nat} {T : BayT} {p : Nat → Int32} (h : Qp_ k c T p) (j : Nat) (a : Int32) : no_ (rp_ T p) j a = no_ T j a := by
  obtain ⟨hc, hc5, hj, v, w, hv, hw, h1, h2, h3⟩ := h
  have e : (p j < co_ (kd_ T j) (fg_ T j)) ↔ (pw_ T j < co_ (kd_ T j) (fg_ T j)) := by
    by_cases c1 : j = k
    · subst c1
      rw [hc, hv, hw, jlt (by omega) (by omega), jlt (by omega) (by omega)]
      rcases h3 with h3 | h3
      · subst h3; omega
      · by_cases c0 : c = 0
        · subst c0; omega
        · constructor
          · intro q
            have e1 : w / c = 0 := Nat.div_eq_of_lt q
            rw [e1] at h3
            exact Nat.lt_of_div_eq_zero (by omega) h3
          · intro q
            have e1 : v / c = 0 := Nat.div_eq_of_lt q
            rw [e1] at h3
            exact Nat.lt_of_div_eq_zero (by omega) h3.symm
    · rw [hj j c1]
  show (if qb_ (qt_ T) j = 1 ∨ pl_ T j = il_ T ∨ p j < co_ (kd_ T j) (fg_ T j) then 0 else ld_ (kd_ T j) (fg_ T j) a) = no_ T j a
  unfold no_
  by_cases c2 : qb_ (qt_ T) j = 1 ∨ pl_ T j = il_ T ∨ pw_ T j < co_ (kd_ T j) (fg_ T j)
  · rw [if_pos c2, if_pos]
    rcases c2 with c2 | c2 | c2
    · exact Or.inl c2
    · exact Or.inr (Or.inl c2)
    · exact Or.inr (Or.inr (e.mpr c2))
  · rw [if_neg c2, if_neg]
    rintro (q | q | q)
    · exact c2 (Or.inl q)
    · exact c2 (Or.inr (Or.inl q))
    · exact c2 (Or.inr (Or.inr (e.mp q)))
theorem lo_rp {k c : Nat} {T : BayT} {p : Nat → Int32} (h : Qp_ k c T p) (a : Int32) : ∀ n, lo_ (rp_ T p) a n = lo_ T a n
  | 0 => rfl
  | n + 1 => by
    have ih := lo_rp h a n
    show (match lo_ (rp_ T p) a n with
      | none => if 0 < no_ (rp_ T p) n a then some n else none
      | some t => if no_ (rp_ T p) t a < no_ (rp_ T p) n a ∨ (no_ (rp_ T p) n a = no_ (rp_ T p) t a ∧ di_ T n < di_ T t) then some n else some t) = lo_ T a (n + 1)
    rw [ih, no_rp h]
    cases hq : lo_ T a n with
    | none => show (if 0 < no_ T n a then some n else none) = lo_ T a (n + 1); unfold lo_; rw [hq]
    | some t =>
      show (if no_ (rp_ T p) t a < no_ T n a ∨ (no_ T n a = no_ (rp_ T p) t a ∧ di_ T n < di_ T t) then some n else some t) = lo_ T a (n + 1)
      rw [no_rp h]; unfold lo_; rw [hq]
theorem no_pw {T : BayT} {j : Nat} {a : Int32} (h : 0 < no_ T j a) : ¬ pw_ T j < co_ (kd_ T j) (fg_ T j) := by
  intro q
  unfold no_ at h
  rw [if_pos (Or.inr (Or.inr q))] at h
  exact absurd h (by decide)
theorem hb_rp {k c : Nat} {T : BayT} {p : Nat → Int32} (h : Qp_ k c T p) : hb_ False (rp_ T p) = rp_ (hb_ False T) (sp_ (rp_ T p) (sn_ T)) ∧ Qp_ k c (hb_ False T) (sp_ (rp_ T p) (sn_ T)) := by
  have e1 : dr2_ False (rp_ T p) = dr2_ False T := by
    unfold dr2_ lt_
    rw [show ho_ (rp_ T p) = ho_ T from rfl, show sn_ (rp_ T p) = sn_ T from rfl, lo_rp h]
    rfl
  refine ⟨?_, ?_⟩
  · show mkB (kd_ T) (fg_ T) (pl_ T) (sp_ (rp_ T p) (sn_ T)) (jb_ (pl_ T) (jy_ T) (sn_ T) (dr2_ False (rp_ T p))) (qt_ T) (sn_ T) (dr2_ False (rp_ T p)) (pa_ T) _ _ = _
    rw [e1]; rfl
  · have hno := no_rp h
    obtain ⟨hc, hc5, hj, v, w, hv, hw, h1, h2, h3⟩ := h
    refine ⟨hc, hc5, fun j hjk => ?_, ?_⟩
    · show sp_ (rp_ T p) (sn_ T) j = sp_ T (sn_ T) j
      unfold sp_
      rw [show ho_ (rp_ T p) = ho_ T from rfl, hno, show pw_ (rp_ T p) j = p j from rfl, hj j hjk]; rfl
    · by_cases c1 : k < sn_ T ∧ 0 < no_ T k (ho_ T)
      · have a1 := no_pw c1.2
        have a2 : 0 < no_ (rp_ T p) k (ho_ T) := by rw [hno]; exact c1.2
        have a3 := no_pw a2
        rw [hc, hv, jlt (by omega) (by omega)] at a1
        have a4 : ¬ p k < co_ (kd_ T k) (fg_ T k) := a3
        rw [hc, hw, jlt (by omega) (by omega)] at a4
        refine ⟨v - c, w - c, ?_, ?_, by omega, by omega, ?_⟩
        · show sp_ T (sn_ T) k = _
          unfold sp_
          rw [if_pos c1, hv, hc]
          exact nI_sub9 (by omega)
        · show sp_ (rp_ T p) (sn_ T) k = _
          unfold sp_
          rw [show ho_ (rp_ T p) = ho_ T from rfl, hno, if_pos c1]
          show p k - co_ (kd_ T k) (fg_ T k) = _
          rw [hw, hc]
          exact nI_sub9 (by omega)
        · rcases h3 with h3 | h3
          · exact Or.inl h3
          · right
            rw [sub_div_self9, sub_div_self9, h3]
      · refine ⟨v, w, ?_, ?_, h1, h2, h3⟩
        · show sp_ T (sn_ T) k = _
          unfold sp_
          rw [if_neg c1, hv]
        · show sp_ (rp_ T p) (sn_ T) k = _
          unfold sp_
          rw [show ho_ (rp_ T p) = ho_ T from rfl, hno, if_neg c1]
          exact hw
theorem hs_rp {k c : Nat} {T : BayT} {p : Nat → Int32} (h : Qp_ k c T p) : ∀ n, ∃ q, hs_ n (rp_ T p) = rp_ (hs_ n T) q ∧ Qp_ k c (hs_ n T) q
  | 0 => ⟨p, rfl, h⟩
  | n + 1 => by
    obtain ⟨q, h1, h2⟩ := hs_rp h n
    obtain ⟨a1, a2⟩ := hb_rp h2
    exact ⟨_, by show hb_ False (hs_ n (rp_ T p)) = _; rw [h1]; exact a1, a2⟩
theorem tc_rp {k c : Nat} {T : BayT} {p : Nat → Int32} (h : Qp_ k c T p) (j : Nat) : ∀ n, tc_ (rp_ T p) j n = tc_ T j n
  | 0 => rfl
  | n + 1 => by
    have ih := tc_rp h j n
    obtain ⟨q, h1, -⟩ := hs_rp h (n + 1)
    have h2 : hb_ False (hs_ n (rp_ T p)) = rp_ (hb_ False (hs_ n T)) q := h1
    unfold tc_
    rw [ih, h2]; rfl
theorem tc_uw {B : BayT} {k v w c n : Nat} (hc : co_ (kd_ B k) (fg_ B k) = nI c) (hc5 : c ≤ 5) (hv : v ≤ 99) (hw : w ≤ 99) (h : c = 0 ∨ v / c = w / c) : tc_ (uw_ B k (nI w)) k n = tc_ (uw_ B k (nI v)) k n := by
  have e : uw_ B k (nI w) = rp_ (uw_ B k (nI v)) (upd (pw_ B) k (nI w)) := rfl
  rw [e]
  have h9 : Qp_ k c (uw_ B k (nI v)) (upd (pw_ B) k (nI w)) := by
   refine ⟨hc, hc5, fun j hj => ?_, v, w, ?_, ?_, hv, hw, h⟩
   · show upd (pw_ B) k (nI w) j = upd (pw_ B) k (nI v) j
     unfold upd; rw [if_neg hj, if_neg hj]
   · show upd (pw_ B) k (nI v) k = _
     unfold upd; rw [if_pos rfl]
   · unfold upd; rw [if_pos rfl]
  exact tc_rp h9 k n
theorem tc_n (T : BayT) (k : Nat) : ∀ n, ∃ m, m ≤ n ∧ tc_ T k n = nI m
  | 0 => ⟨0, Nat.le_refl _, rfl⟩
  | n + 1 => by
    obtain ⟨m, h1, h2⟩ := tc_n T k n
    unfold tc_
    by_cases c : pl_ (hb_ False (hs_ n T)) k = il_ (hb_ False (hs_ n T))
    · rw [if_pos c, h2]; exact ⟨m + 1, by omega, nI_1 m⟩
    · rw [if_neg c, h2]; exact ⟨m, by omega, rfl⟩
theorem tc_pos (T : BayT) (k : Nat) {n : Nat} (h : n ≤ 99) : 0 ≤ tc_ T k n := by
  obtain ⟨m, h1, h2⟩ := tc_n T k n
  rw [h2]; exact Int32.not_lt.mp (nI_pos (by omega))
/-- the least of the best among all numbers below n -/
def am_ (f : Nat → Int32) (n t : Nat) : Prop := t < n ∧ ∀ v, v < n → f v ≤ f t ∧ (f v = f t → t ≤ v)
theorem am_u {f : Nat → Int32} {n t u : Nat} (h1 : am_ f n t) (h2 : am_ f n u) : t = u := by
  have a := h1.2 u h2.1
  have b := h2.2 t h1.1
  have e : f t = f u := Int32.le_antisymm b.1 a.1
  have c := a.2 e.symm
  have d := b.2 e
  omega
theorem bs_am {f : Nat → Int32} {m0 : Int32} (h0 : ∀ v, m0 < f v) : ∀ n, 0 < n → ∃ t, bs_ f m0 n = (some t, f t) ∧ am_ f n t
  | 0, h => absurd h (Nat.lt_irrefl 0)
  | n + 1, _ => by
    by_cases hn : n = 0
    · subst hn
      refine ⟨0, ?_, by omega, fun v hv => ?_⟩
      · show (if m0 < f 0 then (some 0, f 0) else bs_ f m0 0) = _
        rw [if_pos (h0 0)]
      · have e : v = 0 := by omega
        subst e; exact ⟨Int32.le_refl _, fun _ => Nat.le_refl _⟩
    · obtain ⟨t, h1, h2, h3⟩ := bs_am h0 n (by omega)
      have e : bs_ f m0 (n + 1) = if f t < f n then (some n, f n) else (some t, f t) := by
        show (if (bs_ f m0 n).2 < f n then (some n, f n) else bs_ f m0 n) = _
        rw [h1]
      by_cases c : f t < f n
      · refine ⟨n, by rw [e, if_pos c], by omega, fun v hv => ?_⟩
        by_cases ev : v = n
        · subst ev; exact ⟨Int32.le_refl _, fun _ => Nat.le_refl _⟩
        · have a := h3 v (by omega)
          have b := Int32.lt_of_le_of_lt a.1 c
          exact ⟨Int32.le_of_lt b, fun q => by rw [q] at b; exact absurd b Int32.lt_irrefl⟩
      · refine ⟨t, by rw [e, if_neg c], by omega, fun v hv => ?_⟩
        by_cases ev : v = n
        · subst ev; exact ⟨Int32.not_lt.mp c, fun _ => by omega⟩
        · exact h3 v (by omega)
theorem bp_am {f : Nat → Int32} {s : Nat} (hs : 0 < s) (hb : ∀ q v, s * q ≤ v → v < s * q + s → v ≤ 99 → f v = f (s * q)) : ∀ m q t, 100 < s * q + m → t < s * q → t ≤ 99 → (∀ v, v < s * q → v ≤ 99 → f v ≤ f t ∧ (f v = f t → t ≤ v)) → ∃ u, bp_ f s m (s * q) (nI t) (f t) = nI u ∧ am_ f 100 u
  | 0, q, t, h1, h2, h3, h4 => ⟨t, rfl, by omega, fun v hv => h4 v (by omega) (by omega)⟩
  | m + 1, q, t, h1, h2, h3, h4 => by
    have e0 : s * q + s = s * (q + 1) := (Nat.mul_succ s q).symm
    by_cases c : 99 < s * q
    · exact ⟨t, by rw [bp_, if_pos c], by omega, fun v hv => h4 v (by omega) (by omega)⟩
    · by_cases c2 : f t < f (s * q)
      · have e : bp_ f s (m + 1) (s * q) (nI t) (f t) = bp_ f s m (s * (q + 1)) (nI (s * q)) (f (s * q)) := by
          rw [bp_, if_neg c, if_pos c2, e0]
        rw [e]
        refine bp_am hs hb m (q + 1) (s * q) (by omega) (by omega) (by omega) fun v hv hv2 => ?_
        by_cases hq : v < s * q
        · have a := h4 v hq hv2
          have b := Int32.lt_of_le_of_lt a.1 c2
          exact ⟨Int32.le_of_lt b, fun z => by rw [z] at b; exact absurd b Int32.lt_irrefl⟩
        · have a := hb q v (by omega) (by omega) hv2
          rw [a]; exact ⟨Int32.le_refl _, fun _ => by omega⟩
      · have e : bp_ f s (m + 1) (s * q) (nI t) (f t) = bp_ f s m (s * (q + 1)) (nI t) (f t) := by
          rw [bp_, if_neg c, if_neg c2, e0]
        rw [e]
        refine bp_am hs hb m (q + 1) t (by omega) (by omega) h3 fun v hv hv2 => ?_
        by_cases hq : v < s * q
        · exact h4 v hq hv2
        · have a := hb q v (by omega) (by omega) hv2
          rw [a]; exact ⟨Int32.not_lt.mp c2, fun _ => by omega⟩
theorem bp_eq {f : Nat → Int32} {s : Nat} (hs : 0 < s) (h0 : ∀ v, 0 ≤ f v) (hb : ∀ q v, s * q ≤ v → v < s * q + s → v ≤ 99 → f v = f (s * q)) : ∃ t, bp_ f s 101 0 0 0 = nI t ∧ bs_ f (-9) 100 = (some t, f t) ∧ t < 100 := by
  obtain ⟨t, h1, h2⟩ := bs_am (f := f) (m0 := -9) (fun v => Int32.lt_of_lt_of_le (by decide) (h0 v)) 100 (by decide)
  have e : bp_ f s 101 0 0 0 = bp_ f s 100 (s * 1) (nI 0) (f 0) := by
    rw [bp_, if_neg (by decide), Nat.zero_add, Nat.mul_one]
    by_cases c : 0 < f 0
    · rw [if_pos c]
    · rw [if_neg c, show f 0 = 0 from Int32.le_antisymm (Int32.not_lt.mp c) (h0 0)]; rfl
  obtain ⟨u, h3, h4⟩ := bp_am hs hb 100 1 0 (by omega) (by omega) (by omega) fun v hv hv2 => by
    have a := hb 0 v (by omega) (by omega) hv2
    rw [Nat.mul_zero] at a
    rw [a]; exact ⟨Int32.le_refl _, fun _ => Nat.zero_le _⟩
  have e2 := am_u h2 h4
  subst e2
  exact ⟨t, e.trans h3, h1, h2.1⟩
def bz_ : Option Nat → Int32
  | none => 0
  | some t => nI t
theorem bpX_eq {B : BayT} {k n : Nat} (hn : n ≤ 99) : ∃ t, bpX_ B k n = nI t ∧ bs_ (fun j => tc_ (uw_ B k (nI j)) k n) (-9) 100 = (some t, tc_ (uw_ B k (nI t)) k n) ∧ t < 100 := by
  have hct := ct_b B k
  refine bp_eq (f := fun j => tc_ (uw_ B k (nI j)) k n) hct.1 (fun v => tc_pos _ _ hn) ?_
  intro q v h1 h2 h3
  rcases co_c (kd_ B k) (fg_ B k) with c | c | c
  · have e : ct_ B k = 100 := by unfold ct_; rw [c]; rfl
    exact tc_uw (c := 0) c (by omega) (by omega) h3 (Or.inl rfl)
  · have e : ct_ B k = 1 := by unfold ct_; rw [c]; rfl
    rw [e] at h1 h2 ⊢
    have ev : v = 1 * q := by omega
    rw [ev]
  · have e : ct_ B k = 5 := by unfold ct_; rw [c]; rfl
    rw [e] at h1 h2 ⊢
    refine tc_uw (c := 5) c (by omega) (by omega) h3 (Or.inr ?_)
    omega
/-- the best place for a new shore: -9 where one is, and at first -/
def n9_ (B : BayT) (w : Int32) (n : Nat) : Nat → Int32 := fun j => if sa_ B (nI j) = none then tc_ (ad_ B w 5 (nI j)) (sn_ B) n else -9
theorem n9_np {B : BayT} {w : Int32} {n : Nat} (hn : n ≤ 99) : ∀ i, (bs_ (n9_ B w n) (-9) i).1 = (bs_ (np_ B w n) (-1) i).1 ∧ (((bs_ (np_ B w n) (-1) i).1 = none ∧ (bs_ (n9_ B w n) (-9) i).2 = -9 ∧ (bs_ (np_ B w n) (-1) i).2 = -1) ∨ ∃ t, (bs_ (np_ B w n) (-1) i).1 = some t ∧ (bs_ (n9_ B w n) (-9) i).2 = (bs_ (np_ B w n) (-1) i).2 ∧ (bs_ (np_ B w n) (-1) i).2 = tc_ (ad_ B w 5 (nI t)) (sn_ B) n ∧ 0 ≤ (bs_ (np_ B w n) (-1) i).2)
  | 0 => ⟨rfl, Or.inl ⟨rfl, rfl, rfl⟩⟩
  | i + 1 => by
    obtain ⟨h1, h2⟩ := n9_np (B := B) (w := w) hn i
    have eA : bs_ (n9_ B w n) (-9) (i + 1) = if (bs_ (n9_ B w n) (-9) i).2 < n9_ B w n i then (some i, n9_ B w n i) else bs_ (n9_ B w n) (-9) i := rfl
    have eB : bs_ (np_ B w n) (-1) (i + 1) = if (bs_ (np_ B w n) (-1) i).2 < np_ B w n i then (some i, np_ B w n i) else bs_ (np_ B w n) (-1) i := rfl
    by_cases c : sa_ B (nI i) = none
    · have a1 : n9_ B w n i = tc_ (ad_ B w 5 (nI i)) (sn_ B) n := if_pos c
      have a2 : np_ B w n i = tc_ (ad_ B w 5 (nI i)) (sn_ B) n := if_pos c
      have a3 := tc_pos (ad_ B w 5 (nI i)) (sn_ B) hn
      rcases h2 with ⟨b1, b2, b3⟩ | ⟨t, b1, b2, b3, b4⟩
      · have x1 : (bs_ (n9_ B w n) (-9) i).2 < n9_ B w n i := by rw [b2, a1]; exact Int32.lt_of_lt_of_le (by decide) a3
        have x2 : (bs_ (np_ B w n) (-1) i).2 < np_ B w n i := by rw [b3, a2]; exact Int32.lt_of_lt_of_le (by decide) a3
        rw [eA, eB, if_pos x1, if_pos x2]
        exact ⟨rfl, Or.inr ⟨i, rfl, a1.trans a2.symm, a2, by rw [a2]; exact a3⟩⟩
      · by_cases x2 : (bs_ (np_ B w n) (-1) i).2 < np_ B w n i
        · have x1 : (bs_ (n9_ B w n) (-9) i).2 < n9_ B w n i := by rw [b2, a1, ← a2]; exact x2
          rw [eA, eB, if_pos x1, if_pos x2]
          exact ⟨rfl, Or.inr ⟨i, rfl, a1.trans a2.symm, a2, by rw [a2]; exact a3⟩⟩
        · have x1 : ¬ (bs_ (n9_ B w n) (-9) i).2 < n9_ B w n i := by rw [b2, a1, ← a2]; exact x2
          rw [eA, eB, if_neg x1, if_neg x2]
          exact ⟨h1, Or.inr ⟨t, b1, b2, b3, b4⟩⟩
    · have a1 : n9_ B w n i = -9 := if_neg c
      have a2 : np_ B w n i = -1 := if_neg c
      have x1 : ¬ (bs_ (n9_ B w n) (-9) i).2 < n9_ B w n i := by
        rw [a1]
        rcases h2 with ⟨b1, b2, b3⟩ | ⟨t, b1, b2, b3, b4⟩
        · rw [b2]; decide
        · rw [b2]; exact Int32.not_lt.mpr (Int32.le_trans (by decide) b4)
      have x2 : ¬ (bs_ (np_ B w n) (-1) i).2 < np_ B w n i := by
        rw [a2]
        rcases h2 with ⟨b1, b2, b3⟩ | ⟨t, b1, b2, b3, b4⟩
        · rw [b3]; decide
        · exact Int32.not_lt.mpr (Int32.le_trans (by decide) b4)
      rw [eA, eB, if_neg x1, if_neg x2]
      exact ⟨h1, h2⟩
theorem npX_eq {B : BayT} {w : Int32} {n : Nat} (hn : n ≤ 99) (h7 : sn_ B < 7) (q : Int32) : npX_ B w n q = if q = 0 then oI_ (bs_ (n9_ B w n) (-9) 31).1 else (bs_ (n9_ B w n) (-9) 31).2 := by
  obtain ⟨h1, h2⟩ := n9_np (B := B) (w := w) hn 31
  unfold npX_
  rw [if_pos h7]
  by_cases c : q = 0
  · rw [if_pos c, if_pos c, h1]
  · rw [if_neg c, if_neg c]
    rcases h2 with ⟨b1, b2, b3⟩ | ⟨t, b1, b2, b3, b4⟩
    · rw [b1, b2]
    · rw [b1, b2, b3]
theorem npX_7 {B : BayT} {w : Int32} {n : Nat} (h7 : ¬ sn_ B < 7) (q : Int32) : npX_ B w n q = -9 := by
  unfold npX_
  rw [if_neg h7]
  by_cases c : q = 0
  · rw [if_pos c]; rfl
  · rw [if_neg c]
/-- gaps from place to place -/
def g3_ (B : BayT) : Nat → Option Nat × Option Nat × Int32
  | 0 => (none, none, -9)
  | v + 1 => if sa_ B (nI v) = none then g3_ B v else (some v, match (g3_ B v).1 with
    | none => (g3_ B v).2
    | some a => if (g3_ B v).2.2 < nI v - nI a then (some a, nI v - nI a) else (g3_ B v).2)
theorem nx_no {B : BayT} : ∀ m i, (∀ j, i ≤ j → j < i + m → sa_ B (nI j) = none) → nx_ B m i = none
  | 0, _, _ => rfl
  | m + 1, i, h => by
    rw [nx_, if_pos (h i (Nat.le_refl _) (by omega))]
    exact nx_no m (i + 1) fun j h1 h2 => h j (by omega) (by omega)
theorem nx_yes {B : BayT} {t : Nat} : ∀ m i, i ≤ t → t < i + m → ¬ sa_ B (nI t) = none → (∀ j, i ≤ j → j < t → sa_ B (nI j) = none) → nx_ B m i = some t
  | 0, i, h1, h2, _, _ => by omega
  | m + 1, i, h1, h2, h3, h4 => by
    by_cases e : i = t
    · subst e; rw [nx_, if_neg h3]
    · rw [nx_, if_pos (h4 i (Nat.le_refl _) (by omega))]
      exact nx_yes m (i + 1) (by omega) (by omega) h3 fun j a b => h4 j (by omega) b
theorem wg_0 (B : BayT) : ∀ n, 0 ≤ (wg_ B n).2
  | 0 => Int32.le_refl _
  | n + 1 => by
    have ih := wg_0 B n
    unfold wg_
    by_cases c : (wg_ B n).2 < gf_ B n
    · rw [if_pos c]; exact Int32.le_of_lt (Int32.lt_of_le_of_lt ih c)
    · rw [if_neg c]; exact ih
theorem wg_2 {B : BayT} : ∀ n t, (wg_ B n).1 = some t → (wg_ B n).2 = gf_ B t
  | 0, t, h => by cases h
  | n + 1, t, h => by
    unfold wg_ at h ⊢
    by_cases c : (wg_ B n).2 < gf_ B n
    · rw [if_pos c] at h ⊢; cases h; rfl
    · rw [if_neg c] at h ⊢; exact wg_2 n t h
theorem wg_sk {B : BayT} {a : Nat} : ∀ m, (∀ j, a ≤ j → j < a + m → gf_ B j = 0) → wg_ B (a + m) = wg_ B a
  | 0, _ => rfl
  | m + 1, h => by
    have ih := wg_sk (B := B) (a := a) m fun j h1 h2 => h j h1 (by omega)
    show (if (wg_ B (a + m)).2 < gf_ B (a + m) then (some (a + m), gf_ B (a + m)) else wg_ B (a + m)) = wg_ B a
    rw [h (a + m) (by omega) (by omega), if_neg (Int32.not_lt.mpr (wg_0 B _))]
    exact ih
theorem gf_n {B : BayT} {j : Nat} (h : sa_ B (nI j) = none) : gf_ B j = 0 := by unfold gf_; rw [if_pos h]
theorem gf_y {B : BayT} {a t : Nat} (ha : ¬ sa_ B (nI a) = none) (h1 : a < t) (h2 : t ≤ 30) (h3 : ¬ sa_ B (nI t) = none) (h4 : ∀ j, a < j → j < t → sa_ B (nI j) = none) : gf_ B a = nI t - nI a := by
  unfold gf_
  rw [if_neg ha, nx_yes (t := t) (31 - (a + 1)) (a + 1) (by omega) (by omega) h3 fun j x y => h4 j (by omega) y]; rfl
theorem gf_z {B : BayT} {a : Nat} (ha : ¬ sa_ B (nI a) = none) (h4 : ∀ j, a < j → j < 31 → sa_ B (nI j) = none) : gf_ B a = 0 := by
  unfold gf_
  rw [if_neg ha, nx_no (31 - (a + 1)) (a + 1) fun j x y => h4 j (by omega) (by omega)]; rfl
def gR_ (B : BayT) (v : Nat) (x : Option Nat × Option Nat × Int32) : Prop := (x.1 = none ∧ x.2 = (none, -9) ∧ ∀ j, j < v → sa_ B (nI j) = none) ∨ (∃ a, x.1 = some a ∧ a < v ∧ ¬ sa_ B (nI a) = none ∧ (∀ j, a < j → j < v → sa_ B (nI j) = none) ∧ (wg_ B a).1 = x.2.1 ∧ ((x.2.1 = none ∧ x.2.2 = -9 ∧ (wg_ B a).2 = 0) ∨ (¬ x.2.1 = none ∧ x.2.2 = (wg_ B a).2)))
theorem g3_R {B : BayT} : ∀ v, v ≤ 31 → gR_ B v (g3_ B v)
  | 0, _ => Or.inl ⟨rfl, rfl, fun j hj => absurd hj (Nat.not_lt_zero _)⟩
  | v + 1, hv => by
    have ih := g3_R (B := B) v (by omega)
    by_cases c : sa_ B (nI v) = none
    · have e : g3_ B (v + 1) = g3_ B v := by show (if sa_ B (nI v) = none then _ else _) = _; rw [if_pos c]
      rw [e]
      rcases ih with ⟨h1, h2, h3⟩ | ⟨a, h1, h2, h3, h4, h5, h6⟩
      · refine Or.inl ⟨h1, h2, fun j hj => ?_⟩
        by_cases q : j = v
        · subst q; exact c
        · exact h3 j (by omega)
      · refine Or.inr ⟨a, h1, by omega, h3, fun j x y => ?_, h5, h6⟩
        by_cases q : j = v
        · subst q; exact c
        · exact h4 j x (by omega)
    · rcases ih with ⟨h1, h2, h3⟩ | ⟨a, h1, h2, h3, h4, h5, h6⟩
      · have e : g3_ B (v + 1) = (some v, none, -9) := by
          show (if sa_ B (nI v) = none then _ else _) = _
          rw [if_neg c, h1]
          show (some v, (g3_ B v).2) = _
          rw [h2]
        rw [e]
        refine Or.inr ⟨v, rfl, by omega, c, fun j x y => by omega, ?_, Or.inl ⟨rfl, rfl, ?_⟩⟩
        · have q := wg_sk (B := B) (a := 0) v fun j _ y => gf_n (h3 j (by omega))
          rw [Nat.zero_add] at q; rw [q]; rfl
        · have q := wg_sk (B := B) (a := 0) v fun j _ y => gf_n (h3 j (by omega))
          rw [Nat.zero_add] at q; rw [q]; rfl
      · have eg := gf_y h3 h2 (by omega) c h4
        have hpos : 0 < nI v - nI a := by rw [nI_sub9 (by omega)]; exact (jlt (a := 0) (by decide) (by omega)).mpr (by omega)
        have ew : wg_ B v = if (wg_ B a).2 < nI v - nI a then (some a, nI v - nI a) else wg_ B a := by
          have q := wg_sk (B := B) (a := a + 1) (v - (a + 1)) fun j x y => gf_n (h4 j (by omega) (by omega))
          rw [show a + 1 + (v - (a + 1)) = v by omega] at q
          rw [q]
          show (if (wg_ B a).2 < gf_ B a then (some a, gf_ B a) else wg_ B a) = _
          rw [eg]
        have e : g3_ B (v + 1) = (some v, if (g3_ B v).2.2 < nI v - nI a then (some a, nI v - nI a) else (g3_ B v).2) := by
          show (if sa_ B (nI v) = none then _ else _) = _
          rw [if_neg c, h1]
        rcases h6 with ⟨b1, b2, b3⟩ | ⟨b1, b2⟩
        · have x1 : (g3_ B v).2.2 < nI v - nI a := by rw [b2]; exact Int32.lt_trans (by decide) hpos
          have x2 : (wg_ B a).2 < nI v - nI a := by rw [b3]; exact hpos
          rw [e, if_pos x1]
          rw [if_pos x2] at ew
          refine Or.inr ⟨v, rfl, by omega, c, fun j x y => by omega, by rw [ew], Or.inr ⟨(fun q => by cases q), by rw [ew]⟩⟩
        · by_cases x2 : (wg_ B a).2 < nI v - nI a
          · have x1 : (g3_ B v).2.2 < nI v - nI a := by rw [b2]; exact x2
            rw [e, if_pos x1]
            rw [if_pos x2] at ew
            refine Or.inr ⟨v, rfl, by omega, c, fun j x y => by omega, by rw [ew], Or.inr ⟨(fun q => by cases q), by rw [ew]⟩⟩
          · have x1 : ¬ (g3_ B v).2.2 < nI v - nI a := by rw [b2]; exact x2
            rw [e, if_neg x1]
            rw [if_neg x2] at ew
            refine Or.inr ⟨v, rfl, by omega, c, fun j x y => by omega, by rw [ew]; exact h5, Or.inr ⟨b1, by rw [ew]; exact b2⟩⟩
theorem g3_wg (B : BayT) : oI_ (g3_ B 31).2.1 = oI_ (wg_ B 31).1 ∧ (g3_ B 31).2.2 = gWg_ B := by
  rcases g3_R (B := B) 31 (Nat.le_refl _) with ⟨h1, h2, h3⟩ | ⟨a, h1, h2, h3, h4, h5, h6⟩
  · have q := wg_sk (B := B) (a := 0) 31 fun j _ y => gf_n (h3 j (by omega))
    have q2 : wg_ B 31 = (none, 0) := q
    rw [h2]
    unfold gWg_
    rw [q2]; exact ⟨rfl, rfl⟩
  · have eg := gf_z h3 h4
    have q := wg_sk (B := B) (a := a) (31 - a) fun j x y => by
      by_cases e : j = a
      · subst e; exact eg
      · exact gf_n (h4 j (by omega) (by omega))
    rw [show a + (31 - a) = 31 by omega] at q
    unfold gWg_
    rw [q, h5]
    refine ⟨rfl, ?_⟩
    rcases h6 with ⟨b1, b2, b3⟩ | ⟨b1, b2⟩
    · rw [b1]; exact b2
    · cases hx : (g3_ B 31).2.1 with
      | none => exact absurd hx b1
      | some t =>
        rw [b2]
        exact wg_2 a t (h5.trans hx)
/-! more of the reference's ways -/
/-- all that a question may leave: the row in mind alone -/
def oN_ (M u : MT) : Prop := mrf_ u = mrf_ M ∧ mtp_ u = mtp_ M ∧ mrw_ u = mrw_ M ∧ mtn_ u = mtn_ M ∧ mhi_ u = mhi_ M ∧ mbk_ u = mbk_ M ∧ mrm_ u = mrm_ M ∧ ∀ j : Nat, ¬ j = 2 → mkp_ u j = mkp_ M j
theorem oN_.rf (M : MT) : oN_ M M := ⟨rfl, rfl, rfl, rfl, rfl, rfl, rfl, fun _ _ => rfl⟩
theorem oN_.tr {M u v : MT} (h1 : oN_ M u) (h2 : oN_ u v) : oN_ M v := by
  obtain ⟨a1, a2, a3, a4, a5, a6, a7, a8⟩ := h1
  obtain ⟨b1, b2, b3, b4, b5, b6, b7, b8⟩ := h2
  exact ⟨b1.trans a1, b2.trans a2, b3.trans a3, b4.trans a4, b5.trans a5, b6.trans a6, b7.trans a7, fun j hj => (b8 j hj).trans (a8 j hj)⟩
theorem oN_.m {M u : MT} (h : oN_ M u) : oM_ M u := by
  obtain ⟨b1, b2, b3, b4, b5, b6, b7, b8⟩ := h
  exact ⟨b1, b2, b3, b4, b5, b6, b7, fun j hj => b8 j (by omega)⟩
theorem oN_fo (M : MT) (B : BayT) (a i : Nat) : oN_ M (pu_ (fom_ M B a i) 2) := ⟨rfl, rfl, rfl, rfl, rfl, rfl, rfl, fun j hj => va_up_ne _ _ hj⟩
theorem oN_pp (M : MT) (B : BayT) : oN_ M (pu_ (pk_ M 2 B) 2) := ⟨rfl, rfl, rfl, rfl, rfl, rfl, rfl, fun j hj => va_up_ne _ _ hj⟩
theorem oM_ch {M u : MT} {B : BayT} (h : oN_ (pk_ M 1 B) u) : oM_ M (pu_ u 1) := by
  obtain ⟨b1, b2, b3, b4, b5, b6, b7, b8⟩ := h
  exact ⟨b1, b2, b3, b4, b5, b6, b7, fun j hj => (b8 j (by omega)).trans (va_up_ne _ _ (by omega))⟩
theorem oM_c1 (M : MT) (B : BayT) : oM_ M (pu_ (pk_ M 1 B) 1) := ⟨rfl, rfl, rfl, rfl, rfl, rfl, rfl, fun j hj => va_up_ne _ _ (by omega)⟩
/-- bays that a question makes in mind are bays -/
theorem p2_lt {a b : Nat} (h : a < b) : p2_ a < p2_ b := Nat.pow_lt_pow_right (by decide) h
theorem p2_pos (a : Nat) : 0 < p2_ a := Nat.pow_pos (by decide)
theorem or_lt {a b n : Nat} (ha : a < p2_ n) (hb : b < p2_ n) : a ||| b < p2_ n := Nat.or_lt_two_pow ha hb
theorem nI_or (a b : Nat) : nI a ||| nI b = nI (a ||| b) := by
  apply Int32.toBitVec_inj.1
  show BitVec.ofNat 32 a ||| BitVec.ofNat 32 b = BitVec.ofNat 32 (a ||| b)
  apply BitVec.eq_of_getLsbD_eq
  intro i hi
  simp [hi]
theorem bI_q {B : BayT} (hI : bI_ B) {q : Nat} (h : q < p2_ (sn_ B)) : bI_ (uq_ B (nI q)) := by
  obtain ⟨h1, h2, h3, h4, h5, h6, h7, h8⟩ := hI
  exact ⟨h1, h2, h3, ⟨q, h, rfl⟩, h5, h6, h7, h8⟩
theorem bI_or {B : BayT} (hI : bI_ B) {b : Nat} (h : b < p2_ (sn_ B)) : bI_ (uq_ B (qt_ B ||| nI b)) := by
  obtain ⟨q, hq, e⟩ := hI.2.2.2.1
  rw [e, nI_or]
  exact bI_q hI (or_lt hq h)
theorem bI_ui {B : BayT} (hI : bI_ B) {v : Nat} (h : v ≤ 30) : bI_ (ui_ B (nI v)) := by
  obtain ⟨h1, h2, h3, h4, h5, h6, h7, h8⟩ := hI
  exact ⟨h1, h2, h3, h4, ⟨Int32.not_lt.mp (nI_pos (by omega)), (jle (b := 30) (by omega) (by decide)).mpr h⟩, h6, h7, h8⟩
theorem bI_ui' {B : BayT} (hI : bI_ B) {v : Int32} (h : 0 ≤ v ∧ v ≤ 30) : bI_ (ui_ B v) := by
  obtain ⟨h1, h2, h3, h4, h5, h6, h7, h8⟩ := hI
  exact ⟨h1, h2, h3, h4, h, h6, h7, h8⟩
theorem bI_up {B : BayT} (hI : bI_ B) {v : Int32} (h : 1 ≤ v ∧ v ≤ 5) : bI_ (up_ B v) := by
  obtain ⟨h1, h2, h3, h4, h5, h6, h7, h8⟩ := hI
  exact ⟨h1, h2, h3, h4, h5, h, h7, h8⟩
theorem bI_uw {B : BayT} (hI : bI_ B) {k : Nat} {v : Int32} (h : 0 ≤ v ∧ v ≤ 99) : bI_ (uw_ B k v) := by
  obtain ⟨h1, h2, h3, h4, h5, h6, h7, h8⟩ := hI
  refine ⟨h1, fun j hj => ?_, h3, h4, h5, h6, h7, h8⟩
  obtain ⟨a1, a2, a3, a4, a5⟩ := h2 j hj
  refine ⟨a1, a2, a3, ?_, a5⟩
  show 0 ≤ upd (pw_ B) k v j ∧ upd (pw_ B) k v j ≤ 99
  unfold upd; split
  · exact h
  · exact a4
theorem bI_kd {B : BayT} (hI : bI_ B) {k : Nat} {v : Int32} (h : 0 ≤ v ∧ v ≤ 5) : bI_ (ug_ B k 0 v) := by
  obtain ⟨h1, h2, h3, h4, h5, h6, h7, h8⟩ := hI
  refine ⟨h1, fun j hj => ?_, h3, h4, h5, h6, h7, h8⟩
  obtain ⟨a1, a2, a3, a4, a5⟩ := h2 j hj
  refine ⟨?_, a2, a3, a4, a5⟩
  show 0 ≤ upd (kd_ B) k v j ∧ upd (kd_ B) k v j ≤ 5
  unfold upd; split
  · exact h
  · exact a1
theorem bI_fg {B : BayT} (hI : bI_ B) {k : Nat} {v : Int32} (h : 0 ≤ v ∧ v ≤ 9) : bI_ (ug_ B k 1 v) := by
  obtain ⟨h1, h2, h3, h4, h5, h6, h7, h8⟩ := hI
  refine ⟨h1, fun j hj => ?_, h3, h4, h5, h6, h7, h8⟩
  obtain ⟨a1, a2, a3, a4, a5⟩ := h2 j hj
  refine ⟨a1, ?_, a3, a4, a5⟩
  show 0 ≤ upd (fg_ B) k v j ∧ upd (fg_ B) k v j ≤ 9
  unfold upd; split
  · exact h
  · exact a2
theorem sa_no {B : BayT} {p : Int32} (h : sa_ B p = none) : ∀ k, k < sn_ B → ¬ pl_ B k = p := by
  have key : ∀ m i, at_ (pl_ B) p m i = none → ∀ k, i ≤ k → k < i + m → ¬ pl_ B k = p := by
    intro m
    induction m with
    | zero => intro i _ k h1 h2; omega
    | succ m ih =>
      intro i hq k h1 h2
      unfold at_ at hq
      by_cases c : pl_ B i = p
      · rw [if_pos c] at hq; cases hq
      · rw [if_neg c] at hq
        by_cases e : i = k
        · subst e; exact c
        · exact ih (i + 1) hq k (by omega) (by omega)
  intro k hk
  exact key (sn_ B) 0 h k (Nat.zero_le _) (by omega)
theorem bI_ad {B : BayT} (hI : bI_ B) (h6 : sn_ B < 7) {w f v : Int32} (hw : 0 ≤ w ∧ w ≤ 5) (hf : 0 ≤ f ∧ f ≤ 9) (hv : 0 ≤ v ∧ v ≤ 30) (hs : sa_ B v = none) : bI_ (ad_ B w f v) := by
  obtain ⟨h1, h2, h3, ⟨q, hq, eq⟩, h5, h6', h7, h8⟩ := hI
  unfold ad_
  rw [if_pos h6]
  refine ⟨by show sn_ B + 1 ≤ 7; omega, fun j hj => ?_, fun a b ha hb he => ?_, ⟨q, Nat.lt_trans hq (p2_lt (by show sn_ B < sn_ B + 1; omega)), eq⟩, h5, h6', h7, h8⟩
  · replace hj : j < sn_ B + 1 := hj
    show (0 ≤ upd (kd_ B) (sn_ B) w j ∧ upd (kd_ B) (sn_ B) w j ≤ 5) ∧ (0 ≤ upd (fg_ B) (sn_ B) f j ∧ upd (fg_ B) (sn_ B) f j ≤ 9) ∧ (0 ≤ upd (pl_ B) (sn_ B) v j ∧ upd (pl_ B) (sn_ B) v j ≤ 30) ∧ (0 ≤ upd (pw_ B) (sn_ B) 9 j ∧ upd (pw_ B) (sn_ B) 9 j ≤ 99) ∧ (0 ≤ upd (jy_ B) (sn_ B) 0 j ∧ upd (jy_ B) (sn_ B) 0 j ≤ 999)
    unfold upd
    by_cases e : j = sn_ B
    · simp only [if_pos e]
      exact ⟨hw, hf, hv, ⟨by decide, by decide⟩, ⟨by decide, by decide⟩⟩
    · simp only [if_neg e]
      exact h2 j (by omega)
  · replace ha : a < sn_ B + 1 := ha
    replace hb : b < sn_ B + 1 := hb
    replace he : upd (pl_ B) (sn_ B) v a = upd (pl_ B) (sn_ B) v b := he
    unfold upd at he
    by_cases ea : a = sn_ B
    · by_cases eb : b = sn_ B
      · rw [ea, eb]
      · rw [if_pos ea, if_neg eb] at he
        exact absurd he.symm (sa_no hs b (by omega))
    · by_cases eb : b = sn_ B
      · rw [if_neg ea, if_pos eb] at he
        exact absurd he (sa_no hs a (by omega))
      · rw [if_neg ea, if_neg eb] at he
        exact h3 a b (by omega) (by omega) he
theorem bI_sw {B : BayT} (hI : bI_ B) {a b : Nat} (ha : a < sn_ B) (hb : b < sn_ B) : bI_ (sw_ B a b) := by
  obtain ⟨h1, h2, h3, h4, h5, h6, h7, h8⟩ := hI
  have e : ∀ j, pl_ (sw_ B a b) j = if j = b then pl_ B a else if j = a then pl_ B b else pl_ B j := fun j => rfl
  refine ⟨h1, fun j hj => ?_, fun x y hx hy he => ?_, h4, h5, h6, h7, h8⟩
  · obtain ⟨a1, a2, a3, a4, a5⟩ := h2 j hj
    refine ⟨a1, a2, ?_, a4, a5⟩
    rw [e]
    split
    · exact (h2 a ha).2.2.1
    · split
      · exact (h2 b hb).2.2.1
      · exact a3
  · replace hx : x < sn_ B := hx
    replace hy : y < sn_ B := hy
    have key : ∀ j, ∃ i, pl_ (sw_ B a b) j = pl_ B i ∧ (j < sn_ B → i < sn_ B) ∧ i = (if j = b then a else if j = a then b else j) := by
      intro j
      refine ⟨_, ?_, ?_, rfl⟩
      · rw [e]
        by_cases q1 : j = b
        · rw [if_pos q1, if_pos q1]
        · rw [if_neg q1, if_neg q1]
          by_cases q2 : j = a
          · rw [if_pos q2, if_pos q2]
          · rw [if_neg q2, if_neg q2]
      · intro hj
        split
        · exact ha
        · split
          · exact hb
          · exact hj
    obtain ⟨i1, p1, p2, p3⟩ := key x
    obtain ⟨i2, r1, r2, r3⟩ := key y
    rw [p1, r1] at he
    have h9 := h3 i1 i2 (p2 hx) (r2 hy) he
    rw [p3, r3] at h9
    clear p3 r3 p1 r1 p2 r2 key e h4
    repeat' split at h9
    all_goals omega
theorem nI_xor9 (a b : Nat) : nI a ^^^ nI b = nI (a ^^^ b) := by
  apply Int32.toBitVec_inj.1
  show BitVec.ofNat 32 a ^^^ BitVec.ofNat 32 b = BitVec.ofNat 32 (a ^^^ b)
  apply BitVec.eq_of_getLsbD_eq
  intro i hi
  simp [hi]
theorem nq_d : ∀ k : Fin 7, ∀ q : Fin 128, nI q.val &&& (((1 : Int32) <<< (nI k.val &&& 31)) ^^^ (-1)) = nI (q.val &&& (p2_ k.val ^^^ 127)) := by decide +kernel
theorem sq_lt_d : ∀ n : Fin 8, ∀ k : Fin 7, ∀ q : Fin 128, k.val < n.val → q.val < p2_ n.val → (∃ r : Fin 128, r.val < p2_ n.val ∧ nI q.val ||| ((1 : Int32) <<< (nI k.val &&& 31)) = nI r.val) ∧ (∃ r : Fin 128, r.val < p2_ n.val ∧ nI q.val &&& (((1 : Int32) <<< (nI k.val &&& 31)) ^^^ (-1)) = nI r.val) ∧ (∃ r : Fin 128, r.val < p2_ n.val ∧ nI q.val ^^^ ((1 : Int32) <<< (nI k.val &&& 31)) = nI r.val) := by
  intro n k q h1 h2
  have hq := q.isLt
  have hk := k.isLt
  have hn := n.isLt
  have hp := p2_7 (n := n.val) (by omega)
  have e1 : (1 : Int32) <<< (nI k.val &&& 31) = nI (p2_ k.val) := sh_n (by omega)
  have hkn := p2_lt h1
  refine ⟨⟨⟨q.val ||| p2_ k.val, ?_⟩, or_lt h2 hkn, by rw [e1, nI_or]⟩, ⟨⟨q.val &&& (p2_ k.val ^^^ 127), ?_⟩, ?_, ?_⟩, ⟨⟨q.val ^^^ p2_ k.val, ?_⟩, Nat.xor_lt_two_pow h2 hkn, by rw [e1, nI_xor9]⟩⟩
  · exact Nat.lt_of_lt_of_le (or_lt h2 hkn) hp
  · exact Nat.lt_of_le_of_lt Nat.and_le_left hq
  · exact Nat.lt_of_le_of_lt Nat.and_le_left h2
  · exact nq_d k q
  · exact Nat.lt_of_lt_of_le (Nat.xor_lt_two_pow h2 hkn) hp
theorem bI_sq {B : BayT} (hI : bI_ B) {z : Prop} [Decidable z] {k : Nat} (hk : k < sn_ B) : bI_ (uq_ B (sq_ z (qt_ B) k)) := by
  have hn := hI.1
  obtain ⟨q, hq, e⟩ := hI.2.2.2.1
  have hp := p2_7 hn
  obtain ⟨⟨r1, a1, b1⟩, ⟨r2, a2, b2⟩, -⟩ := sq_lt_d ⟨sn_ B, by omega⟩ ⟨k, by omega⟩ ⟨q, by omega⟩ hk hq
  rw [e]
  unfold sq_
  split
  · rw [show nI q ||| ((1 : Int32) <<< (nI k &&& 31)) = nI r1.val from b1]; exact bI_q hI a1
  · rw [show nI q &&& (((1 : Int32) <<< (nI k &&& 31)) ^^^ (-1)) = nI r2.val from b2]; exact bI_q hI a2
theorem bI_xq {B : BayT} (hI : bI_ B) {k : Nat} (hk : k < sn_ B) : bI_ (uq_ B (qt_ B ^^^ ((1 : Int32) <<< (nI k &&& 31)))) := by
  have hn := hI.1
  obtain ⟨q, hq, e⟩ := hI.2.2.2.1
  have hp := p2_7 hn
  obtain ⟨-, -, ⟨r1, a1, b1⟩⟩ := sq_lt_d ⟨sn_ B, by omega⟩ ⟨k, by omega⟩ ⟨q, by omega⟩ hk hq
  rw [e, show nI q ^^^ ((1 : Int32) <<< (nI k &&& 31)) = nI r1.val from b1]; exact bI_q hI a1
theorem bI_tt {B : BayT} (hI : bI_ B) {a b j : Nat} (ha : a < sn_ B) (hb : b < sn_ B) : bI_ (tt_ B a b j) := by
  have h1 := bI_sq hI (z := j / 2 = 0) ha
  exact bI_sq (B := uq_ B (sq_ (j / 2 = 0) (qt_ B) a)) h1 (z := j % 2 = 0) hb
theorem bI_th {B : BayT} (hI : bI_ B) (i : Nat) : ∀ j, bI_ (th_ B i j)
  | 0 => hI
  | j + 1 => bI_hb (bI_th hI i j)
/-- a told place, compared -/
theorem oI_k {o : Option Nat} {k : Nat} (h : ∀ t, o = some t → t < 2147483648) (hk : k < 2147483648) : oI_ o = nI k ↔ o = some k := by
  cases o with
  | none => exact ⟨fun e => absurd e.symm (nI_m9 hk), fun e => by cases e⟩
  | some t =>
    constructor
    · intro e; rw [(jeq (h t rfl) hk).mp e]
    · intro e; cases e; rfl
theorem oI_lt0 {o : Option Nat} (h : ∀ t, o = some t → t < 2147483648) : oI_ o < 0 ↔ o = none := by
  cases o with
  | none => exact ⟨fun _ => rfl, fun _ => by decide⟩
  | some t => exact ⟨fun q => absurd q (nI_pos (h t rfl)), fun q => by cases q⟩
theorem sa_b {B : BayT} {p : Int32} (hn : sn_ B ≤ 7) : ∀ t, sa_ B p = some t → t < 2147483648 := fun t h => by have := (sa_lt h).1; omega
theorem ow_lead {B : BayT} (hI : bI_ B) {k n v : Nat} (hv : v ≤ 30) (hk : k < sn_ B) : oI_ (ow_ (hs_ n (ui_ B (nI v)))) = nI k ↔ lead_ B k n v := by
  have hJ := bI_hs (bI_ui hI hv) n
  have hk2 : k < sn_ (hs_ n (ui_ B (nI v))) := by rw [sn_hs]; exact hk
  have hn := hI.1
  rw [oI_k (fun t ht => by have h1 := ow_lt ht; have h2 := hJ.1; omega) (by omega)]
  exact ow_k hJ hk2
theorem ow_own {B : BayT} (hI : bI_ B) {k : Nat} (hk : k < sn_ B) : oI_ (ow_ B) = nI k ↔ pl_ B k = il_ B := by
  have hn := hI.1
  rw [oI_k (fun t ht => by have h1 := ow_lt ht; omega) (by omega)]
  exact ow_k hI hk
theorem d30_lt {i : Nat} (h : i ≤ 31) : (30 - nI i < 0) ↔ 30 < i := by
  have key : ∀ j : Fin 32, ((30 : Int32) - nI j.val < 0) ↔ 30 < j.val := by decide +kernel
  exact key ⟨i, by omega⟩
theorem d30_n {i : Nat} (h : i ≤ 30) : (30 : Int32) - nI i = nI (30 - i) := nI_sub9 (a := 30) h
theorem d30_sd : ∀ j : Fin 32, (30 : Int32) - nI j.val + (-1) = 30 - nI (j.val + 1) := by decide +kernel
theorem d30_s {i : Nat} (h : i ≤ 31) : (30 : Int32) - nI i + (-1) = 30 - nI (i + 1) := d30_sd ⟨i, by omega⟩
theorem bs_ge {f : Nat → Int32} {m0 : Int32} : ∀ n, m0 ≤ (bs_ f m0 n).2
  | 0 => Int32.le_refl _
  | n + 1 => by
    have ih := bs_ge (f := f) (m0 := m0) n
    unfold bs_
    by_cases c : (bs_ f m0 n).2 < f n
    · rw [if_pos c]; exact Int32.le_of_lt (Int32.lt_of_le_of_lt ih c)
    · rw [if_neg c]; exact ih
theorem bs_v {f : Nat → Int32} {m0 : Int32} : ∀ n, ((bs_ f m0 n).1 = none ∧ (bs_ f m0 n).2 = m0) ∨ ∃ t, (bs_ f m0 n).1 = some t ∧ (bs_ f m0 n).2 = f t
  | 0 => Or.inl ⟨rfl, rfl⟩
  | n + 1 => by
    have ih := bs_v (f := f) (m0 := m0) n
    unfold bs_
    by_cases c : (bs_ f m0 n).2 < f n
    · rw [if_pos c]; exact Or.inr ⟨n, rfl, rfl⟩
    · rw [if_neg c]; exact ih
theorem moX_eq (B : BayT) (n : Nat) (q : Int32) : moX_ B n q = if q = 0 then oI_ (bs_ (fun j => tc_ B j n) 0 (sn_ B)).1 else (bs_ (fun j => tc_ B j n) 0 (sn_ B)).2 := by
  unfold moX_
  by_cases c : q = 0
  · rw [if_pos c, if_pos c]
  · rw [if_neg c, if_neg c]
    rcases bs_v (f := fun j => tc_ B j n) (m0 := 0) (sn_ B) with ⟨h1, h2⟩ | ⟨t, h1, h2⟩
    · rw [h1, h2]
    · rw [h1, h2]
theorem bz_o1 {f : Nat → Int32} {m0 v : Int32} {k : Nat} (hv : v = f k) (c : ¬ v ≤ (bs_ f m0 k).2) : nI k = bz_ (bs_ f m0 (k + 1)).1 := by
  subst hv; unfold bs_; rw [if_pos (Int32.not_le.mp c)]; rfl
theorem bz_o2 {f : Nat → Int32} {m0 v : Int32} {k : Nat} (hv : v = f k) (c : v ≤ (bs_ f m0 k).2) : bz_ (bs_ f m0 k).1 = bz_ (bs_ f m0 (k + 1)).1 := by
  subst hv; rw [bs_, if_neg (Int32.not_lt.mpr c)]
/-- the fewest, with the best so far told by its number -/
def fwo_ (B : BayT) (k n : Nat) : Nat → Option Nat
  | 0 => none
  | b + 1 => if qb_ (nI b) k = 0 then (match fwo_ B k n b with
    | none => if 0 < tc_ (uq_ B (qt_ B ||| nI b)) k n then some b else none
    | some t => if pn_ b < pn_ t then (if 0 < tc_ (uq_ B (qt_ B ||| nI b)) k n then some b else some t) else some t) else fwo_ B k n b
def fwv_ : Option Nat → Int32 × Int32
  | none => (-9, 7)
  | some t => (nI t, nI (pn_ t))
theorem fwo_lt {B : BayT} {k n : Nat} : ∀ b t, fwo_ B k n b = some t → t < b
  | 0, t, h => by cases h
  | b + 1, t, h => by
    unfold fwo_ at h
    by_cases c1 : qb_ (nI b) k = 0
    · rw [if_pos c1] at h
      cases hq : fwo_ B k n b with
      | none =>
        rw [hq] at h
        by_cases c3 : 0 < tc_ (uq_ B (qt_ B ||| nI b)) k n
        · simp only [if_pos c3] at h; cases h; omega
        · simp only [if_neg c3] at h; cases h
      | some u =>
        have a := fwo_lt b u hq
        rw [hq] at h
        by_cases c2 : pn_ b < pn_ u
        · by_cases c3 : 0 < tc_ (uq_ B (qt_ B ||| nI b)) k n
          · simp only [if_pos c2, if_pos c3] at h; cases h; omega
          · simp only [if_pos c2, if_neg c3] at h; cases h; omega
        · simp only [if_neg c2] at h; cases h; omega
    · rw [if_neg c1] at h
      have := fwo_lt b t h; omega
theorem pn_7_d : ∀ k : Fin 7, ∀ b : Fin 128, qb_ (nI b.val) k.val = 0 → pn_ b.val < 7 := by decide +kernel
theorem pn_le (b : Nat) : pn_ b ≤ 7 := by unfold pn_; omega
theorem fwo_y {B : BayT} {k n b : Nat} (c1 : qb_ (nI b) k = 0) (c2 : ∀ t, fwo_ B k n b = some t → pn_ b < pn_ t) (c3 : 0 < tc_ (uq_ B (qt_ B ||| nI b)) k n) : fwo_ B k n (b + 1) = some b := by
  unfold fwo_
  rw [if_pos c1]
  cases h : fwo_ B k n b with
  | none => exact if_pos c3
  | some t => exact (if_pos (c2 t h)).trans (if_pos c3)
theorem fwo_n1 {B : BayT} {k n b : Nat} (c1 : ¬ qb_ (nI b) k = 0) : fwo_ B k n (b + 1) = fwo_ B k n b := by
  conv => lhs; unfold fwo_
  rw [if_neg c1]
theorem fwo_n2 {B : BayT} {k n b t : Nat} (h : fwo_ B k n b = some t) (c : ¬ pn_ b < pn_ t) : fwo_ B k n (b + 1) = fwo_ B k n b := by
  by_cases c1 : qb_ (nI b) k = 0
  · conv => lhs; unfold fwo_
    rw [if_pos c1, h]
    exact if_neg c
  · exact fwo_n1 c1
theorem fwo_n3 {B : BayT} {k n b : Nat} (c3 : ¬ 0 < tc_ (uq_ B (qt_ B ||| nI b)) k n) : fwo_ B k n (b + 1) = fwo_ B k n b := by
  by_cases c1 : qb_ (nI b) k = 0
  · conv => lhs; unfold fwo_
    rw [if_pos c1]
    cases h : fwo_ B k n b with
    | none => exact if_neg c3
    | some t =>
      by_cases c2 : pn_ b < pn_ t
      · exact (if_pos c2).trans (if_neg c3)
      · exact if_neg c2
  · exact fwo_n1 c1
theorem fwo_fw {B : BayT} {k n : Nat} (hk : k < 7) : ∀ b, b ≤ 128 → fw_ B k n b = fwv_ (fwo_ B k n b)
  | 0, _ => rfl
  | b + 1, hb => by
    have ih := fwo_fw (B := B) (n := n) hk b (by omega)
    unfold fw_
    rw [ih]
    by_cases c1 : qb_ (nI b) k = 0
    · have h7 := pn_7_d ⟨k, hk⟩ ⟨b, by omega⟩ c1
      by_cases c3 : 0 < tc_ (uq_ B (qt_ B ||| nI b)) k n
      · cases h : fwo_ B k n b with
        | none =>
          rw [fwo_y c1 (fun t q => by rw [h] at q; cases q) c3, if_pos ⟨c1, (jlt (b := 7) (by have := pn_le b; omega) (by decide)).mpr h7, c3⟩]; rfl
        | some t =>
          by_cases c2 : pn_ b < pn_ t
          · rw [fwo_y c1 (fun u q => by rw [h] at q; cases q; exact c2) c3, if_pos ⟨c1, (jlt (by have := pn_le b; omega) (by have := pn_le t; omega)).mpr c2, c3⟩]; rfl
          · rw [fwo_n2 h c2, h, if_neg (fun q => c2 ((jlt (by have := pn_le b; omega) (by have := pn_le t; omega)).mp q.2.1))]
      · rw [fwo_n3 c3, if_neg (fun q => c3 q.2.2)]
    · rw [fwo_n1 c1, if_neg (fun q => c1 q.1)]
/-- rows put back -/
theorem upd_o {P p : Nat → Int32} {a : Nat} {v : Int32} (h : ∀ j, ¬ j = a → P j = p j) : upd P a v = upd p a v := by
  funext j
  unfold upd
  by_cases c : j = a
  · rw [if_pos c, if_pos c]
  · rw [if_neg c, if_neg c, h j c]
theorem upd_b {P p : Nat → Int32} {a : Nat} (h : ∀ j, ¬ j = a → P j = p j) : upd P a (p a) = p := by
  funext j
  unfold upd
  by_cases c : j = a
  · rw [if_pos c, c]
  · rw [if_neg c, h j c]
theorem upd_k {p : Nat → Int32} {a : Nat} {v : Int32} (j : Nat) (h : ¬ j = a) : upd p a v j = p j := by unfold upd; rw [if_neg h]
theorem swp_r (p : Nat → Int32) (a b : Nat) (h : ¬ a = b) : upd (upd (upd (upd p a (p b)) b (p a)) b (upd (upd p a (p b)) b (p a) a)) a (p a) = p := by
  funext j
  unfold upd
  by_cases c : j = a
  · rw [if_pos c, c]
  · rw [if_neg c]
    by_cases d : j = b
    · rw [if_pos d, if_neg h, if_pos rfl, d]
    · rw [if_neg d, if_neg d, if_neg c]
/-- a row of truths -/
theorem ro_fin {z R X : Bool} (h : (if z = true then X else false) = R) (c : X = true ∨ ¬ z = true) : b1 (z = true) = b1 (R = true) := by
  have e : z = R := by
    cases z with
    | true =>
      rcases c with c | c
      · rw [← h, if_pos rfl, c]
      · exact absurd rfl c
    | false => rw [← h, if_neg (by decide)]
  rw [e]
theorem gb_k (B : BayT) (k j : Nat) (f : Nat → Int32) (n st : Nat) : ∀ m, gb_ B k 2 f n st m = gb_ B j 2 f n st m
  | 0 => rfl
  | m + 1 => by
    have ih := gb_k B k j f n st m
    unfold gb_
    rw [ih]; rfl
theorem gb_y2 {B T : BayT} {k n m : Nat} {w : Int32} {f g : Nat → Int32} {n2 : Nat} (hf : g = f) (hn : n2 = n) (hT : T = ug_ B k w (nI m)) (c : ro_ g T n2 0 = true) : gb_ B k w f n 0 m ||| ((1 : Int32) <<< (nI m &&& 31)) = gb_ B k w f n 0 (m + 1) := by
  subst hf; subst hn
  have h := gb_y (B := B) (T := T) (k := k) (n := n2) (st := 0) (m := m) (w := w) (f := g) (by rw [Nat.zero_add]; exact hT) c
  rw [Nat.zero_add] at h; exact h
theorem gb_n2 {B T : BayT} {k n m : Nat} {w : Int32} {f g : Nat → Int32} {n2 : Nat} (hf : g = f) (hn : n2 = n) (hT : T = ug_ B k w (nI m)) (c : ¬ ro_ g T n2 0 = true) : gb_ B k w f n 0 m ||| 0 = gb_ B k w f n 0 (m + 1) := by
  subst hf; subst hn
  rw [or0]
  exact gb_n (B := B) (T := T) (k := k) (n := n2) (st := 0) (m := m) (w := w) (f := g) (by rw [Nat.zero_add]; exact hT) c
theorem gb_y3 {B T : BayT} {k n m : Nat} {w : Int32} {f g : Nat → Int32} {n2 : Nat} (hf : g = f) (hn : n2 = n) (hT : T = ug_ B k w (nI (1 + m))) (c : ro_ g T n2 0 = true) : gb_ B k w f n 1 m ||| ((1 : Int32) <<< (nI (1 + m) &&& 31)) = gb_ B k w f n 1 (m + 1) := by
  subst hf; subst hn; exact gb_y hT c
theorem gb_n3 {B T : BayT} {k n m : Nat} {w : Int32} {f g : Nat → Int32} {n2 : Nat} (hf : g = f) (hn : n2 = n) (hT : T = ug_ B k w (nI (1 + m))) (c : ¬ ro_ g T n2 0 = true) : gb_ B k w f n 1 m ||| 0 = gb_ B k w f n 1 (m + 1) := by
  subst hf; subst hn; rw [or0]; exact gb_n hT c
/-- lots -/
theorem and31 (x : Int32) : ∃ m : Nat, m < 2 ^ 31 ∧ x &&& 2147483647 = nI m := by
  refine ⟨x.toBitVec.toNat &&& 2147483647, Nat.lt_of_le_of_lt Nat.and_le_right (by decide), ?_⟩
  apply Int32.toBitVec_inj.mp
  apply BitVec.eq_of_toNat_eq
  show (x.toBitVec &&& (2147483647 : Int32).toBitVec).toNat = (BitVec.ofNat 32 (x.toBitVec.toNat &&& 2147483647)).toNat
  rw [BitVec.toNat_and, BitVec.toNat_ofNat, Nat.mod_eq_of_lt (Nat.lt_of_le_of_lt Nat.and_le_right (by decide))]
  rfl
theorem shr_d (x : Int32) : (x &&& 2147483647) / 65536 = (x &&& 2147483647) >>> ((16 : Int32) &&& 31) := by
  obtain ⟨m, hm, e⟩ := and31 x
  rw [e, show (65536 : Int32) = nI 65536 from rfl, pk_div hm (by decide) (by decide), pk_shrN hm _ 16 (by decide)]
theorem dn_d (x n : Int32) : (x &&& 2147483647) / 65536 - (x &&& 2147483647) / 65536 / n * n = dn_ x n := by
  have e : (x &&& 2147483647) / 65536 = (x &&& 2147483647) >>> ((16 : Int32) &&& 31) := shr_d x
  unfold dn_
  rw [e]
def ulo_ (M : MT) (z : Int32) : MT := mkM (mrf_ M) (mtp_ M) (mlt_ M) (mla_ M) (mtd_ M) (mkp_ M) (mof_ M) (mfa_ M) (mrw_ M) (mhb_ M) (mtn_ M) (mrd_ M) (msm_ M) (mcu_ M) (mbk_ M) (mrm_ M) (mhi_ M) (mik_ M) (mlw_ M) (mhg_ M) (msl_ M) z
def urm_ (M : MT) (n : Nat) : MT := mkM (mrf_ M) (mtp_ M) (mlt_ M) (mla_ M) (mtd_ M) (mkp_ M) (mof_ M) (mfa_ M) (mrw_ M) (mhb_ M) (mtn_ M) (mrd_ M) (msm_ M) (mcu_ M) (mbk_ M) n (mhi_ M) (mik_ M) (mlw_ M) (mhg_ M) (msl_ M) (mlo_ M)
theorem oN_lo (M : MT) (z : Int32) : oN_ M (ulo_ M z) := ⟨rfl, rfl, rfl, rfl, rfl, rfl, rfl, fun _ _ => rfl⟩
theorem ft_T {F f g : Nat → Int32} {i : Nat} (h : ∀ j, j < i → F (2 * j) = f j ∧ F (2 * j + 1) = g j) : ∀ j, j < i + 1 → upd (upd F (2 * i) (f i)) (2 * i + 1) (g i) (2 * j) = f j ∧ upd (upd F (2 * i) (f i)) (2 * i + 1) (g i) (2 * j + 1) = g j := by
  intro j hj
  unfold upd
  by_cases e : j = i
  · subst e
    rw [if_neg (by omega), if_pos rfl, if_pos rfl]; exact ⟨rfl, rfl⟩
  · rw [if_neg (by omega), if_neg (by omega), if_neg (by omega), if_neg (by omega)]
    exact h j (by omega)
theorem qb_b1 (q : Int32) (k : Nat) : b1 (qb_ q k = 1) = qb_ q k := by
  by_cases c : qb_ q k = 1
  · rw [b1_t c, c]
  · rw [b1_f c, qb_01 c]
theorem uk_8 {q : Int32} (h0 : ¬ q = 0) (h1 : ¬ q = 1) (h2 : ¬ q = 2) (h3 : ¬ q = 3) (h4 : ¬ q = 4) (h5 : ¬ q = 5) (h6 : ¬ q = 6) (h7 : ¬ q = 7) : uk_ q 7 = -2 := by
  unfold uk_
  refine if_pos (Decidable.byContradiction fun h => ?_)
  obtain ⟨k, hk, rfl⟩ := pl_le (v := q) (n := 7) (by decide) ⟨Int32.not_lt.mp fun z => h (Or.inl z), Int32.not_lt.mp fun z => h (Or.inr z)⟩
  have : k = 0 ∨ k = 1 ∨ k = 2 ∨ k = 3 ∨ k = 4 ∨ k = 5 ∨ k = 6 ∨ k = 7 := by omega
  rcases this with e | e | e | e | e | e | e | e
  · subst e; exact h0 rfl
  · subst e; exact h1 rfl
  · subst e; exact h2 rfl
  · subst e; exact h3 rfl
  · subst e; exact h4 rfl
  · subst e; exact h5 rfl
  · subst e; exact h6 rfl
  · subst e; exact h7 rfl
theorem q2_ {q : Int32} (h : 0 ≤ q ∧ q ≤ 2) (h0 : ¬ q = 0) (h1 : ¬ q = 1) : q = 2 := by
  obtain ⟨k, hk, rfl⟩ := pl_le (v := q) (n := 2) (by decide) h
  have : k = 0 ∨ k = 1 ∨ k = 2 := by omega
  rcases this with e | e | e
  · subst e; exact absurd rfl h0
  · subst e; exact absurd rfl h1
  · subst e; rfl
