/-! the reference's calls that change what is: rows kept, refusals of a shore, letters -/
def ubk_ (M : MT) (n : Nat) : MT := mkM (mrf_ M) (mtp_ M) (mlt_ M) (mla_ M) (mtd_ M) (mkp_ M) (mof_ M) (mfa_ M) (mrw_ M) (mhb_ M) (mtn_ M) (mrd_ M) (msm_ M) (mcu_ M) n (mrm_ M) (mhi_ M) (mik_ M) (mlw_ M) (mhg_ M) (msl_ M) (mlo_ M)
def uhi_ (M : MT) (z : Int32) : MT := mkM (mrf_ M) (mtp_ M) (mlt_ M) (mla_ M) (mtd_ M) (mkp_ M) (mof_ M) (mfa_ M) (mrw_ M) (mhb_ M) (mtn_ M) (mrd_ M) (msm_ M) (mcu_ M) (mbk_ M) (mrm_ M) z (mik_ M) (mlw_ M) (mhg_ M) (msl_ M) (mlo_ M)
def ukp_ (M : MT) (K : Nat → BayT) : MT := mkM (mrf_ M) (mtp_ M) (mlt_ M) (mla_ M) (mtd_ M) K (mof_ M) (mfa_ M) (mrw_ M) (mhb_ M) (mtn_ M) (mrd_ M) (msm_ M) (mcu_ M) (mbk_ M) (mrm_ M) (mhi_ M) (mik_ M) (mlw_ M) (mhg_ M) (msl_ M) (mlo_ M)
def utp_ (M : MT) (v : Int32) : MT := mkM (mrf_ M) (upd (mtp_ M) (mtn_ M) v) (mlt_ M) (mla_ M) (mtd_ M) (mkp_ M) (mof_ M) (mfa_ M) (mrw_ M) (mhb_ M) (mtn_ M + 1) (mrd_ M) (msm_ M) (mcu_ M) (mbk_ M) (mrm_ M) (mhi_ M) (mik_ M) (mlw_ M) (mhg_ M) (msl_ M) (mlo_ M)
/-- the oldest is let go -/
def shK_ (K : Nat → BayT) : Nat → BayT := fun j => if 3 ≤ j ∧ j < 10 then K (j + 1) else K j
def sh_ (f : Nat → Int32) (i : Nat) : Nat → Int32 := fun j => if 123 ≤ j ∧ j < 123 + i then f (j + 41) else f j
theorem sh_0k (f : Nat → Int32) : f = sh_ f 0 := by
  funext j; unfold sh_; rw [if_neg (by omega)]
theorem sh_sk (f : Nat → Int32) (i : Nat) (hi : i ≤ 287) : upd (sh_ f i) (123 + i) (sh_ f i (123 + i + 41)) = sh_ f (i + 1) := by
  have e : sh_ f i (123 + i + 41) = f (123 + i + 41) := by unfold sh_; rw [if_neg (by omega)]
  funext j
  rw [e]
  unfold upd sh_
  by_cases c : j = 123 + i
  · rw [if_pos c, if_pos (by omega), c]
  · rw [if_neg c]
    by_cases d : 123 ≤ j ∧ j < 123 + i
    · rw [if_pos d, if_pos (by omega)]
    · rw [if_neg d, if_neg (by omega)]
theorem sh_K (K : Nat → BayT) (j : Nat) : sh_ (flatK K) 287 j = flatK (shK_ K) j := by
  unfold sh_ flatK shK_
  by_cases c : 123 ≤ j ∧ j < 123 + 287
  · rw [if_pos c, if_pos (by omega), show (j + 41) / 41 = j / 41 + 1 by omega, show (j + 41) % 41 = j % 41 by omega]
  · rw [if_neg c, if_neg (by omega)]
def kb_ (M : MT) (B : BayT) : MT := mkM (mrf_ M) (mtp_ M) (mlt_ M) (mla_ M) (mtd_ M) (if mbk_ M = 8 then va_up (shK_ (mkp_ M)) 10 B else va_up (mkp_ M) (3 + mbk_ M) B) (mof_ M) (mfa_ M) (mrw_ M) (mhb_ M) (mtn_ M) (mrd_ M) (msm_ M) (if mbk_ M = 8 then 451 else 41 * (3 + mbk_ M) + 41) (mc8 (mbk_ M)) (mrm_ M) (mhi_ M) 1 (mlw_ M) (mhg_ M) (msl_ M) (mlo_ M)
theorem kb_8 {M : MT} {B : BayT} (h : mbk_ M = 8) : mkM (mrf_ M) (mtp_ M) (mlt_ M) (mla_ M) (mtd_ M) (va_up (shK_ (mkp_ M)) (3 + 7) B) (mof_ M) (mfa_ M) (mrw_ M) (mhb_ M) (mtn_ M) (mrd_ M) (msm_ M) (41 * (3 + 7) + 41) (7 + 1) (mrm_ M) (mhi_ M) 1 (mlw_ M) (mhg_ M) (msl_ M) (mlo_ M) = kb_ M B := by
  unfold kb_
  rw [if_pos h, if_pos h, h]; rfl
theorem kb_n {M : MT} {B : BayT} (h : mbk_ M < 8) : mkM (mrf_ M) (mtp_ M) (mlt_ M) (mla_ M) (mtd_ M) (va_up (mkp_ M) (3 + mbk_ M) B) (mof_ M) (mfa_ M) (mrw_ M) (mhb_ M) (mtn_ M) (mrd_ M) (msm_ M) (41 * (3 + mbk_ M) + 41) (mbk_ M + 1) (mrm_ M) (mhi_ M) 1 (mlw_ M) (mhg_ M) (msl_ M) (mlo_ M) = kb_ M B := by
  unfold kb_
  have e : mc8 (mbk_ M) = mbk_ M + 1 := by unfold mc8; rw [if_pos h]
  rw [if_neg (by omega), if_neg (by omega), e]
/-- refusals of a shore, path by path -/
theorem rs_1 {B : BayT} {w f v : Int32} (h : ¬ (0 ≤ w ∧ w ≤ 5)) : rs_ B w f v = -2 := by
  unfold rs_
  rw [if_pos]
  by_cases h1 : w < 0
  · exact Or.inl h1
  · exact Or.inr (Int32.not_le.mp fun q => h ⟨Int32.not_lt.mp h1, q⟩)
theorem rs_in {w : Int32} (h : 0 ≤ w ∧ w ≤ 5) : ¬ (w < 0 ∨ 5 < w) := fun q => q.elim (fun z => absurd z (Int32.not_lt.mpr h.1)) (fun z => absurd z (Int32.not_lt.mpr h.2))
theorem rs_2 {B : BayT} {w f v : Int32} (h : 0 ≤ w ∧ w ≤ 5) (h2 : ¬ ob_ f 0 9 = 0) : rs_ B w f v = ob_ f 0 9 := by
  unfold rs_
  rw [if_neg (rs_in h)]
  unfold ob_ at h2 ⊢
  by_cases c : f < 0
  · rw [if_pos c, if_pos c]
  · rw [if_neg c] at h2 ⊢
    rw [if_neg c]
    by_cases d : 9 < f
    · rw [if_pos (Or.inl d), if_pos d]
    · rw [if_neg d] at h2; exact absurd rfl h2
theorem rs_f {f : Int32} (h2 : ob_ f 0 9 = 0) : ¬ f < 0 ∧ ¬ 9 < f := by
  have h := ob_0.mp h2
  exact ⟨Int32.not_lt.mpr h.1, Int32.not_lt.mpr h.2⟩
theorem rs_3 {B : BayT} {w f v : Int32} (h : 0 ≤ w ∧ w ≤ 5) (h2 : ob_ f 0 9 = 0) (h3 : sn_ B = 7) : rs_ B w f v = -6 := by
  unfold rs_
  rw [if_neg (rs_in h), if_neg (rs_f h2).1, if_pos (Or.inr (by omega))]
theorem rs_4 {B : BayT} {w f v : Int32} (hn7 : sn_ B ≤ 7) (h : 0 ≤ w ∧ w ≤ 5) (h2 : ob_ f 0 9 = 0) (h3 : ¬ sn_ B = 7) (h4 : ¬ (0 ≤ v ∧ v ≤ 30)) : rs_ B w f v = -1 := by
  unfold rs_
  rw [if_neg (rs_in h), if_neg (rs_f h2).1, if_neg (fun q => q.elim (rs_f h2).2 (fun z => by omega)), if_pos]
  by_cases h1 : v < 0
  · exact Or.inl h1
  · exact Or.inr (Int32.not_le.mp fun q => h4 ⟨Int32.not_lt.mp h1, q⟩)
theorem rs_5 {B : BayT} {w f v : Int32} (hn7 : sn_ B ≤ 7) (h : 0 ≤ w ∧ w ≤ 5) (h2 : ob_ f 0 9 = 0) (h3 : ¬ sn_ B = 7) (h4 : 0 ≤ v ∧ v ≤ 30) : rs_ B w f v = if sa_ B v = none then 0 else -3 := by
  unfold rs_
  rw [if_neg (rs_in h), if_neg (rs_f h2).1, if_neg (fun q => q.elim (rs_f h2).2 (fun z => by omega)), if_neg]
  rintro (q | q)
  · exact absurd q (Int32.not_lt.mpr h4.1)
  · exact absurd q (Int32.not_lt.mpr h4.2)
/-! letters -/
theorem dg_add {L : Nat → Int32} {n : Nat} : ∀ a b i, dg_ L n (a + b) i = match dg_ L n a i with
    | some q => some q
    | none => dg_ L n b (i + a)
  | 0, b, i => by rw [Nat.zero_add]; rfl
  | a + 1, b, i => by
    rw [show a + 1 + b = (a + b) + 1 by omega]
    show (if 48 ≤ la_ L n i ∧ la_ L n i ≤ 57 then dg_ L n (a + b) (i + 1) else some i) = match (if 48 ≤ la_ L n i ∧ la_ L n i ≤ 57 then dg_ L n a (i + 1) else some i) with
      | some q => some q
      | none => dg_ L n b (i + (a + 1))
    by_cases c : 48 ≤ la_ L n i ∧ la_ L n i ≤ 57
    · rw [if_pos c, if_pos c, dg_add a b (i + 1), show i + 1 + a = i + (a + 1) by omega]
    · rw [if_neg c, if_neg c]
theorem dg_an {L : Nat → Int32} {n a b i : Nat} (h : dg_ L n a i = none) : dg_ L n (a + b) i = dg_ L n b (i + a) := by rw [dg_add, h]
theorem dg_as {L : Nat → Int32} {n a b i q : Nat} (h : dg_ L n a i = some q) : dg_ L n (a + b) i = some q := by rw [dg_add, h]
theorem dg_lt {L : Nat → Int32} {n : Nat} : ∀ m i q, dg_ L n m i = some q → i ≤ q ∧ q < i + m ∧ ¬ (48 ≤ la_ L n q ∧ la_ L n q ≤ 57)
  | 0, i, q, h => by cases h
  | m + 1, i, q, h => by
    unfold dg_ at h
    by_cases c : 48 ≤ la_ L n i ∧ la_ L n i ≤ 57
    · rw [if_pos c] at h
      obtain ⟨a, b, d⟩ := dg_lt m (i + 1) q h
      exact ⟨by omega, by omega, d⟩
    · rw [if_neg c] at h; cases h; exact ⟨Nat.le_refl _, by omega, c⟩
theorem dg_all {L : Nat → Int32} {n : Nat} : ∀ m i, dg_ L n m i = none → ∀ j, j < m → 48 ≤ la_ L n (i + j) ∧ la_ L n (i + j) ≤ 57
  | 0, i, h, j, hj => by omega
  | m + 1, i, h, j, hj => by
    unfold dg_ at h
    by_cases c : 48 ≤ la_ L n i ∧ la_ L n i ≤ 57
    · rw [if_pos c] at h
      cases j with
      | zero => exact c
      | succ j =>
        have := dg_all m (i + 1) h j (by omega)
        rw [show i + (j + 1) = i + 1 + j by omega]; exact this
    · rw [if_neg c] at h; cases h
def vd_ (L : Nat → Int32) (n i : Nat) : Nat → Int32
  | 0 => 0
  | j + 1 => 10 * vd_ L n i j + la_ L n (i + j) - 48
theorem vd_1 (L : Nat → Int32) (n i : Nat) : vd_ L n i 1 = dt_ L n i := by
  show 10 * 0 + la_ L n (i + 0) - 48 = la_ L n i - 48
  rw [Nat.add_zero, Int32.mul_zero, Int32.zero_add]
theorem vd_2 (L : Nat → Int32) (n i : Nat) : vd_ L n i 2 = nm_ L n i := by
  show 10 * vd_ L n i 1 + la_ L n (i + 1) - 48 = 10 * dt_ L n i + (la_ L n (i + 1) - 48)
  rw [vd_1, Int32.sub_eq_add_neg, Int32.sub_eq_add_neg, Int32.add_assoc]
def rdv_ (o : Option Nat) (e : Nat) : Nat := match o with
  | none => e
  | some q => q
/-- the reference's reading place and numbers, written anew -/
def wtr_ (M : MT) (td : Nat → Int32) (rd : Nat) : MT := mkM (mrf_ M) (mtp_ M) (mlt_ M) (mla_ M) td (mkp_ M) (mof_ M) (mfa_ M) (mrw_ M) (mhb_ M) (mtn_ M) rd (msm_ M) (mcu_ M) (mbk_ M) (mrm_ M) (mhi_ M) (mik_ M) (mlw_ M) (mhg_ M) (msl_ M) (mlo_ M)
def wst_ (M : MT) (lt la td : Nat → Int32) (rd : Nat) : MT := mkM (mrf_ M) (mtp_ M) lt la td (mkp_ M) (mof_ M) (mfa_ M) (mrw_ M) (mhb_ M) (mtn_ M) rd (msm_ M) (mcu_ M) (mbk_ M) (mrm_ M) (mhi_ M) (mik_ M) (mlw_ M) (mhg_ M) (msl_ M) (mlo_ M)
/-- the numbers of a STATEMENT whose letter is b, told from place p on, read from i on -/
def okT_ (L : Nat → Int32) (n i : Nat) (b : Int32) (td : Nat → Int32) (p : Nat) : Prop := (b = 115 → td p = dt_ L n i ∧ td (p + 1) = dt_ L n (i + 1) ∧ td (p + 2) = nm_ L n (i + 2)) ∧ (b = 112 → td p = dt_ L n i ∧ td (p + 1) = nm_ L n (i + 1)) ∧ (b = 113 ∨ b = 118 → td p = dt_ L n i) ∧ (b = 105 ∨ b = 104 → td p = nm_ L n i)
/-- the fault of one STATEMENT at i -/
def sr_ (L : Nat → Int32) (n i : Nat) : Option Nat := if db_ (la_ L n i) = 0 then some i else match dg_ L n (db_ (la_ L n i)) (i + 1) with
  | some q => some q
  | none => if la_ L n (i + (db_ (la_ L n i) + 1)) = 59 then none else some (i + (db_ (la_ L n i) + 1))
theorem sr_a {L : Nat → Int32} {n i : Nat} (c : db_ (la_ L n i) = 0) : sr_ L n i = some i := by unfold sr_; rw [if_pos c]
theorem sr_b {L : Nat → Int32} {n i q : Nat} (c : ¬ db_ (la_ L n i) = 0) (h : dg_ L n (db_ (la_ L n i)) (i + 1) = some q) : sr_ L n i = some q := by unfold sr_; rw [if_neg c, h]
theorem sr_c {L : Nat → Int32} {n i : Nat} (c : ¬ db_ (la_ L n i) = 0) (h : dg_ L n (db_ (la_ L n i)) (i + 1) = none) (h59 : ¬ la_ L n (i + (db_ (la_ L n i) + 1)) = 59) : sr_ L n i = some (i + (db_ (la_ L n i) + 1)) := by unfold sr_; rw [if_neg c, h]; exact if_neg h59
theorem sr_d {L : Nat → Int32} {n i : Nat} (c : ¬ db_ (la_ L n i) = 0) (h : dg_ L n (db_ (la_ L n i)) (i + 1) = none) (h59 : la_ L n (i + (db_ (la_ L n i) + 1)) = 59) : sr_ L n i = none := by unfold sr_; rw [if_neg c, h]; exact if_pos h59
theorem sr_n {L : Nat → Int32} {n i : Nat} (h : sr_ L n i = none) : ¬ db_ (la_ L n i) = 0 ∧ dg_ L n (db_ (la_ L n i)) (i + 1) = none ∧ la_ L n (i + (db_ (la_ L n i) + 1)) = 59 := by
  by_cases c : db_ (la_ L n i) = 0
  · rw [sr_a c] at h; cases h
  · cases hd : dg_ L n (db_ (la_ L n i)) (i + 1) with
    | some q => rw [sr_b c hd] at h; cases h
    | none =>
      by_cases c2 : la_ L n (i + (db_ (la_ L n i) + 1)) = 59
      · exact ⟨c, rfl, c2⟩
      · rw [sr_c c hd c2] at h; cases h
theorem fa_sr {L : Nat → Int32} {n m i : Nat} (h : 0 < m) : (∀ q, sr_ L n i = some q → fa_ L n m i = some q) ∧ (sr_ L n i = none → fa_ L n m i = if i + (db_ (la_ L n i) + 1) + 1 < n then fa_ L n (m - 1) (i + (db_ (la_ L n i) + 1) + 1) else none) := by
  constructor
  · intro q hq
    by_cases c : db_ (la_ L n i) = 0
    · rw [sr_a c] at hq; cases hq; exact fa_a h c
    · cases hd : dg_ L n (db_ (la_ L n i)) (i + 1) with
      | some t => rw [sr_b c hd] at hq; cases hq; exact fa_b h c hd
      | none =>
        by_cases c2 : la_ L n (i + (db_ (la_ L n i) + 1)) = 59
        · rw [sr_d c hd c2] at hq; cases hq
        · rw [sr_c c hd c2] at hq; cases hq; exact fa_c h c hd c2
  · intro hq
    obtain ⟨c, hd, c2⟩ := sr_n hq
    by_cases e : i + (db_ (la_ L n i) + 1) + 1 < n
    · rw [if_pos e]; exact fa_d h c hd c2 e
    · rw [if_neg e]; exact fa_e h c hd c2 e
theorem la_no {L : Nat → Int32} {n i : Nat} (h : n ≤ i) : la_ L n i = -1 := by unfold la_; rw [if_neg (by omega)]
/-- the places of the STATEMENTS -/
def po_ (L : Nat → Int32) (n : Nat) : Nat → Nat
  | 0 => 0
  | k + 1 => po_ L n k + (db_ (la_ L n (po_ L n k)) + 1) + 1
/-- all that the reference holds of the first k STATEMENTS -/
def PS_ (L : Nat → Int32) (n k : Nat) (lt la td : Nat → Int32) : Prop := ∀ j, j < k → sr_ L n (po_ L n j) = none ∧ lt j = la_ L n (po_ L n j) ∧ la j = nI (po_ L n j) ∧ okT_ L n (po_ L n j + 1) (la_ L n (po_ L n j)) td (3 * j)
theorem po_3 {L : Nat → Int32} {n k : Nat} (h : ∀ j, j < k → sr_ L n (po_ L n j) = none) : 3 * k ≤ po_ L n k := by
  induction k with
  | zero => exact Nat.zero_le _
  | succ k ih =>
    have h1 := ih fun j hj => h j (by omega)
    have h2 := (sr_n (h k (by omega))).1
    show 3 * (k + 1) ≤ po_ L n k + (db_ (la_ L n (po_ L n k)) + 1) + 1
    omega
theorem sr_lt {L : Nat → Int32} {n i : Nat} (h : sr_ L n i = none) : i + (db_ (la_ L n i) + 1) < n := by
  obtain ⟨_, _, h3⟩ := sr_n h
  refine Decidable.byContradiction fun c => ?_
  rw [la_no (by omega)] at h3
  exact absurd h3 (by decide)
theorem okT_c {L : Nat → Int32} {n i p : Nat} {b : Int32} {td t2 : Nat → Int32} (h : okT_ L n i b td p) (e : ∀ j, j < p + 3 → t2 j = td j) : okT_ L n i b t2 p := by
  obtain ⟨h1, h2, h3, h4⟩ := h
  refine ⟨fun q => ?_, fun q => ?_, fun q => ?_, fun q => ?_⟩
  · rw [e p (by omega), e (p + 1) (by omega), e (p + 2) (by omega)]; exact h1 q
  · rw [e p (by omega), e (p + 1) (by omega)]; exact h2 q
  · rw [e p (by omega)]; exact h3 q
  · rw [e p (by omega)]; exact h4 q
theorem PS_s {L : Nat → Int32} {n k : Nat} {lt la td lt2 la2 td2 : Nat → Int32} (h : PS_ L n k lt la td) (hs : sr_ L n (po_ L n k) = none) (h1 : lt2 k = la_ L n (po_ L n k)) (h2 : la2 k = nI (po_ L n k)) (h3 : okT_ L n (po_ L n k + 1) (la_ L n (po_ L n k)) td2 (3 * k)) (e1 : ∀ j, j < k → lt2 j = lt j ∧ la2 j = la j) (e2 : ∀ j, j < 3 * k → td2 j = td j) : PS_ L n (k + 1) lt2 la2 td2 := by
  intro j hj
  by_cases c : j = k
  · subst c; exact ⟨hs, h1, h2, h3⟩
  · obtain ⟨a1, a2, a3, a4⟩ := h j (by omega)
    obtain ⟨b1, b2⟩ := e1 j (by omega)
    exact ⟨a1, b1.trans a2, b2.trans a3, okT_c a4 fun i hi => e2 i (by omega)⟩
def wbs_ (M : MT) (k : Nat) (lt la td : Nat → Int32) (rd : Nat) : MT := mkM (mrf_ M) (mtp_ M) lt la td (mkp_ M) (mof_ M) (mfa_ M) (mrw_ M) (mhb_ M) (mtn_ M) rd k (mcu_ M) (mbk_ M) (mrm_ M) (mhi_ M) (mik_ M) (mlw_ M) (mhg_ M) (msl_ M) (mlo_ M)
def utn_ (M : MT) (n : Nat) : MT := mkM (mrf_ M) (mtp_ M) (mlt_ M) (mla_ M) (mtd_ M) (mkp_ M) (mof_ M) (mfa_ M) (mrw_ M) (mhb_ M) n (mrd_ M) (msm_ M) (mcu_ M) (mbk_ M) (mrm_ M) (mhi_ M) (mik_ M) (mlw_ M) (mhg_ M) (msl_ M) (mlo_ M)
/-- what a BAY told in letters leaves beside the bay -/
def oB_ (M u : MT) (bk : Nat) : Prop := mrf_ u = mrf_ M ∧ mtp_ u = mtp_ M ∧ mrw_ u = mrw_ M ∧ mtn_ u = 0 ∧ mhi_ u = mhi_ M ∧ mbk_ u = bk ∧ mrm_ u = mrm_ M ∧ ∀ j : Nat, (j = 0 ∨ 3 ≤ j) → mkp_ u j = mkp_ M j
theorem db_nz {c : Int32} (h : c = 115 ∨ c = 112 ∨ c = 113 ∨ c = 105 ∨ c = 118 ∨ c = 104) : ¬ db_ c = 0 := by
  rcases h with h | h | h | h | h | h <;> subst h <;> decide
/-- digits of a STATEMENT, group by group -/
theorem ra_n {L : Nat → Int32} {n a b i : Nat} (h : ¬ dg_ L n a i = none) : ¬ dg_ L n (a + b) i = none ∧ ∀ e e2, rdv_ (dg_ L n a i) e = rdv_ (dg_ L n (a + b) i) e2 := by
  cases hd : dg_ L n a i with
  | none => exact absurd hd h
  | some q =>
    rw [dg_as hd]
    exact ⟨fun q => (by cases q), fun _ _ => rfl⟩
abbrev raP_ (M : MT) (b : Int32) (p : Nat) (r : Int32) (td : Nat → Int32) (rd : Nat) : Prop := r = b1 (dg_ (mtp_ M) (mtn_ M) (db_ b) (mrd_ M) = none) ∧ rd = rdv_ (dg_ (mtp_ M) (mtn_ M) (db_ b) (mrd_ M)) (mrd_ M + db_ b) ∧ (∀ j, j < p → td j = mtd_ M j) ∧ (dg_ (mtp_ M) (mtn_ M) (db_ b) (mrd_ M) = none → okT_ (mtp_ M) (mtn_ M) (mrd_ M) b td p)
theorem ra_fail {M : MT} {b : Int32} {p a c rd e1 : Nat} {td : Nat → Int32} {i : Nat} (hd : db_ b = a + c) (h : ¬ dg_ (mtp_ M) (mtn_ M) a (mrd_ M) = none) (h2 : rd = rdv_ (dg_ (mtp_ M) (mtn_ M) a (mrd_ M)) e1) (h3 : ∀ j, j < p → td j = mtd_ M j) : raP_ M b p 0 td rd := by
  obtain ⟨x1, x2⟩ := ra_n (b := c) h
  unfold raP_
  rw [hd]
  exact ⟨(b1_f x1).symm, h2.trans (x2 _ _), h3, fun q => absurd q x1⟩
theorem upd_lt {f : Nat → Int32} {p j : Nat} {v : Int32} (h : j < p) : upd f p v j = f j := by unfold upd; rw [if_neg (by omega)]
theorem upd_at {f : Nat → Int32} {p : Nat} {v : Int32} : upd f p v p = v := by unfold upd; rw [if_pos rfl]
theorem ra_115 {M : MT} {b : Int32} {p : Nat} (hb : b = 115) (h1 : dg_ (mtp_ M) (mtn_ M) 1 (mrd_ M) = none) (h2 : dg_ (mtp_ M) (mtn_ M) 1 (mrd_ M + 1) = none) (h3 : dg_ (mtp_ M) (mtn_ M) 2 (mrd_ M + 1 + 1) = none) : raP_ M b p 1 (upd (upd (upd (mtd_ M) p (vd_ (mtp_ M) (mtn_ M) (mrd_ M) 1)) (p + 1) (vd_ (mtp_ M) (mtn_ M) (mrd_ M + 1) 1)) (p + 2) (vd_ (mtp_ M) (mtn_ M) (mrd_ M + 1 + 1) 2)) (mrd_ M + 1 + 1 + 2) := by
  have hd : db_ b = 4 := by rw [hb]; rfl
  have e : dg_ (mtp_ M) (mtn_ M) 4 (mrd_ M) = none := by
    have a := dg_an (b := 3) h1
    have c := dg_an (b := 2) h2
    exact a.trans (c.trans h3)
  unfold raP_
  rw [hd, e]
  refine ⟨rfl, rfl, fun j hj => ?_, fun _ => ⟨fun _ => ⟨?_, ?_, ?_⟩, fun q => ?_, fun q => ?_, fun q => ?_⟩⟩
  · rw [upd_lt (by omega), upd_lt (by omega), upd_lt hj]
  · rw [upd_lt (by omega), upd_lt (by omega), upd_at]; exact vd_1 _ _ _
  · rw [upd_lt (by omega), upd_at]; exact vd_1 _ _ _
  · rw [upd_at]; exact vd_2 _ _ _
  · rw [hb] at q; exact absurd q (by decide)
  · rw [hb] at q; exact absurd q (by decide)
  · rw [hb] at q; exact absurd q (by decide)
theorem ra_115a {M : MT} {b : Int32} {p rd : Nat} {td : Nat → Int32} (hb : b = 115) (h1 : ¬ dg_ (mtp_ M) (mtn_ M) 1 (mrd_ M) = none) (hr : rd = rdv_ (dg_ (mtp_ M) (mtn_ M) 1 (mrd_ M)) (mrd_ M + 1)) (ht : td = (if dg_ (mtp_ M) (mtn_ M) 1 (mrd_ M) = none then upd (mtd_ M) p (vd_ (mtp_ M) (mtn_ M) (mrd_ M) 1) else mtd_ M)) : raP_ M b p 0 td rd := by
  have hd : db_ b = 1 + 3 := by rw [hb]; rfl
  rw [if_neg h1] at ht
  exact ra_fail (i := 0) hd h1 hr fun j hj => by rw [ht]
theorem ra_115b {M : MT} {b : Int32} {p rd : Nat} {td : Nat → Int32} (hb : b = 115) (h1 : dg_ (mtp_ M) (mtn_ M) 1 (mrd_ M) = none) (h2 : ¬ dg_ (mtp_ M) (mtn_ M) 1 (mrd_ M + 1) = none) (hr : rd = rdv_ (dg_ (mtp_ M) (mtn_ M) 1 (mrd_ M + 1)) (mrd_ M + 1 + 1)) (ht : td = (if dg_ (mtp_ M) (mtn_ M) 1 (mrd_ M + 1) = none then upd (upd (mtd_ M) p (vd_ (mtp_ M) (mtn_ M) (mrd_ M) 1)) (p + 1) (vd_ (mtp_ M) (mtn_ M) (mrd_ M + 1) 1) else upd (mtd_ M) p (vd_ (mtp_ M) (mtn_ M) (mrd_ M) 1))) : raP_ M b p 0 td rd := by
  have hd : db_ b = 2 + 2 := by rw [hb]; rfl
  rw [if_neg h2] at ht
  have e : dg_ (mtp_ M) (mtn_ M) 2 (mrd_ M) = dg_ (mtp_ M) (mtn_ M) 1 (mrd_ M + 1) := dg_an (b := 1) h1
  exact ra_fail (i := 0) hd (by rw [e]; exact h2) (by rw [e]; exact hr) fun j hj => by rw [ht, upd_lt hj]
theorem ra_115c {M : MT} {b : Int32} {p rd : Nat} {td : Nat → Int32} (hb : b = 115) (h1 : dg_ (mtp_ M) (mtn_ M) 1 (mrd_ M) = none) (h2 : dg_ (mtp_ M) (mtn_ M) 1 (mrd_ M + 1) = none) (h3 : ¬ dg_ (mtp_ M) (mtn_ M) 2 (mrd_ M + 1 + 1) = none) (hr : rd = rdv_ (dg_ (mtp_ M) (mtn_ M) 2 (mrd_ M + 1 + 1)) (mrd_ M + 1 + 1 + 2)) (ht : td = (if dg_ (mtp_ M) (mtn_ M) 2 (mrd_ M + 1 + 1) = none then upd (upd (upd (mtd_ M) p (vd_ (mtp_ M) (mtn_ M) (mrd_ M) 1)) (p + 1) (vd_ (mtp_ M) (mtn_ M) (mrd_ M + 1) 1)) (p + 2) (vd_ (mtp_ M) (mtn_ M) (mrd_ M + 1 + 1) 2) else upd (upd (mtd_ M) p (vd_ (mtp_ M) (mtn_ M) (mrd_ M) 1)) (p + 1) (vd_ (mtp_ M) (mtn_ M) (mrd_ M + 1) 1))) : raP_ M b p 0 td rd := by
  have hd : db_ b = 4 + 0 := by rw [hb]; rfl
  rw [if_neg h3] at ht
  have e : dg_ (mtp_ M) (mtn_ M) 4 (mrd_ M) = dg_ (mtp_ M) (mtn_ M) 2 (mrd_ M + 1 + 1) := (dg_an (b := 3) h1).trans (dg_an (b := 2) h2)
  exact ra_fail (i := 0) hd (by rw [e]; exact h3) (by rw [e]; exact hr) fun j hj => by rw [ht, upd_lt (by omega), upd_lt hj]
theorem ra_112 {M : MT} {b : Int32} {p : Nat} (hb : b = 112) (h1 : dg_ (mtp_ M) (mtn_ M) 1 (mrd_ M) = none) (h2 : dg_ (mtp_ M) (mtn_ M) 2 (mrd_ M + 1) = none) : raP_ M b p 1 (upd (upd (mtd_ M) p (vd_ (mtp_ M) (mtn_ M) (mrd_ M) 1)) (p + 1) (vd_ (mtp_ M) (mtn_ M) (mrd_ M + 1) 2)) (mrd_ M + 1 + 2) := by
  have hd : db_ b = 3 := by rw [hb]; rfl
  have e : dg_ (mtp_ M) (mtn_ M) 3 (mrd_ M) = none := (dg_an (b := 2) h1).trans h2
  unfold raP_
  rw [hd, e]
  refine ⟨rfl, rfl, fun j hj => ?_, fun _ => ⟨fun q => ?_, fun _ => ⟨?_, ?_⟩, fun q => ?_, fun q => ?_⟩⟩
  · rw [upd_lt (by omega), upd_lt hj]
  · rw [hb] at q; exact absurd q (by decide)
  · rw [upd_lt (by omega), upd_at]; exact vd_1 _ _ _
  · rw [upd_at]; exact vd_2 _ _ _
  · rw [hb] at q; exact absurd q (by decide)
  · rw [hb] at q; exact absurd q (by decide)
theorem ra_112a {M : MT} {b : Int32} {p rd : Nat} {td : Nat → Int32} (hb : b = 112) (h1 : ¬ dg_ (mtp_ M) (mtn_ M) 1 (mrd_ M) = none) (hr : rd = rdv_ (dg_ (mtp_ M) (mtn_ M) 1 (mrd_ M)) (mrd_ M + 1)) (ht : td = (if dg_ (mtp_ M) (mtn_ M) 1 (mrd_ M) = none then upd (mtd_ M) p (vd_ (mtp_ M) (mtn_ M) (mrd_ M) 1) else mtd_ M)) : raP_ M b p 0 td rd := by
  have hd : db_ b = 1 + 2 := by rw [hb]; rfl
  rw [if_neg h1] at ht
  exact ra_fail (i := 0) hd h1 hr fun j hj => by rw [ht]
theorem ra_112b {M : MT} {b : Int32} {p rd : Nat} {td : Nat → Int32} (hb : b = 112) (h1 : dg_ (mtp_ M) (mtn_ M) 1 (mrd_ M) = none) (h2 : ¬ dg_ (mtp_ M) (mtn_ M) 2 (mrd_ M + 1) = none) (hr : rd = rdv_ (dg_ (mtp_ M) (mtn_ M) 2 (mrd_ M + 1)) (mrd_ M + 1 + 2)) (ht : td = (if dg_ (mtp_ M) (mtn_ M) 2 (mrd_ M + 1) = none then upd (upd (mtd_ M) p (vd_ (mtp_ M) (mtn_ M) (mrd_ M) 1)) (p + 1) (vd_ (mtp_ M) (mtn_ M) (mrd_ M + 1) 2) else upd (mtd_ M) p (vd_ (mtp_ M) (mtn_ M) (mrd_ M) 1))) : raP_ M b p 0 td rd := by
  have hd : db_ b = 3 + 0 := by rw [hb]; rfl
  rw [if_neg h2] at ht
  have e : dg_ (mtp_ M) (mtn_ M) 3 (mrd_ M) = dg_ (mtp_ M) (mtn_ M) 2 (mrd_ M + 1) := dg_an (b := 2) h1
  exact ra_fail (i := 0) hd (by rw [e]; exact h2) (by rw [e]; exact hr) fun j hj => by rw [ht, upd_lt hj]
theorem ra_1 {M : MT} {b : Int32} {p rd : Nat} {td : Nat → Int32} (hb : b = 113 ∨ b = 118) (hr : rd = rdv_ (dg_ (mtp_ M) (mtn_ M) 1 (mrd_ M)) (mrd_ M + 1)) (ht : td = (if dg_ (mtp_ M) (mtn_ M) 1 (mrd_ M) = none then upd (mtd_ M) p (vd_ (mtp_ M) (mtn_ M) (mrd_ M) 1) else mtd_ M)) : raP_ M b p (b1 (dg_ (mtp_ M) (mtn_ M) 1 (mrd_ M) = none)) td rd := by
  have hd : db_ b = 1 := by rcases hb with q | q <;> rw [q] <;> rfl
  unfold raP_
  rw [hd]
  refine ⟨rfl, hr, fun j hj => ?_, fun h => ?_⟩
  · rw [ht]; split
    · exact upd_lt hj
    · rfl
  · rw [if_pos h] at ht
    refine ⟨fun q => ?_, fun q => ?_, fun _ => by rw [ht, upd_at]; exact vd_1 _ _ _, fun q => ?_⟩
    · rcases hb with z | z <;> rw [z] at q <;> exact absurd q (by decide)
    · rcases hb with z | z <;> rw [z] at q <;> exact absurd q (by decide)
    · rcases hb with z | z <;> rw [z] at q <;> exact absurd q (by decide)
theorem ra_2 {M : MT} {b : Int32} {p rd : Nat} {td : Nat → Int32} (hb : b = 105 ∨ b = 104) (hr : rd = rdv_ (dg_ (mtp_ M) (mtn_ M) 2 (mrd_ M)) (mrd_ M + 2)) (ht : td = (if dg_ (mtp_ M) (mtn_ M) 2 (mrd_ M) = none then upd (mtd_ M) p (vd_ (mtp_ M) (mtn_ M) (mrd_ M) 2) else mtd_ M)) : raP_ M b p (b1 (dg_ (mtp_ M) (mtn_ M) 2 (mrd_ M) = none)) td rd := by
  have hd : db_ b = 2 := by rcases hb with q | q <;> rw [q] <;> rfl
  unfold raP_
  rw [hd]
  refine ⟨rfl, hr, fun j hj => ?_, fun h => ?_⟩
  · rw [ht]; split
    · exact upd_lt hj
    · rfl
  · rw [if_pos h] at ht
    refine ⟨fun q => ?_, fun q => ?_, fun q => ?_, fun _ => by rw [ht, upd_at]; exact vd_2 _ _ _⟩
    · rcases hb with z | z <;> rw [z] at q <;> exact absurd q (by decide)
    · rcases hb with z | z <;> rw [z] at q <;> exact absurd q (by decide)
    · rcases hb with z | z <;> rw [z] at q <;> exact absurd q (by decide)
theorem ra_o {b : Int32} (hb : b = 115 ∨ b = 112 ∨ b = 113 ∨ b = 105 ∨ b = 118 ∨ b = 104) (h1 : ¬ b = 112) (h2 : ¬ b = 113) (h3 : ¬ b = 115) (h4 : ¬ b = 118) : b = 105 ∨ b = 104 := by
  rcases hb with h | h | h | h | h | h
  · exact absurd h h3
  · exact absurd h h1
  · exact absurd h h2
  · exact Or.inl h
  · exact absurd h h4
  · exact Or.inr h
/-- one STATEMENT is read -/
abbrev stP_ (M : MT) (r : Int32) (lt la td : Nat → Int32) (rd : Nat) : Prop := r = b1 (sr_ (mtp_ M) (mtn_ M) (mrd_ M) = none) ∧ rd = rdv_ (sr_ (mtp_ M) (mtn_ M) (mrd_ M)) (mrd_ M + (db_ (la_ (mtp_ M) (mtn_ M) (mrd_ M)) + 1) + 1) ∧ (∀ j, j < msm_ M → lt j = mlt_ M j ∧ la j = mla_ M j) ∧ (∀ j, j < 3 * msm_ M → td j = mtd_ M j) ∧ (sr_ (mtp_ M) (mtn_ M) (mrd_ M) = none → lt (msm_ M) = la_ (mtp_ M) (mtn_ M) (mrd_ M) ∧ la (msm_ M) = nI (mrd_ M) ∧ okT_ (mtp_ M) (mtn_ M) (mrd_ M + 1) (la_ (mtp_ M) (mtn_ M) (mrd_ M)) td (3 * msm_ M))
theorem st_f0 {M : MT} (h : db_ (la_ (mtp_ M) (mtn_ M) (mrd_ M)) = 0) : stP_ M 0 (mlt_ M) (mla_ M) (mtd_ M) (mrd_ M) := by
  unfold stP_
  rw [sr_a h]
  exact ⟨(b1_f (fun q => by cases q)).symm, rfl, fun _ _ => ⟨rfl, rfl⟩, fun _ _ => rfl, fun q => by cases q⟩
theorem st_f1 {M : MT} {td : Nat → Int32} {rd e : Nat} (h : ¬ dg_ (mtp_ M) (mtn_ M) (db_ (la_ (mtp_ M) (mtn_ M) (mrd_ M))) (mrd_ M + 1) = none) (hnz : ¬ db_ (la_ (mtp_ M) (mtn_ M) (mrd_ M)) = 0) (hr : rd = rdv_ (dg_ (mtp_ M) (mtn_ M) (db_ (la_ (mtp_ M) (mtn_ M) (mrd_ M))) (mrd_ M + 1)) e) (ht : ∀ j, j < 3 * msm_ M → td j = mtd_ M j) : stP_ M 0 (upd (mlt_ M) (msm_ M) (la_ (mtp_ M) (mtn_ M) (mrd_ M))) (upd (mla_ M) (msm_ M) (nI (mrd_ M))) td rd := by
  unfold stP_
  cases hd : dg_ (mtp_ M) (mtn_ M) (db_ (la_ (mtp_ M) (mtn_ M) (mrd_ M))) (mrd_ M + 1) with
  | none => exact absurd hd h
  | some q =>
    rw [hd] at hr
    rw [sr_b hnz hd]
    exact ⟨(b1_f (fun q => by cases q)).symm, hr, fun j hj => ⟨upd_lt hj, upd_lt hj⟩, ht, fun q => by cases q⟩
theorem st_f2 {M : MT} {td : Nat → Int32} (h : dg_ (mtp_ M) (mtn_ M) (db_ (la_ (mtp_ M) (mtn_ M) (mrd_ M))) (mrd_ M + 1) = none) (hnz : ¬ db_ (la_ (mtp_ M) (mtn_ M) (mrd_ M)) = 0) (h59 : ¬ la_ (mtp_ M) (mtn_ M) (mrd_ M + 1 + db_ (la_ (mtp_ M) (mtn_ M) (mrd_ M))) = 59) (ht : ∀ j, j < 3 * msm_ M → td j = mtd_ M j) : stP_ M 0 (upd (mlt_ M) (msm_ M) (la_ (mtp_ M) (mtn_ M) (mrd_ M))) (upd (mla_ M) (msm_ M) (nI (mrd_ M))) td (mrd_ M + 1 + db_ (la_ (mtp_ M) (mtn_ M) (mrd_ M))) := by
  unfold stP_
  have e : mrd_ M + 1 + db_ (la_ (mtp_ M) (mtn_ M) (mrd_ M)) = mrd_ M + (db_ (la_ (mtp_ M) (mtn_ M) (mrd_ M)) + 1) := by omega
  rw [e] at h59 ⊢
  rw [sr_c hnz h h59]
  exact ⟨(b1_f (fun q => by cases q)).symm, rfl, fun j hj => ⟨upd_lt hj, upd_lt hj⟩, ht, fun q => by cases q⟩
theorem st_y {M : MT} {td : Nat → Int32} (h : dg_ (mtp_ M) (mtn_ M) (db_ (la_ (mtp_ M) (mtn_ M) (mrd_ M))) (mrd_ M + 1) = none) (hnz : ¬ db_ (la_ (mtp_ M) (mtn_ M) (mrd_ M)) = 0) (h59 : la_ (mtp_ M) (mtn_ M) (mrd_ M + 1 + db_ (la_ (mtp_ M) (mtn_ M) (mrd_ M))) = 59) (ht : ∀ j, j < 3 * msm_ M → td j = mtd_ M j) (hd : dg_ (mtp_ M) (mtn_ M) (db_ (la_ (mtp_ M) (mtn_ M) (mrd_ M))) (mrd_ M + 1) = none → okT_ (mtp_ M) (mtn_ M) (mrd_ M + 1) (la_ (mtp_ M) (mtn_ M) (mrd_ M)) td (3 * msm_ M)) : stP_ M 1 (upd (mlt_ M) (msm_ M) (la_ (mtp_ M) (mtn_ M) (mrd_ M))) (upd (mla_ M) (msm_ M) (nI (mrd_ M))) td (mrd_ M + 1 + db_ (la_ (mtp_ M) (mtn_ M) (mrd_ M)) + 1) := by
  unfold stP_
  have e : mrd_ M + 1 + db_ (la_ (mtp_ M) (mtn_ M) (mrd_ M)) = mrd_ M + (db_ (la_ (mtp_ M) (mtn_ M) (mrd_ M)) + 1) := by omega
  rw [e] at h59 ⊢
  rw [sr_d hnz h h59]
  exact ⟨rfl, rfl, fun j hj => ⟨upd_lt hj, upd_lt hj⟩, ht, fun _ => ⟨upd_at, upd_at, hd h⟩⟩
/-! a STATEMENT comes -/
theorem csh_n {B : BayT} {w f v : Int32} (h : ¬ rs_ B w f v = 0) : 0 = b1 (rs_ B w f v = 0) ∧ B = (if rs_ B w f v = 0 then ad_ B w f v else B) := ⟨(b1_f h).symm, (if_neg h).symm⟩
theorem csh_y {B : BayT} {w f v : Int32} (h : rs_ B w f v = 0) : 1 = b1 (rs_ B w f v = 0) ∧ ad_ B w f v = (if rs_ B w f v = 0 then ad_ B w f v else B) := ⟨(b1_t h).symm, (if_pos h).symm⟩
theorem chh_n {B : BayT} {n : Nat} (h : ¬ rh_ B (nI n) = 0) : 0 = b1 (rh_ B (nI n) = 0) ∧ B = (if rh_ B (nI n) = 0 then hs_ n B else B) := ⟨(b1_f h).symm, (if_neg h).symm⟩
theorem chh_y {B : BayT} {n : Nat} (h : rh_ B (nI n) = 0) : 1 = b1 (rh_ B (nI n) = 0) ∧ hs_ n B = (if rh_ B (nI n) = 0 then hs_ n B else B) := ⟨(b1_t h).symm, (if_pos h).symm⟩
theorem rh_z {B : BayT} {n : Nat} (h : n = 0) : ¬ rh_ B (nI n) = 0 := by
  subst h
  unfold rh_
  rw [if_pos (by decide)]; decide
theorem rh_1 {n : Nat} (hn : n ≤ 99) (h : ¬ n = 0) : ¬ nI n < 1 ∧ ¬ 99 < nI n := ⟨fun q => by have := (jlt (b := 1) (by omega) (by decide)).mp q; omega, fun q => by have := (jlt (a := 99) (by decide) (by omega)).mp q; omega⟩
theorem rh_l {B : BayT} {n : Nat} (hn : n ≤ 99) (h : ¬ n = 0) (c : 999 < dy_ B + (ho_ B + nI n) / 24) : ¬ rh_ B (nI n) = 0 := by
  unfold rh_
  rw [if_neg (rh_1 hn h).1, if_neg (rh_1 hn h).2, if_pos c]; decide
theorem rh_y {B : BayT} {n : Nat} (hn : n ≤ 99) (h : ¬ n = 0) (c : ¬ 999 < dy_ B + (ho_ B + nI n) / 24) : rh_ B (nI n) = 0 := by
  unfold rh_
  rw [if_neg (rh_1 hn h).1, if_neg (rh_1 hn h).2, if_neg c]
theorem dt_m {L : Nat → Int32} {n i : Nat} (h : 48 ≤ la_ L n i ∧ la_ L n i ≤ 57) : ∃ m, m ≤ 9 ∧ dt_ L n i = nI m := by
  obtain ⟨c, hc, e⟩ := rg9 57 (by decide) (Int32.le_trans (by decide) h.1) h.2
  have h48 : 48 ≤ c := by
    have := h.1
    rw [e] at this
    exact (jle (a := 48) (by decide) (by omega)).mp this
  unfold dt_
  rw [e]
  exact ⟨c - 48, by omega, nI_sub9 (b := 48) h48⟩
theorem dt_9 {L : Nat → Int32} {n i : Nat} (h : 48 ≤ la_ L n i ∧ la_ L n i ≤ 57) : 0 ≤ dt_ L n i ∧ dt_ L n i ≤ 9 := by
  obtain ⟨m, hm, e⟩ := dt_m h
  rw [e]
  exact ⟨Int32.not_lt.mp (nI_pos (by omega)), (jle (b := 9) (by omega) (by decide)).mpr hm⟩
theorem nm_n {L : Nat → Int32} {n i : Nat} (h : 48 ≤ la_ L n i ∧ la_ L n i ≤ 57) (h2 : 48 ≤ la_ L n (i + 1) ∧ la_ L n (i + 1) ≤ 57) : ∃ m, m ≤ 99 ∧ nm_ L n i = nI m := by
  obtain ⟨m, hm, e⟩ := dt_m h
  obtain ⟨k, hk, e2⟩ := dt_m h2
  unfold nm_
  rw [e, e2, show (10 : Int32) * nI m = nI (10 * m) from pk_mul 10 m, nI_add]
  exact ⟨10 * m + k, by omega, rfl⟩
theorem nm_99 {L : Nat → Int32} {n i : Nat} (h : 48 ≤ la_ L n i ∧ la_ L n i ≤ 57) (h2 : 48 ≤ la_ L n (i + 1) ∧ la_ L n (i + 1) ≤ 57) : 0 ≤ nm_ L n i ∧ nm_ L n i ≤ 99 := by
  obtain ⟨m, hm, e⟩ := nm_n h h2
  rw [e]
  exact ⟨Int32.not_lt.mp (nI_pos (by omega)), (jle (b := 99) (by omega) (by decide)).mpr hm⟩
theorem h_104 {c : Int32} (h : ¬ db_ c = 0) (h1 : ¬ c = 115) (h2 : ¬ c = 112) (h3 : ¬ c = 113) (h4 : ¬ c = 105) (h5 : ¬ c = 118) : c = 104 := by
  refine Decidable.byContradiction fun q => h ?_
  exact db_o q h4 h2 h3 h1 h5
abbrev cmP_ (L : Nat → Int32) (n i : Nat) (B : BayT) (r : Int32) (u : BayT) : Prop := r = b1 (rst_ L n i B = 0) ∧ (rst_ L n i B = 0 → u = cst_ L n i B)
theorem b1_iff {P Q : Prop} [Decidable P] [Decidable Q] (h : P ↔ Q) : b1 P = b1 Q := by
  by_cases c : P
  · rw [b1_t c, b1_t (h.mp c)]
  · rw [b1_f c, b1_f (fun q => c (h.mpr q))]
theorem cm_115 {L : Nat → Int32} {n i : Nat} {B : BayT} (h : la_ L n i = 115) : cmP_ L n i B (b1 (rs_ B (dt_ L n (i + 1)) (dt_ L n (i + 2)) (nm_ L n (i + 3)) = 0)) (if rs_ B (dt_ L n (i + 1)) (dt_ L n (i + 2)) (nm_ L n (i + 3)) = 0 then ad_ B (dt_ L n (i + 1)) (dt_ L n (i + 2)) (nm_ L n (i + 3)) else B) := by
  unfold cmP_
  rw [rst_s h]
  exact ⟨rfl, fun q => by rw [if_pos q, cst_s h]⟩
theorem cm_112a {L : Nat → Int32} {n i : Nat} {B : BayT} (h : la_ L n i = 112) (c : ¬ (0 ≤ dt_ L n (i + 1) ∧ dt_ L n (i + 1) < nI (sn_ B))) : cmP_ L n i B 0 B := by
  have e : ¬ rst_ L n i B = 0 := by
    rw [rst_p h, f2_0]
    exact fun q => c (nb_0.mp q.1)
  exact ⟨(b1_f e).symm, fun q => absurd q e⟩
theorem cm_112b {L : Nat → Int32} {n i k : Nat} {B : BayT} (h : la_ L n i = 112) (e : dt_ L n (i + 1) = nI k) (hk : k < sn_ B) (hN : 0 ≤ nm_ L n (i + 2) ∧ nm_ L n (i + 2) ≤ 99) (hn : sn_ B ≤ 7) : cmP_ L n i B 1 (uw_ B k (nm_ L n (i + 2))) := by
  have e2 : rst_ L n i B = 0 := by
    rw [rst_p h, f2_0]
    refine ⟨nb_0.mpr ?_, ob_0.mpr hN⟩
    rw [e]
    exact ⟨Int32.not_lt.mp (nI_pos (by omega)), (jlt (by omega) (by omega)).mpr hk⟩
  exact ⟨(b1_t e2).symm, fun _ => (cst_p h e (by omega)).symm⟩
theorem cm_113 {L : Nat → Int32} {n i : Nat} {B : BayT} {u : BayT} (h : la_ L n i = 113) (c : ¬ (0 ≤ dt_ L n (i + 1) ∧ dt_ L n (i + 1) < nI (sn_ B))) : cmP_ L n i B (b1 (0 ≤ dt_ L n (i + 1) ∧ dt_ L n (i + 1) < nI (sn_ B))) u := by
  have e : ¬ rst_ L n i B = 0 := by
    rw [rst_q h]
    exact fun q => c (nb_0.mp q)
  exact ⟨b1_iff ⟨fun q => absurd q c, fun q => absurd q e⟩, fun q => absurd q e⟩
theorem cm_113b {L : Nat → Int32} {n i k : Nat} {B : BayT} (h : la_ L n i = 113) (e : dt_ L n (i + 1) = nI k) (hk : k < sn_ B) (hn : sn_ B ≤ 7) : cmP_ L n i B (b1 (0 ≤ dt_ L n (i + 1) ∧ dt_ L n (i + 1) < nI (sn_ B))) (uq_ B (qt_ B ^^^ ((1 : Int32) <<< (nI k &&& 31)))) := by
  refine ⟨b1_iff ?_, fun _ => (cst_q h e (by omega)).symm⟩
  rw [rst_q h]
  exact nb_0.symm
theorem cm_105 {L : Nat → Int32} {n i : Nat} {B : BayT} (h : la_ L n i = 105) : cmP_ L n i B (b1 (0 ≤ nm_ L n (i + 1) ∧ nm_ L n (i + 1) ≤ 30)) (ui_ B (nm_ L n (i + 1))) := by
  refine ⟨b1_iff ?_, fun _ => (cst_i h).symm⟩
  rw [rst_i h, f2_0, if_pos rfl, ob_0]
  exact ⟨fun q => ⟨by decide, q⟩, fun q => q.2⟩
theorem cm_118 {L : Nat → Int32} {n i : Nat} {B : BayT} (h : la_ L n i = 118) : cmP_ L n i B (b1 (1 ≤ dt_ L n (i + 1) ∧ dt_ L n (i + 1) ≤ 5)) (up_ B (dt_ L n (i + 1))) := by
  refine ⟨b1_iff ?_, fun _ => (cst_v h).symm⟩
  rw [rst_v h, f2_0, if_neg (by decide), ob_0]
  exact ⟨fun q => ⟨by decide, q⟩, fun q => q.2⟩
theorem cm_104 {L : Nat → Int32} {n i k : Nat} {B : BayT} (h : la_ L n i = 104) (e : nm_ L n (i + 1) = nI k) (hk : k ≤ 99) : cmP_ L n i B (b1 (rh_ B (nI k) = 0)) (if rh_ B (nI k) = 0 then hs_ k B else B) := by
  have a : ∀ x : Int32, ¬ (104 : Int32) = x → ¬ la_ L n i = x := fun x q z => q (h.symm.trans z)
  have e2 := rst_h (L := L) (n := n) (i := i) (T := B) (a _ (by decide)) (a _ (by decide)) (a _ (by decide)) (a _ (by decide)) (a _ (by decide))
  have e3 := cst_h (L := L) (n := n) (i := i) (T := B) (a _ (by decide)) (a _ (by decide)) (a _ (by decide)) (a _ (by decide)) (a _ (by decide)) e (by omega)
  rw [e] at e2
  unfold cmP_
  rw [e2, e3]
  exact ⟨rfl, fun q => if_pos q⟩
theorem bI_cst {L : Nat → Int32} {n i : Nat} {T : BayT} (hT : bI_ T) (h : rst_ L n i T = 0) : bI_ (cst_ L n i T) := by
  have hn := hT.1
  by_cases c1 : la_ L n i = 115
  · rw [cst_s c1]
    rw [rst_s c1] at h
    obtain ⟨a1, a2, a3, a4, a5⟩ := rs_k h
    exact bI_ad hT a3 a1 a2 a4 a5
  · by_cases c2 : la_ L n i = 112
    · rw [rst_p c2, f2_0] at h
      obtain ⟨k, hk, e⟩ := nb_k (by omega) h.1
      rw [cst_p c2 e (by omega)]
      exact bI_uw hT (ob_0.mp h.2)
    · by_cases c3 : la_ L n i = 113
      · rw [rst_q c3] at h
        obtain ⟨k, hk, e⟩ := nb_k (by omega) h
        rw [cst_q c3 e (by omega)]
        exact bI_xq hT hk
      · by_cases c4 : la_ L n i = 105
        · rw [rst_i c4, f2_0, if_pos rfl] at h
          rw [cst_i c4]
          exact bI_ui' hT (ob_0.mp h.2)
        · by_cases c5 : la_ L n i = 118
          · rw [rst_v c5, f2_0, if_neg (by decide)] at h
            rw [cst_v c5]
            exact bI_up hT (ob_0.mp h.2)
          · rw [rst_h c1 c2 c3 c4 c5] at h
            obtain ⟨k, hk, e⟩ := rh_k h
            rw [cst_h c1 c2 c3 c4 c5 e (by omega)]
            exact bI_hs hT k
theorem po_lt {L : Nat → Int32} {n k j : Nat} {lt la td : Nat → Int32} (h : PS_ L n k lt la td) (hj : j < k) : po_ L n j < n ∧ j < n := by
  have h1 := sr_lt (h j hj).1
  have h2 := po_3 (L := L) (n := n) (k := j) fun i hi => (h i (by omega)).1
  omega
theorem by_1 {L : Nat → Int32} {n k m9 rd9 rd : Nat} {lt9 la9 td9 lt la td : Nat → Int32} {FA : Option Nat} (hrd : rd9 = po_ L n k) (hPS : PS_ L n k lt9 la9 td9) (hf1 : rd9 = 0 ∨ rd9 < n → fa_ L n m9 rd9 = FA) (hm9 : 97 ≤ rd9 + m9) (h0 : rd9 = 0 ∨ rd9 < n) (hn : n ≤ 96) (c : sr_ L n rd9 = none) (hb : rd = rdv_ (sr_ L n rd9) (rd9 + (db_ (la_ L n rd9) + 1) + 1)) (hc : ∀ j, j < k → lt j = lt9 j ∧ la j = la9 j) (hd : ∀ j, j < 3 * k → td j = td9 j) (he : sr_ L n rd9 = none → lt k = la_ L n rd9 ∧ la k = nI rd9 ∧ okT_ L n (rd9 + 1) (la_ L n rd9) td (3 * k)) : rd = po_ L n (k + 1) ∧ PS_ L n (k + 1) lt la td ∧ (rd = 0 ∨ rd < n → fa_ L n (m9 - 1) rd = FA) ∧ (¬ rd = 0 → ¬ rd < n → FA = none) ∧ 97 ≤ rd + (m9 - 1) ∧ rd ≤ n := by
  rw [c] at hb
  replace hb : rd = rd9 + (db_ (la_ L n rd9) + 1) + 1 := hb
  obtain ⟨e1, e2, e3⟩ := he c
  have h1 := sr_lt c
  have hfa := (fa_sr (L := L) (n := n) (m := m9) (i := rd9) (by omega)).2 c
  rw [hf1 h0, ← hb] at hfa
  refine ⟨by rw [hb, hrd]; rfl, ?_, fun q => ?_, fun q1 q2 => ?_, by omega, by omega⟩
  · rw [hrd] at c e1 e2 e3
    exact PS_s hPS c e1 e2 e3 hc hd
  · rw [if_pos (by omega)] at hfa; exact hfa.symm
  · rw [if_neg q2] at hfa; exact hfa
theorem by_0 {L : Nat → Int32} {n m9 rd9 rd e : Nat} {FA : Option Nat} (hf1 : rd9 = 0 ∨ rd9 < n → fa_ L n m9 rd9 = FA) (hm9 : 97 ≤ rd9 + m9) (h0 : rd9 = 0 ∨ rd9 < n) (hn : n ≤ 96) (c : ¬ sr_ L n rd9 = none) (hb : rd = rdv_ (sr_ L n rd9) e) : FA = some rd := by
  cases hs : sr_ L n rd9 with
  | none => exact absurd hs c
  | some q =>
    rw [hs] at hb
    replace hb : rd = q := hb
    have h1 := (fa_sr (L := L) (n := n) (m := m9) (i := rd9) (by omega)).1 q hs
    rw [← hf1 h0, h1, hb]
