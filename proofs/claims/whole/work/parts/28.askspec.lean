/-! what the reference's questions answer: its ways, told in the class's words -/
def rfm_ (M : MT) (w : Int32) : MT := mkM (rfx_ (mrf_ M) w) (mtp_ M) (mlt_ M) (mla_ M) (mtd_ M) (mkp_ M) (mof_ M) (mfa_ M) (mrw_ M) (mhb_ M) (mtn_ M) (mrd_ M) (msm_ M) (mcu_ M) (mbk_ M) (mrm_ M) (mhi_ M) (mik_ M) (mlw_ M) (mhg_ M) (msl_ M) (mlo_ M)
/-- what a question leaves: refusals counted, all else that matters as it was -/
def oQ_ (M u : MT) (w : Int32) : Prop := oM_ (rfm_ M w) u
theorem rfm_0 {M : MT} {w : Int32} (h : w = 0) : rfm_ M w = M := by unfold rfm_; rw [← rfx_0 h]
theorem oQ_0 {M u : MT} {w : Int32} (c : w = 0) (h : oM_ M u) : oQ_ M u w := by unfold oQ_; rw [rfm_0 c]; exact h
theorem oQ_n (M : MT) (w : Int32) : oQ_ M (rfm_ M w) w := oM_.rf _
theorem rfm_e {M : MT} {w : Int32} (h : ¬ w = 0) : mkM (upd (mrf_ M) (ri_ w) (mrf_ M (ri_ w) + 1)) (mtp_ M) (mlt_ M) (mla_ M) (mtd_ M) (mkp_ M) (mof_ M) (mfa_ M) (mrw_ M) (mhb_ M) (mtn_ M) (mrd_ M) (msm_ M) (mcu_ M) (mbk_ M) (mrm_ M) (mhi_ M) (mik_ M) (mlw_ M) (mhg_ M) (msl_ M) (mlo_ M) = rfm_ M w := by
  unfold rfm_ rfx_; rw [if_neg h]
theorem oM_fo (M : MT) (B : BayT) (a i : Nat) : oM_ M (pu_ (fom_ M B a i) 2) := ⟨rfl, rfl, rfl, rfl, rfl, rfl, rfl, fun j hj => va_up_ne _ _ (by omega)⟩
/-- why in the reference's tests -/
theorem uk_ob (v : Int32) (n : Nat) (hn : n < 2147483648) : uk_ v (nI n) = if ob_ v 0 (nI n) = 0 then 0 else -2 := by
  by_cases h : 0 ≤ v ∧ v ≤ nI n
  · rw [if_pos (ob_0.mpr h)]; exact uk_0.mpr h
  · rw [if_neg (fun q => h (ob_0.mp q))]
    unfold uk_
    rw [if_pos]
    by_cases h1 : v < 0
    · exact Or.inl h1
    · exact Or.inr (Int32.not_le.mp fun q => h ⟨Int32.not_lt.mp h1, q⟩)
theorem uk_i {v b : Int32} (h : 0 ≤ v ∧ v ≤ b) : uk_ v b = 0 := uk_0.mpr h
theorem uk_o {v b : Int32} (h : ¬ (0 ≤ v ∧ v ≤ b)) : uk_ v b = -2 := by
  unfold uk_
  rw [if_pos]
  by_cases h1 : v < 0
  · exact Or.inl h1
  · exact Or.inr (Int32.not_le.mp fun q => h ⟨Int32.not_lt.mp h1, q⟩)
theorem nb_i {v b : Int32} (h : 0 ≤ v ∧ v < b) : nb_ v b = 0 := nb_0.mpr h
theorem nb_o {v b : Int32} (h : ¬ (0 ≤ v ∧ v < b)) : nb_ v b = -1 := by
  unfold nb_
  rw [if_pos]
  by_cases h1 : v < 0
  · exact Or.inl h1
  · exact Or.inr (Int32.not_lt.mp fun q => h ⟨Int32.not_lt.mp h1, q⟩)
theorem h23 {v : Int32} : (0 ≤ v ∧ v ≤ 23) ↔ (0 ≤ v ∧ v < 24) := by
  constructor
  · rintro ⟨a, b⟩
    obtain ⟨k, hk, rfl⟩ := pl_le (v := v) (n := 23) (by decide) ⟨a, b⟩
    exact ⟨a, (jlt (b := 24) (by omega) (by decide)).mpr (by omega)⟩
  · rintro ⟨a, b⟩
    obtain ⟨k, hk, rfl⟩ := pl_lt (v := v) (n := 24) (by decide) ⟨a, b⟩
    exact ⟨a, (jle (b := 23) (by omega) (by decide)).mpr (by omega)⟩
theorem f2_a {a b : Int32} (h : ¬ a = 0) : f2_ a b = a := by unfold f2_; rw [if_neg h]
theorem f2_b {a b : Int32} (h : a = 0) : f2_ a b = b := by unfold f2_; rw [if_pos h]
/-- an isle has one owner -/
theorem ow_k {B : BayT} (hI : bI_ B) {k : Nat} (hk : k < sn_ B) : ow_ B = some k ↔ pl_ B k = il_ B := by
  constructor
  · intro h; exact (sa_lt h).2
  · intro h
    unfold ow_ sa_
    have key : ∀ m i, i + m = sn_ B → i ≤ k → at_ (pl_ B) (il_ B) m i = some k := by
      intro m
      induction m with
      | zero => intro i h1 h2; omega
      | succ m ih =>
        intro i h1 h2
        unfold at_
        by_cases c : pl_ B i = il_ B
        · rw [if_pos c]
          have := hI.2.2.1 i k (by omega) hk (c.trans h.symm)
          rw [this]
        · rw [if_neg c]
          refine ih (i + 1) (by omega) ?_
          by_cases e : i = k
          · subst e; exact absurd h c
          · omega
    exact key (sn_ B) 0 (by omega) (Nat.zero_le _)
theorem ow_lt {B : BayT} {t : Nat} (h : ow_ B = some t) : t < sn_ B := (sa_lt h).1
/-- how often: the reference's row is the class's count -/
theorem ofn_tc {B : BayT} (hI : bI_ B) {k : Nat} (hk : k < sn_ B) : ∀ n, ofn_ B 1 (n + 1) k = tc_ B k n
  | 0 => by
    show (match ow_ (hs_ 0 B) with | none => ofn_ B 1 0 | some t => if 1 ≤ 0 then upd (ofn_ B 1 0) t (ofn_ B 1 0 t + 1) else ofn_ B 1 0) k = tc_ B k 0
    cases ow_ (hs_ 0 B) with
    | none => rfl
    | some t => rfl
  | n + 1 => by
    have ih := ofn_tc hI hk n
    have hJ := bI_hs hI (n + 1)
    have hk2 : k < sn_ (hs_ (n + 1) B) := by rw [sn_hs]; exact hk
    have e := ow_k hJ hk2
    show (match ow_ (hs_ (n + 1) B) with | none => ofn_ B 1 (n + 1) | some t => if 1 ≤ n + 1 then upd (ofn_ B 1 (n + 1)) t (ofn_ B 1 (n + 1) t + 1) else ofn_ B 1 (n + 1)) k = tc_ B k (n + 1)
    show _ = (if pl_ (hs_ (n + 1) B) k = il_ (hs_ (n + 1) B) then tc_ B k n + 1 else tc_ B k n)
    cases h : ow_ (hs_ (n + 1) B) with
    | none =>
      rw [h] at e
      rw [if_neg (fun q => by have := e.mpr q; cases this)]
      exact ih
    | some t =>
      rw [h] at e
      show (if 1 ≤ n + 1 then upd (ofn_ B 1 (n + 1)) t (ofn_ B 1 (n + 1) t + 1) else ofn_ B 1 (n + 1)) k = _
      rw [if_pos (by omega)]
      unfold upd
      by_cases c : k = t
      · subst c
        rw [if_pos rfl, if_pos (e.mp rfl), ih]
      · rw [if_neg c, if_neg (fun q => by have := e.mpr q; cases this; exact c rfl)]
        exact ih
theorem fan_fh {B : BayT} (hI : bI_ B) {k : Nat} (hk : k < sn_ B) : ∀ n, n ≤ 100 → (fan_ B n k = -9 ∧ (∀ i, i < n → ¬ pl_ (hs_ i B) k = il_ (hs_ i B))) ∨ (∃ j, j < n ∧ fan_ B n k = nI j ∧ pl_ (hs_ j B) k = il_ (hs_ j B) ∧ ∀ i, i < j → ¬ pl_ (hs_ i B) k = il_ (hs_ i B))
  | 0, _ => Or.inl ⟨rfl, fun i hi => absurd hi (Nat.not_lt_zero _)⟩
  | n + 1, hn => by
    have ih := fan_fh hI hk n (by omega)
    have hJ := bI_hs hI n
    have hk2 : k < sn_ (hs_ n B) := by rw [sn_hs]; exact hk
    have e := ow_k hJ hk2
    have hs : ∀ h : ow_ (hs_ n B) = none ∨ (∃ t, ow_ (hs_ n B) = some t ∧ ¬ (t = k)), fan_ B (n + 1) k = fan_ B n k ∧ ¬ pl_ (hs_ n B) k = il_ (hs_ n B) := by
      rintro (h | ⟨t, h, ht⟩)
      · rw [h] at e
        refine ⟨?_, fun q => by have := e.mpr q; cases this⟩
        rw [← fan_n h]
      · rw [h] at e
        refine ⟨?_, fun q => by have := e.mpr q; cases this; exact ht rfl⟩
        by_cases c : 0 ≤ fan_ B n t
        · rw [← fan_l h c]
        · rw [← fan_y h c]; unfold upd; rw [if_neg (fun q => ht q.symm)]
    by_cases hz : ow_ (hs_ n B) = some k
    · have c2 := e.mp hz
      rcases ih with ⟨h1, h2⟩ | ⟨j, h0, h1, h2, h3⟩
      · right
        refine ⟨n, by omega, ?_, c2, h2⟩
        rw [← fan_y hz (by rw [h1]; decide)]
        unfold upd; rw [if_pos rfl]
      · right
        refine ⟨j, by omega, ?_, h2, h3⟩
        rw [← fan_l hz (by rw [h1]; exact Int32.not_lt.mp (nI_pos (by omega)))]
        exact h1
    · obtain ⟨h4, h5⟩ := hs (by
        cases hq : ow_ (hs_ n B) with
        | none => exact Or.inl rfl
        | some t => exact Or.inr ⟨t, rfl, fun q => hz (by rw [hq, q])⟩)
      rcases ih with ⟨h1, h2⟩ | ⟨j, h0, h1, h2, h3⟩
      · left
        refine ⟨h4.trans h1, fun i hi => ?_⟩
        by_cases c : i = n
        · subst c; exact h5
        · exact h2 i (by omega)
      · right
        exact ⟨j, by omega, h4.trans h1, h2, h3⟩
theorem fh_no {B : BayT} {k : Nat} : ∀ m i, (∀ j, i ≤ j → j < i + m → ¬ pl_ (hs_ j B) k = il_ (hs_ j B)) → fh_ B k m i = none
  | 0, _, _ => rfl
  | m + 1, i, h => by
    rw [fh_, if_neg (h i (Nat.le_refl _) (by omega))]
    exact fh_no m (i + 1) fun j h1 h2 => h j (by omega) (by omega)
theorem fh_yes {B : BayT} {k t : Nat} : ∀ m i, i ≤ t → t < i + m → pl_ (hs_ t B) k = il_ (hs_ t B) → (∀ j, i ≤ j → j < t → ¬ pl_ (hs_ j B) k = il_ (hs_ j B)) → fh_ B k m i = some t
  | 0, i, h1, h2, _, _ => by omega
  | m + 1, i, h1, h2, h3, h4 => by
    by_cases e : i = t
    · subst e; rw [fh_, if_pos h3]
    · rw [fh_, if_neg (h4 i (Nat.le_refl _) (by omega))]
      exact fh_yes m (i + 1) (by omega) (by omega) h3 fun j a b => h4 j (by omega) b
theorem fan_eq {B : BayT} (hI : bI_ B) {k : Nat} (hk : k < sn_ B) : fan_ B 100 k = oI_ (fh_ B k 100 0) := by
  rcases fan_fh hI hk 100 (Nat.le_refl _) with ⟨h1, h2⟩ | ⟨j, h0, h1, h2, h3⟩
  · rw [h1, fh_no 100 0 fun j _ b => h2 j (by omega)]; rfl
  · rw [h1, fh_yes (t := j) 100 0 (by omega) (by omega) h2 fun i _ b => h3 i b]; rfl
/-- the least and the greatest place -/
theorem lwn_lp {B : BayT} (hI : bI_ B) : ∀ n, lwn_ B (n + 1) = lp_ B n
  | 0 => by
    show (if il_ (hs_ 0 B) < lwn_ B 0 then il_ (hs_ 0 B) else lwn_ B 0) = lp_ B 0
    have h := hI.2.2.2.2.1
    show (if il_ B < 30 then il_ B else 30) = il_ B
    by_cases c : il_ B < 30
    · rw [if_pos c]
    · rw [if_neg c]; exact Int32.le_antisymm (Int32.not_lt.mp c) h.2
  | n + 1 => by
    have ih := lwn_lp hI n
    show (if il_ (hs_ (n + 1) B) < lwn_ B (n + 1) then il_ (hs_ (n + 1) B) else lwn_ B (n + 1)) = lp_ B (n + 1)
    rw [ih]; rfl
theorem hgn_gp {B : BayT} (hI : bI_ B) : ∀ n, hgn_ B (n + 1) = gp_ B n
  | 0 => by
    have h := hI.2.2.2.2.1
    show (if 0 < il_ B then il_ B else 0) = il_ B
    by_cases c : 0 < il_ B
    · rw [if_pos c]
    · rw [if_neg c]; exact Int32.le_antisymm h.1 (Int32.not_lt.mp c)
  | n + 1 => by
    have ih := hgn_gp hI n
    show (if hgn_ B (n + 1) < il_ (hs_ (n + 1) B) then il_ (hs_ (n + 1) B) else hgn_ B (n + 1)) = gp_ B (n + 1)
    rw [ih]; rfl
theorem sln_st {B : BayT} : ∀ n, n ≤ 100 → (sln_ B n = -9 ∧ ∀ i, i < n → ¬ il_ (hs_ (i + 1) B) = il_ (hs_ i B)) ∨ (∃ j, j < n ∧ sln_ B n = nI j ∧ il_ (hs_ (j + 1) B) = il_ (hs_ j B) ∧ ∀ i, i < j → ¬ il_ (hs_ (i + 1) B) = il_ (hs_ i B))
  | 0, _ => Or.inl ⟨rfl, fun i hi => absurd hi (Nat.not_lt_zero _)⟩
  | n + 1, hn => by
    rcases sln_st (B := B) n (by omega) with ⟨h1, h2⟩ | ⟨j, h0, h1, h2, h3⟩
    · by_cases c : il_ (hs_ (n + 1) B) = il_ (hs_ n B)
      · right
        refine ⟨n, by omega, ?_, c, h2⟩
        show (if sln_ B n < 0 ∧ il_ (hb_ False (hs_ n B)) = il_ (hs_ n B) then nI n else sln_ B n) = nI n
        rw [if_pos ⟨by rw [h1]; decide, c⟩]
      · left
        refine ⟨?_, fun i hi => ?_⟩
        · show (if sln_ B n < 0 ∧ il_ (hb_ False (hs_ n B)) = il_ (hs_ n B) then nI n else sln_ B n) = -9
          rw [if_neg (fun q => c q.2)]; exact h1
        · by_cases e : i = n
          · subst e; exact c
          · exact h2 i (by omega)
    · right
      refine ⟨j, by omega, ?_, h2, h3⟩
      show (if sln_ B n < 0 ∧ il_ (hb_ False (hs_ n B)) = il_ (hs_ n B) then nI n else sln_ B n) = nI j
      rw [if_neg (fun q => by rw [h1] at q; exact nI_pos (by omega) q.1)]; exact h1
theorem st_no {B : BayT} : ∀ m i, (∀ j, i ≤ j → j < i + m → ¬ il_ (hs_ (j + 1) B) = il_ (hs_ j B)) → st_ B m i = none
  | 0, _, _ => rfl
  | m + 1, i, h => by
    rw [st_, if_neg (show ¬ il_ (hb_ False (hs_ i B)) = il_ (hs_ i B) from h i (Nat.le_refl _) (by omega))]
    exact st_no m (i + 1) fun j h1 h2 => h j (by omega) (by omega)
theorem st_yes {B : BayT} {t : Nat} : ∀ m i, i ≤ t → t < i + m → il_ (hs_ (t + 1) B) = il_ (hs_ t B) → (∀ j, i ≤ j → j < t → ¬ il_ (hs_ (j + 1) B) = il_ (hs_ j B)) → st_ B m i = some t
  | 0, i, h1, h2, _, _ => by omega
  | m + 1, i, h1, h2, h3, h4 => by
    by_cases e : i = t
    · subst e; rw [st_, if_pos (show il_ (hb_ False (hs_ i B)) = il_ (hs_ i B) from h3)]
    · rw [st_, if_neg (show ¬ il_ (hb_ False (hs_ i B)) = il_ (hs_ i B) from h4 i (Nat.le_refl _) (by omega))]
      exact st_yes m (i + 1) (by omega) (by omega) h3 fun j a b => h4 j (by omega) b
theorem sln_eq (B : BayT) : sln_ B 100 = oI_ (st_ B 100 0) := by
  rcases sln_st (B := B) 100 (Nat.le_refl _) with ⟨h1, h2⟩ | ⟨j, h0, h1, h2, h3⟩
  · rw [h1, st_no 100 0 fun j _ b => h2 j (by omega)]; rfl
  · rw [h1, st_yes (t := j) 100 0 (by omega) (by omega) h2 fun i _ b => h3 i b]; rfl
/-- sums and bits, as the reference adds them up -/
theorem or0 (x : Int32) : x ||| 0 = x := Int32.toBitVec_inj.mp (by show x.toBitVec ||| (0 : Int32).toBitVec = _; exact BitVec.or_zero)
theorem bi_n {f : Nat → Int32} {v : Int32} {k : Nat} (h : ¬ f k = v) : bi_ f v k ||| 0 = bi_ f v (k + 1) := by rw [or0, bi_, if_neg h]
theorem bi_y {f : Nat → Int32} {v : Int32} {k : Nat} (h : f k = v) : bi_ f v k ||| ((1 : Int32) <<< (nI k &&& 31)) = bi_ f v (k + 1) := by rw [bi_, if_pos h]
/-- bits of 0 .. 127, counted one by one -/
def bb_ (x : Int32) : Nat → Int32
  | 0 => 0
  | k + 1 => bb_ x k + ((x >>> (nI k &&& 31)) &&& 1)
theorem bb_pn_d : ∀ b : Fin 128, bb_ (nI b.val) 31 = nI (pn_ b.val) := by decide +kernel
theorem bb_pn {b : Nat} (h : b < 128) : bb_ (nI b) 31 = nI (pn_ b) := bb_pn_d ⟨b, h⟩
/-- the loudest hour so far -/
def lh0_ (B : BayT) (i : Nat) : Nat := lh_ B (i - 1)
theorem lh_le (B : BayT) : ∀ k, lh_ B k ≤ k
  | 0 => Nat.le_refl 0
  | k + 1 => by
    have := lh_le B k
    unfold lh_
    split
    · exact Nat.le_refl _
    · omega
theorem lh0_le (B : BayT) (i : Nat) (h : i ≤ 24) : lh0_ B i ≤ 23 := by have := lh_le B (i - 1); unfold lh0_; omega
theorem lh0_y {B : BayT} {i : Nat} (c : an_ B (nI (lh0_ B i)) < an_ B (nI i)) : i = lh0_ B (i + 1) := by
  cases i with
  | zero => rfl
  | succ j =>
    show j + 1 = lh_ B (j + 1)
    rw [lh_, if_pos (show an_ B (nI (lh_ B j)) < an_ B (nI (j + 1)) from c)]
theorem lh0_n {B : BayT} {i : Nat} (c : ¬ an_ B (nI (lh0_ B i)) < an_ B (nI i)) : lh0_ B i = lh0_ B (i + 1) := by
  cases i with
  | zero => rfl
  | succ j =>
    show lh_ B j = lh_ B (j + 1)
    rw [lh_, if_neg (show ¬ an_ B (nI (lh_ B j)) < an_ B (nI (j + 1)) from c)]
/-- who is first of all -/
def wf_ (f : Nat → Int32) : Nat → Option Nat
  | 0 => none
  | k + 1 => if 0 ≤ f k then (match wf_ f k with
    | none => some k
    | some t => if f k < f t then some k else some t) else wf_ f k
theorem wf_lt {f : Nat → Int32} : ∀ (n t : Nat), wf_ f n = some t → t < n ∧ 0 ≤ f t
  | 0, t, e => by cases e
  | k + 1, t, e => by
    unfold wf_ at e
    by_cases c : 0 ≤ f k
    · rw [if_pos c] at e
      cases h1 : wf_ f k with
      | none => rw [h1] at e; cases e; exact ⟨by omega, c⟩
      | some u =>
        rw [h1] at e
        have a1 := wf_lt k u h1
        by_cases c2 : f k < f u
        · simp only [c2, if_true] at e; cases e; exact ⟨by omega, c⟩
        · simp only [c2, if_false] at e; cases e; exact ⟨by omega, a1.2⟩
    · rw [if_neg c] at e
      have a1 := wf_lt k t e; exact ⟨by omega, a1.2⟩
theorem wf_a {f : Nat → Int32} {k : Nat} (c : 0 ≤ f k) (h : wf_ f k = none) : wf_ f (k + 1) = some k := by unfold wf_; rw [if_pos c, h]
theorem wf_b {f : Nat → Int32} {k t : Nat} (c : 0 ≤ f k) (h : wf_ f k = some t) (c2 : f k < f t) : wf_ f (k + 1) = some k := by unfold wf_; rw [if_pos c, h]; exact if_pos c2
theorem wf_c {f : Nat → Int32} {k t : Nat} (c : 0 ≤ f k) (h : wf_ f k = some t) (c2 : ¬ f k < f t) : wf_ f (k + 1) = some t := by unfold wf_; rw [if_pos c, h]; exact if_neg c2
theorem wf_d {f : Nat → Int32} {k : Nat} (c : ¬ 0 ≤ f k) : wf_ f (k + 1) = wf_ f k := by
  conv => lhs; unfold wf_
  rw [if_neg c]
/-- bits of those that never have it: by the sign -/
def nv_ (f : Nat → Int32) : Nat → Int32
  | 0 => 0
  | k + 1 => nv_ f k ||| (if f k < 0 then (1 : Int32) <<< (nI k &&& 31) else 0)
theorem nv_bi {f g : Nat → Int32} : ∀ n, (∀ k, k < n → (f k < 0 ↔ g k = -9)) → nv_ f n = bi_ g (-9) n
  | 0, _ => rfl
  | n + 1, h => by
    have ih := nv_bi (f := f) (g := g) n fun k hk => h k (by omega)
    show nv_ f n ||| (if f n < 0 then _ else 0) = _
    rw [ih, bi_]
    by_cases c : f n < 0
    · rw [if_pos c, if_pos ((h n (by omega)).mp c)]
    · rw [if_neg c, if_neg (fun q => c ((h n (by omega)).mpr q)), or0]
theorem oI_neg {o : Option Nat} (h : ∀ t, o = some t → t < 2147483648) : oI_ o < 0 ↔ oI_ o = -9 := by
  cases o with
  | none => exact ⟨fun _ => rfl, fun _ => by decide⟩
  | some t => exact ⟨fun q => absurd q (nI_pos (h t rfl)), fun q => absurd q (nI_m9 (h t rfl))⟩
theorem nv_eq {B : BayT} (hI : bI_ B) : nv_ (fan_ B 100) (sn_ B) = bi_ (fun j => oI_ (fh_ B j 100 0)) (-9) (sn_ B) := by
  refine nv_bi _ fun k hk => ?_
  rw [fan_eq hI hk]
  exact oI_neg fun t ht => by have := fh_lt _ _ _ ht; omega
/-- the first of all behind the first hours -/
theorem fo_no {B : BayT} : ∀ m i, (∀ j, i ≤ j → j < i + m → ow_ (hs_ j B) = none) → fo_ B m i = none
  | 0, _, _ => rfl
  | m + 1, i, h => by
    rw [fo_, if_pos (h i (Nat.le_refl _) (by omega))]
    exact fo_no m (i + 1) fun j h1 h2 => h j (by omega) (by omega)
theorem fo_yes {B : BayT} {t : Nat} : ∀ m i, i ≤ t → t < i + m → ¬ ow_ (hs_ t B) = none → (∀ j, i ≤ j → j < t → ow_ (hs_ j B) = none) → fo_ B m i = ow_ (hs_ t B)
  | 0, i, h1, h2, _, _ => by omega
  | m + 1, i, h1, h2, h3, h4 => by
    by_cases e : i = t
    · subst e; rw [fo_, if_neg h3]
    · rw [fo_, if_pos (h4 i (Nat.le_refl _) (by omega))]
      exact fo_yes m (i + 1) (by omega) (by omega) h3 fun j a b => h4 j (by omega) b
theorem wf_best {f : Nat → Int32} : ∀ n, (wf_ f n = none ∧ ∀ k, k < n → ¬ 0 ≤ f k) ∨ (∃ t, wf_ f n = some t ∧ t < n ∧ 0 ≤ f t ∧ ∀ k, k < n → 0 ≤ f k → f t ≤ f k ∧ (f k = f t → t ≤ k))
  | 0 => Or.inl ⟨rfl, fun k hk => absurd hk (Nat.not_lt_zero _)⟩
  | n + 1 => by
    rcases wf_best (f := f) n with ⟨h1, h2⟩ | ⟨t, h1, h2, h3, h4⟩
    · by_cases c : 0 ≤ f n
      · right
        refine ⟨n, wf_a c h1, by omega, c, fun k hk hk2 => ?_⟩
        by_cases e : k = n
        · subst e; exact ⟨Int32.le_refl _, fun _ => Nat.le_refl _⟩
        · exact absurd hk2 (h2 k (by omega))
      · left
        refine ⟨(wf_d c).trans h1, fun k hk => ?_⟩
        by_cases e : k = n
        · subst e; exact c
        · exact h2 k (by omega)
    · by_cases c : 0 ≤ f n
      · by_cases c2 : f n < f t
        · right
          refine ⟨n, wf_b c h1 c2, by omega, c, fun k hk hk2 => ?_⟩
          by_cases e : k = n
          · subst e; exact ⟨Int32.le_refl _, fun _ => Nat.le_refl _⟩
          · have h5 := (h4 k (by omega) hk2).1
            refine ⟨Int32.le_of_lt (Int32.lt_of_lt_of_le c2 h5), fun q => ?_⟩
            rw [q] at h5
            exact absurd c2 (Int32.not_lt.mpr h5)
        · right
          refine ⟨t, wf_c c h1 c2, by omega, h3, fun k hk hk2 => ?_⟩
          by_cases e : k = n
          · subst e; exact ⟨Int32.not_lt.mp c2, fun _ => by omega⟩
          · exact h4 k (by omega) hk2
      · right
        refine ⟨t, (wf_d c).trans h1, by omega, h3, fun k hk hk2 => ?_⟩
        by_cases e : k = n
        · subst e; exact absurd hk2 c
        · exact h4 k (by omega) hk2
theorem wf_fo {B : BayT} (hI : bI_ B) : wf_ (fan_ B 100) (sn_ B) = fo_ B 100 0 := by
  have key : ∀ k, k < sn_ B → (fan_ B 100 k = -9 ∧ (∀ i, i < 100 → ¬ pl_ (hs_ i B) k = il_ (hs_ i B))) ∨ (∃ j, j < 100 ∧ fan_ B 100 k = nI j ∧ pl_ (hs_ j B) k = il_ (hs_ j B) ∧ ∀ i, i < j → ¬ pl_ (hs_ i B) k = il_ (hs_ i B)) := fun k hk => fan_fh hI hk 100 (Nat.le_refl _)
  have ow1 : ∀ i t, ow_ (hs_ i B) = some t → t < sn_ B ∧ pl_ (hs_ i B) t = il_ (hs_ i B) := by
    intro i t h
    have h1 := ow_lt h
    rw [sn_hs] at h1
    exact ⟨h1, (sa_lt h).2⟩
  rcases wf_best (f := fan_ B 100) (sn_ B) with ⟨h1, h2⟩ | ⟨t, h1, h2, h3, h4⟩
  · rw [h1, fo_no 100 0]
    intro j _ hj
    cases h : ow_ (hs_ j B) with
    | none => rfl
    | some u =>
      obtain ⟨a1, a2⟩ := ow1 j u h
      rcases key u a1 with ⟨_, b2⟩ | ⟨i, b0, b1, _, _⟩
      · exact absurd a2 (b2 j (by omega))
      · exact absurd (by rw [b1]; exact Int32.not_lt.mp (nI_pos (by omega))) (h2 u a1)
  · rcases key t h2 with ⟨b1, _⟩ | ⟨j, b0, b1, b2, b3⟩
    · rw [b1] at h3; exact absurd h3 (by decide)
    · have hJ := bI_hs hI j
      have ht : ow_ (hs_ j B) = some t := (ow_k hJ (by rw [sn_hs]; exact h2)).mpr b2
      rw [h1, fo_yes (t := j) 100 0 (Nat.zero_le _) (by omega) (by rw [ht]; exact fun q => by cases q), ht]
      intro i _ hi
      cases h : ow_ (hs_ i B) with
      | none => rfl
      | some u =>
        obtain ⟨a1, a2⟩ := ow1 i u h
        rcases key u a1 with ⟨_, c2⟩ | ⟨i2, c0, c1, c2, c3⟩
        · exact absurd a2 (c2 i (by omega))
        · have hi2 : i2 ≤ i := Nat.not_lt.mp fun q => c3 i q a2
          have h5 := (h4 u a1 (by rw [c1]; exact Int32.not_lt.mp (nI_pos (by omega)))).1
          rw [b1, c1, jle (by omega) (by omega)] at h5
          omega
