/-! hours gone through at once: who has it how often, who first, how far, where it stays -/
def ofn_ (B : BayT) (a : Nat) : Nat → Nat → Int32
  | 0 => fun _ => 0
  | n + 1 => match ow_ (hs_ n B) with
    | none => ofn_ B a n
    | some t => if a ≤ n then upd (ofn_ B a n) t (ofn_ B a n t + 1) else ofn_ B a n
def fan_ (B : BayT) : Nat → Nat → Int32
  | 0 => fun _ => -9
  | n + 1 => match ow_ (hs_ n B) with
    | none => fan_ B n
    | some t => if fan_ B n t < 0 then upd (fan_ B n) t (nI n) else fan_ B n
def lwn_ (B : BayT) : Nat → Int32
  | 0 => 30
  | n + 1 => if il_ (hs_ n B) < lwn_ B n then il_ (hs_ n B) else lwn_ B n
def hgn_ (B : BayT) : Nat → Int32
  | 0 => 0
  | n + 1 => if hgn_ B n < il_ (hs_ n B) then il_ (hs_ n B) else hgn_ B n
def sln_ (B : BayT) : Nat → Int32
  | 0 => -9
  | n + 1 => if sln_ B n < 0 ∧ il_ (hb_ False (hs_ n B)) = il_ (hs_ n B) then nI n else sln_ B n
def fom_ (M : MT) (B : BayT) (a i : Nat) : MT := mkM (mrf_ M) (mtp_ M) (mlt_ M) (mla_ M) (mtd_ M) (va_up (mkp_ M) 2 B) (ofn_ B a i) (fan_ B i) (mrw_ M) (mhb_ M) (mtn_ M) (mrd_ M) (msm_ M) (41 * 2 + 41) (mbk_ M) (mrm_ M) (mhi_ M) 1 (lwn_ B i) (hgn_ B i) (sln_ B i) (mlo_ M)
def fo2_ (M : MT) (B : BayT) (a i : Nat) : MT := mkM (mrf_ M) (mtp_ M) (mlt_ M) (mla_ M) (mtd_ M) (va_up (mkp_ M) 2 B) (ofn_ B a (i + 1)) (fan_ B (i + 1)) (mrw_ M) (mhb_ M) (mtn_ M) (mrd_ M) (msm_ M) (41 * 2 + 41) (mbk_ M) (mrm_ M) (mhi_ M) 1 (lwn_ B i) (hgn_ B i) (sln_ B i) (mlo_ M)
def fi0_ (M : MT) (i : Nat) : MT := mkM (mrf_ M) (mtp_ M) (mlt_ M) (mla_ M) (mtd_ M) (mkp_ M) (fun j => if j < i then 0 else mof_ M j) (fun j => if j < i then -9 else mfa_ M j) (mrw_ M) (mhb_ M) (mtn_ M) (mrd_ M) (msm_ M) (mcu_ M) (mbk_ M) (mrm_ M) (mhi_ M) (mik_ M) (mlw_ M) (mhg_ M) (msl_ M) (mlo_ M)
theorem fi_s (f : Nat → Int32) (v : Int32) (i : Nat) : upd (fun j => if j < i then v else f j) i v = (fun j => if j < i + 1 then v else f j) := by
  funext j
  unfold upd
  by_cases e : j = i
  · rw [if_pos e, if_pos (by omega)]
  · rw [if_neg e]
    show (if j < i then v else f j) = _
    by_cases q : j < i
    · rw [if_pos q, if_pos (by omega)]
    · rw [if_neg q, if_neg (by omega)]
theorem fi0_s (M : MT) (i : Nat) : mkM (mrf_ M) (mtp_ M) (mlt_ M) (mla_ M) (mtd_ M) (mkp_ M) (upd (fun j => if j < i then 0 else mof_ M j) i 0) (upd (fun j => if j < i then -9 else mfa_ M j) i (-9)) (mrw_ M) (mhb_ M) (mtn_ M) (mrd_ M) (msm_ M) (mcu_ M) (mbk_ M) (mrm_ M) (mhi_ M) (mik_ M) (mlw_ M) (mhg_ M) (msl_ M) (mlo_ M) = fi0_ M (i + 1) := by
  rw [fi_s, fi_s]; rfl
theorem fi0_0 (M : MT) : M = fi0_ M 0 := by
  have h1 : (fun j => if j < 0 then 0 else mof_ M j) = mof_ M := by funext j; rw [if_neg (Nat.not_lt_zero _)]
  have h2 : (fun j => if j < 0 then -9 else mfa_ M j) = mfa_ M := by funext j; rw [if_neg (Nat.not_lt_zero _)]
  unfold fi0_
  rw [h1, h2]
theorem fo_e {M : MT} {B : BayT} {a i : Nat} {f1 f2 : Nat → Int32} (h1 : f1 = ofn_ B a (i + 1)) (h2 : f2 = fan_ B (i + 1)) : mkM (mrf_ M) (mtp_ M) (mlt_ M) (mla_ M) (mtd_ M) (va_up (mkp_ M) 2 B) f1 f2 (mrw_ M) (mhb_ M) (mtn_ M) (mrd_ M) (msm_ M) (41 * 2 + 41) (mbk_ M) (mrm_ M) (mhi_ M) 1 (lwn_ B i) (hgn_ B i) (sln_ B i) (mlo_ M) = fo2_ M B a i := by
  subst h1; subst h2; rfl
theorem ofn_n {B : BayT} {a i : Nat} (h : ow_ (hs_ i B) = none) : ofn_ B a i = ofn_ B a (i + 1) := by
  conv => rhs; unfold ofn_
  rw [h]
theorem ofn_y {B : BayT} {a i t : Nat} (h : ow_ (hs_ i B) = some t) (c : ¬ i < a) : upd (ofn_ B a i) t (ofn_ B a i t + 1) = ofn_ B a (i + 1) := by
  conv => rhs; unfold ofn_
  rw [h]
  exact (if_pos (by omega)).symm
theorem ofn_l {B : BayT} {a i t : Nat} (h : ow_ (hs_ i B) = some t) (c : i < a) : ofn_ B a i = ofn_ B a (i + 1) := by
  conv => rhs; unfold ofn_
  rw [h]
  exact (if_neg (by omega)).symm
theorem fan_n {B : BayT} {i : Nat} (h : ow_ (hs_ i B) = none) : fan_ B i = fan_ B (i + 1) := by
  conv => rhs; unfold fan_
  rw [h]
theorem fan_y {B : BayT} {i t : Nat} (h : ow_ (hs_ i B) = some t) (c : ¬ 0 ≤ fan_ B i t) : upd (fan_ B i) t (nI i) = fan_ B (i + 1) := by
  conv => rhs; unfold fan_
  rw [h]
  exact (if_pos (Int32.not_le.mp c)).symm
theorem fan_l {B : BayT} {i t : Nat} (h : ow_ (hs_ i B) = some t) (c : 0 ≤ fan_ B i t) : fan_ B i = fan_ B (i + 1) := by
  conv => rhs; unfold fan_
  rw [h]
  exact (if_neg (Int32.not_lt.mpr c)).symm
