/-! what each call answers, and why it is refused -/
abbrev xO (g : Nat → Nat) (hi : Int32) (tc : Nat) : va_W := [(g 0, .inr (4, [.ref (g 1), .ref (g 4), .ref (g 20), .int hi, .ref (g 26), .ref (g 18), .ref (g 16), .int (nI tc), .ref (g 17)]))]
abbrev rW (cI : ClassId) (g : Nat → Nat) (rf : Nat → Int32) : va_W := [(g 17, .inl (cI, 7, .inl rf))]
def gc_ : Nat → Int64 → Int64 → Int64
  | 0, a, _ => a
  | m + 1, a, b => if b = 0 then a else gc_ m b (a - a / b * b)
theorem gc_0 {a b : Int64} {n i : Nat} (h : n ≤ i) : gc_ (n - i) a b = a := by rw [show n - i = 0 by omega]; rfl
theorem gc_z {a b : Int64} {n i : Nat} (h : i < n) (c : b = 0) : gc_ (n - i) a b = a := by rw [show n - i = (n - (i + 1)) + 1 by omega, gc_, if_pos c]
theorem gc_s {a b : Int64} {n i : Nat} (h : i < n) (c : ¬ b = 0) : gc_ (n - i) a b = gc_ (n - (i + 1)) b (a - a / b * b) := by rw [show n - i = (n - (i + 1)) + 1 by omega, gc_, if_neg c]
def it_ (a b : Int64) (p : Int32) : Int64 := if gc_ 128 a b < 1 then -9 else (if p = 0 then a else b) / gc_ 128 a b
theorem rfx_0 {rf : Nat → Int32} {w : Int32} (h : w = 0) : rf = rfx_ rf w := by unfold rfx_; rw [if_pos h]
theorem uk_3 {q : Int32} (h0 : ¬ q = 0) (h1 : ¬ q = 1) (h2 : ¬ q = 2) : uk_ q 2 = -2 := by
  unfold uk_
  refine if_pos (Decidable.byContradiction fun h => ?_)
  obtain ⟨k, hk, rfl⟩ := pl_le (v := q) (n := 2) (by decide) ⟨Int32.not_lt.mp fun z => h (Or.inl z), Int32.not_lt.mp fun z => h (Or.inr z)⟩
  have : k = 0 ∨ k = 1 ∨ k = 2 := by omega
  rcases this with e | e | e
  · subst e; exact h0 rfl
  · subst e; exact h1 rfl
  · subst e; exact h2 rfl
theorem uk_2 {q : Int32} (h0 : ¬ q = 0) (h1 : ¬ q = 1) : uk_ q 1 = -2 := by
  unfold uk_
  refine if_pos (Decidable.byContradiction fun h => ?_)
  obtain ⟨k, hk, rfl⟩ := pl_le (v := q) (n := 1) (by decide) ⟨Int32.not_lt.mp fun z => h (Or.inl z), Int32.not_lt.mp fun z => h (Or.inr z)⟩
  have : k = 0 ∨ k = 1 := by omega
  rcases this with e | e
  · subst e; exact h0 rfl
  · subst e; exact h1 rfl
def dNe_ (B : BayT) : Int32 := match ne_ B (sn_ B) with
  | none => -9
  | some t => di_ B t
def gWg_ (B : BayT) : Int32 := match (wg_ B 31).1 with
  | none => -9
  | some t => gf_ B t
def mx1_ (n : Nat) : Int32 := if (1 : Int32) < nI n then nI n else 1
def lref_ (w : Int32) : Int64 := 4000000000000000000 - (w : Int32).toInt64
def soX_ (B : BayT) (k : Nat) (q : Int32) : Int32 := if q = 0 then kd_ B k else if q = 1 then fg_ B k else if q = 2 then pl_ B k else if q = 3 then pw_ B k else if q = 4 then b1 (qb_ (qt_ B) k = 1) else if q = 5 then jy_ B k else if q = 6 then co_ (kd_ B k) (fg_ B k) else b1 (pl_ B k = il_ B)
def ioX_ (B : BayT) (q : Int32) : Int32 := if q = 0 then il_ B else if q = 1 then pa_ B else oI_ (ow_ B)
def shX_ (B : BayT) (q : Int32) : Int32 := if q = 0 then su_ (jy_ B) (sn_ B) / mx1_ (sn_ B) else if q = 1 then su_ (jy_ B) (sn_ B) - su_ (jy_ B) (sn_ B) / mx1_ (sn_ B) * mx1_ (sn_ B) else bi_ (jy_ B) 0 (sn_ B)
def lhX_ (B : BayT) (q : Int32) : Int32 := if q = 0 then nI (lh_ B 23) else bi_ (fun j => an_ B (nI j)) 0 24
def wfX_ (B : BayT) (q : Int32) : Int32 := if q = 0 then oI_ (fo_ B 100 0) else if q = 1 then bi_ (fun j => oI_ (fh_ B j 100 0)) (-9) (sn_ B) else oI_ (st_ B 100 0)
def moX_ (B : BayT) (n : Nat) (q : Int32) : Int32 := if q = 0 then oI_ (bs_ (fun j => tc_ B j n) 0 (sn_ B)).1 else match (bs_ (fun j => tc_ B j n) 0 (sn_ B)).1 with
  | none => 0
  | some t => tc_ B t n
theorem bs_lt {f : Nat → Int32} {m0 : Int32} : ∀ (n t : Nat), (bs_ f m0 n).1 = some t → t < n
  | 0, t, e => by cases e
  | k + 1, t, e => by
    unfold bs_ at e
    by_cases c : (bs_ f m0 k).2 < f k
    · rw [if_pos c] at e; cases e; omega
    · rw [if_neg c] at e; have := bs_lt k t e; omega
def npX_ (B : BayT) (w : Int32) (n : Nat) (q : Int32) : Int32 := if q = 0 then oI_ (if sn_ B < 7 then (bs_ (np_ B w n) (-1) 31).1 else none) else match (if sn_ B < 7 then (bs_ (np_ B w n) (-1) 31).1 else none) with
  | none => -9
  | some t => tc_ (ad_ B w 5 (nI t)) (sn_ B) n
def bpX_ (B : BayT) (k n : Nat) : Int32 := bp_ (fun j => tc_ (uw_ B k (nI j)) k n) (ct_ B k) 101 0 0 0
def wTh_ (n : Nat) (a v t p : Int32) : Int32 := f2_ (f2_ (nb_ a (nI n)) (f2_ (if v < 0 then -4 else 0) (if t < 2 then -4 else 0))) (f2_ (f2_ (if 7 < v then -6 else 0) (if 20 < t then -6 else 0)) (uk_ p 1))
def pw_l (t : Int64) : Nat → Int64
  | 0 => 1
  | n + 1 => pw_l t n * t
theorem rc0_lo (v a : Int32) : rc0_ (if v < a then -4 else 0) := by
  split
  · exact Or.inr (Or.inr (Or.inr (Or.inr (Or.inl rfl))))
  · exact Or.inl rfl
theorem rc0_hi (v a : Int32) : rc0_ (if a < v then -6 else 0) := by
  split
  · exact Or.inr (Or.inr (Or.inr (Or.inr (Or.inr rfl))))
  · exact Or.inl rfl
theorem lo_0 {v a : Int32} : (if v < a then (-4 : Int32) else 0) = 0 ↔ a ≤ v := by
  by_cases h : v < a
  · rw [if_pos h]; exact ⟨fun e => absurd e (by decide), fun e => absurd h (Int32.not_lt.mpr e)⟩
  · rw [if_neg h]; exact ⟨fun _ => Int32.not_lt.mp h, fun _ => rfl⟩
theorem hi_0 {v a : Int32} : (if a < v then (-6 : Int32) else 0) = 0 ↔ v ≤ a := by
  by_cases h : a < v
  · rw [if_pos h]; exact ⟨fun e => absurd e (by decide), fun e => absurd h (Int32.not_lt.mpr e)⟩
  · rw [if_neg h]; exact ⟨fun _ => Int32.not_lt.mp h, fun _ => rfl⟩
theorem rc0_wS (n : Nat) (a : Int32) : rc0_ (wS_ n a) := rc0_nb _ _
theorem rc0_wSN (n : Nat) (a v : Int32) : rc0_ (wSN_ n a v) := rc0_f2 (rc0_nb _ _) (rc0_ob _ _ _)
theorem rc0_wSNW (n : Nat) (a v w : Int32) : rc0_ (wSNW_ n a v w) := rc0_f2 (rc0_wSN _ _ _) (rc0_uk _ _)
theorem rc0_wNW (v w : Int32) : rc0_ (wNW_ v w) := rc0_f2 (rc0_ob _ _ _) (rc0_uk _ _)
theorem rc0_wTh (n : Nat) (a v t p : Int32) : rc0_ (wTh_ n a v t p) := rc0_f2 (rc0_f2 (rc0_nb _ _) (rc0_f2 (rc0_lo _ _) (rc0_lo _ _))) (rc0_f2 (rc0_f2 (rc0_hi _ _) (rc0_hi _ _)) (rc0_uk _ _))
theorem mx1_nz (x : Int32) : ¬ (if (1 : Int32) < x then x else 1) = 0 := by
  split
  · rename_i h
    intro e
    rw [e] at h
    exact absurd h (by decide)
  · decide
theorem np_lt {B : BayT} {f : Nat → Int32} {m0 : Int32} {t : Nat} (h : (if sn_ B < 7 then (bs_ f m0 31).1 else none) = some t) : sn_ B < 7 ∧ t < 31 := by
  by_cases c : sn_ B < 7
  · rw [if_pos c] at h; exact ⟨c, bs_lt _ _ h⟩
  · rw [if_neg c] at h; cases h
def wTr_ (n : Nat) (a b q : Int32) : Int32 := f2_ (f2_ (nb_ a (nI n)) (nb_ b (nI n))) (if a = b then -1 else uk_ q 1)
theorem rc0_wTr (n : Nat) (a b q : Int32) : rc0_ (wTr_ n a b q) := rc0_f2 (rc0_f2 (rc0_nb _ _) (rc0_nb _ _)) (rc0_if (Or.inr (Or.inl rfl)) (rc0_uk _ _))
def trX_ (B : BayT) (a b : Nat) (q : Int32) : Int32 := if q = 1 then b1 (tp_ (fun j => tc_ (tt_ B a b j) a 12) (fun j => tc_ (tt_ B a b j) b 12) 0) else vs_ (fz_ (fun j => tc_ (tt_ B a b j) a 12) (fun j => tc_ (tt_ B a b j) b 12) 4 0)
