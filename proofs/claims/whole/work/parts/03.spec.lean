/-! what a bay is, and what of it both sides say -/
abbrev BayT : Type := (Nat → Int32) × (Nat → Int32) × (Nat → Int32) × (Nat → Int32) × (Nat → Int32) × Int32 × Nat × Int32 × Int32 × Int32 × Int32
def kd_ (B : BayT) : Nat → Int32 := B.1
def fg_ (B : BayT) : Nat → Int32 := B.2.1
def pl_ (B : BayT) : Nat → Int32 := B.2.2.1
def pw_ (B : BayT) : Nat → Int32 := B.2.2.2.1
def jy_ (B : BayT) : Nat → Int32 := B.2.2.2.2.1
def qt_ (B : BayT) : Int32 := B.2.2.2.2.2.1
def sn_ (B : BayT) : Nat := B.2.2.2.2.2.2.1
def il_ (B : BayT) : Int32 := B.2.2.2.2.2.2.2.1
def pa_ (B : BayT) : Int32 := B.2.2.2.2.2.2.2.2.1
def ho_ (B : BayT) : Int32 := B.2.2.2.2.2.2.2.2.2.1
def dy_ (B : BayT) : Int32 := B.2.2.2.2.2.2.2.2.2.2
abbrev mkB (k f p w j : Nat → Int32) (q : Int32) (n : Nat) (i a h d : Int32) : BayT := (k, f, p, w, j, q, n, i, a, h, d)
/-- the six cells of a Bay: the object at g i, its rows behind -/
abbrev bW (cI : ClassId) (g : Nat → Nat) (i : Nat) (B : BayT) : va_W := [(g i, .inr (0, [.ref (g (i + 1)), .ref (g (i + 2)), .ref (g (i + 3)), .ref (g (i + 4)), .ref (g (i + 5)), .int (qt_ B), .int (nI (sn_ B)), .int (il_ B), .int (pa_ B), .int (ho_ B), .int (dy_ B)])), (g (i + 1), .inl (cI, 7, .inl (kd_ B))), (g (i + 2), .inl (cI, 7, .inl (fg_ B))), (g (i + 3), .inl (cI, 7, .inl (pl_ B))), (g (i + 4), .inl (cI, 7, .inl (pw_ B))), (g (i + 5), .inl (cI, 7, .inl (jy_ B)))]
theorem sti {p : Program} {l : Launch} {e : Env} {R : Room} {s : State} {m : MethodId} {args : Array Value} {below : List Frame} {meth : Method} {c : Code} {H : Heap} {locs : List Loc} {cells slots : Nat} {Q : State → Prop} {pc : Nat} {ls : Array Slot} {rest : List Value} {x y : Int32} (h : x = y) (k : W p l e R s m args below meth c H locs cells slots Q (F0 m pc ls (.int y :: rest))) : W p l e R s m args below meth c H locs cells slots Q (F0 m pc ls (.int x :: rest)) := by subst h; exact k
/-- a place told, or -9 -/
def oI_ : Option Nat → Int32
  | none => -9
  | some k => nI k
/-- the first of m places from i on with this value -/
def at_ (f : Nat → Int32) (v : Int32) : Nat → Nat → Option Nat
  | 0, _ => none
  | m + 1, i => if f i = v then some i else at_ f v m (i + 1)
theorem at_s {f : Nat → Int32} {v : Int32} {n i : Nat} (h : i < n) : at_ f v (n - i) i = if f i = v then some i else at_ f v (n - (i + 1)) (i + 1) := by
  rw [show n - i = (n - (i + 1)) + 1 by omega]; rfl
theorem at_0 {f : Nat → Int32} {v : Int32} {n i : Nat} (h : n ≤ i) : at_ f v (n - i) i = none := by
  rw [show n - i = 0 by omega]; rfl
theorem at_lt {f : Nat → Int32} {v : Int32} : ∀ (m i t : Nat), at_ f v m i = some t → i ≤ t ∧ t < i + m ∧ f t = v
  | 0, i, t, h => by cases h
  | m + 1, i, t, h => by
    unfold at_ at h
    by_cases c : f i = v
    · rw [if_pos c] at h; cases h; exact ⟨Nat.le_refl _, by omega, c⟩
    · rw [if_neg c] at h
      obtain ⟨h1, h2, h3⟩ := at_lt m (i + 1) t h
      exact ⟨by omega, by omega, h3⟩
def sa_ (B : BayT) (p : Int32) : Option Nat := at_ (pl_ B) p (sn_ B) 0
def ow_ (B : BayT) : Option Nat := sa_ B (il_ B)
def su_ (f : Nat → Int32) : Nat → Int32
  | 0 => 0
  | k + 1 => su_ f k + f k
/-- the places k below n with f k = v, as bits -/
def bi_ (f : Nat → Int32) (v : Int32) : Nat → Int32
  | 0 => 0
  | k + 1 => if f k = v then bi_ f v k ||| ((1 : Int32) <<< (nI k &&& 31)) else bi_ f v k
def rem_ (a m : Int32) : Int32 := a - a / m * m
def dr_ (f h : Int32) : Int32 := if h - h / 2 * 2 = 0 then f + 3 else 0
def sg_ (h : Int32) : Prop := (9 ≤ h ∧ h ≤ 11) ∨ (18 ≤ h ∧ h ≤ 20)
def ld_ (k f h : Int32) : Int32 := if k = 0 then f else if k = 1 then dr_ f h else if k = 2 then 4 else if k = 3 then (if (9 ≤ h ∧ h ≤ 11) ∨ (18 ≤ h ∧ h ≤ 20) then 2 * dr_ f h else dr_ f h) else if k = 4 then (if h = f ∨ h = f + 12 then 30 else 0) else 1
def co_ (k f : Int32) : Int32 := if k = 4 then 5 else if (k = 1 ∨ k = 3) ∧ 7 ≤ f then 1 else 0
/-- bit k of a set -/
def qb_ (q : Int32) (k : Nat) : Int32 := (q >>> (nI k &&& 31)) &&& 1
def no_ (B : BayT) (k : Nat) (h : Int32) : Int32 := if qb_ (qt_ B) k = 1 ∨ pl_ B k = il_ B ∨ pw_ B k < co_ (kd_ B k) (fg_ B k) then 0 else ld_ (kd_ B k) (fg_ B k) h
/-- how far a SHORE is from THE ISLE -/
def di_ (B : BayT) (k : Nat) : Int32 := if 0 ≤ pl_ B k - il_ B then pl_ B k - il_ B else 0 - (pl_ B k - il_ B)
def ne_ (B : BayT) : Nat → Option Nat
  | 0 => none
  | k + 1 => match ne_ B k with
    | none => some k
    | some t => if di_ B k < di_ B t then some k else some t
def an_ (B : BayT) (h : Int32) : Int32 := su_ (fun k => no_ B k h) (sn_ B)
def lo_ (B : BayT) (h : Int32) : Nat → Option Nat
  | 0 => none
  | k + 1 => match lo_ B h k with
    | none => if 0 < no_ B k h then some k else none
    | some t => if no_ B t h < no_ B k h ∨ (no_ B k h = no_ B t h ∧ di_ B k < di_ B t) then some k else some t
def lt_ (B : BayT) (h : Int32) : Option Nat := lo_ B h (sn_ B)
/-- the hour of most noise among the first k + 1 -/
def lh_ (B : BayT) : Nat → Nat
  | 0 => 0
  | k + 1 => if an_ B (nI (lh_ B k)) < an_ B (nI (k + 1)) then k + 1 else lh_ B k
def tw_ (B : BayT) (k : Nat) : Int32 := il_ B + (if -pa_ B < (if pl_ B k - il_ B < pa_ B then pl_ B k - il_ B else pa_ B) then (if pl_ B k - il_ B < pa_ B then pl_ B k - il_ B else pa_ B) else -pa_ B)
def aw_ (B : BayT) (k : Nat) : Int32 := if 0 < (if il_ B + (if pl_ B k < il_ B then pa_ B else -pa_ B) < 30 then il_ B + (if pl_ B k < il_ B then pa_ B else -pa_ B) else 30) then (if il_ B + (if pl_ B k < il_ B then pa_ B else -pa_ B) < 30 then il_ B + (if pl_ B k < il_ B then pa_ B else -pa_ B) else 30) else 0
/-- POWDER behind an hour's noise -/
def sp_ (B : BayT) (n : Nat) : Nat → Int32 := fun j => if j < n ∧ 0 < no_ B j (ho_ B) then pw_ B j - co_ (kd_ B j) (fg_ B j) else pw_ B j
def jo_ (j : Int32) : Int32 := if j + 1 < 999 then j + 1 else 999
/-- where THE ISLE is behind an hour: z for thunder -/
def dr2_ (z : Prop) [Decidable z] (B : BayT) : Int32 := match lt_ B (ho_ B) with
  | none => il_ B
  | some t => if z then aw_ B t else tw_ B t
def jb_ (pl jy : Nat → Int32) (n : Nat) (i : Int32) : Nat → Int32 := match at_ pl i n 0 with
  | none => jy
  | some t => upd jy t (jo_ (jy t))
def hb_ (z : Prop) [Decidable z] (B : BayT) : BayT := mkB (kd_ B) (fg_ B) (pl_ B) (sp_ B (sn_ B)) (jb_ (pl_ B) (jy_ B) (sn_ B) (dr2_ z B)) (qt_ B) (sn_ B) (dr2_ z B) (pa_ B) (if 23 < ho_ B + 1 then 0 else ho_ B + 1) (if 23 < ho_ B + 1 then dy_ B + 1 else dy_ B)
/-- n hours go by -/
def hs_ (n : Nat) (B : BayT) : BayT := match n with
  | 0 => B
  | n + 1 => hb_ False (hs_ n B)
def ad_ (B : BayT) (k f p : Int32) : BayT := if sn_ B < 7 then mkB (upd (kd_ B) (sn_ B) k) (upd (fg_ B) (sn_ B) f) (upd (pl_ B) (sn_ B) p) (upd (pw_ B) (sn_ B) 9) (upd (jy_ B) (sn_ B) 0) (qt_ B) (sn_ B + 1) (il_ B) (pa_ B) (ho_ B) (dy_ B) else B
def uw_ (B : BayT) (k : Nat) (v : Int32) : BayT := mkB (kd_ B) (fg_ B) (pl_ B) (upd (pw_ B) k v) (jy_ B) (qt_ B) (sn_ B) (il_ B) (pa_ B) (ho_ B) (dy_ B)
def uq_ (B : BayT) (q : Int32) : BayT := mkB (kd_ B) (fg_ B) (pl_ B) (pw_ B) (jy_ B) q (sn_ B) (il_ B) (pa_ B) (ho_ B) (dy_ B)
def ui_ (B : BayT) (v : Int32) : BayT := mkB (kd_ B) (fg_ B) (pl_ B) (pw_ B) (jy_ B) (qt_ B) (sn_ B) v (pa_ B) (ho_ B) (dy_ B)
def up_ (B : BayT) (v : Int32) : BayT := mkB (kd_ B) (fg_ B) (pl_ B) (pw_ B) (jy_ B) (qt_ B) (sn_ B) (il_ B) v (ho_ B) (dy_ B)
/-- bit k of a set put, or taken out -/
def sq_ (z : Prop) [Decidable z] (q : Int32) (k : Nat) : Int32 := if z then q ||| ((1 : Int32) <<< (nI k &&& 31)) else q &&& (((1 : Int32) <<< (nI k &&& 31)) ^^^ (-1))
/-- refusals -/
def ob_ (v a b : Int32) : Int32 := if v < a then -4 else if b < v then -6 else 0
def uk_ (v b : Int32) : Int32 := if v < 0 ∨ b < v then -2 else 0
def nb_ (v b : Int32) : Int32 := if v < 0 ∨ b ≤ v then -1 else 0
def f2_ (a b : Int32) : Int32 := if a = 0 then b else a
def rs_ (B : BayT) (k f p : Int32) : Int32 := if k < 0 ∨ 5 < k then -2 else if f < 0 then -4 else if 9 < f ∨ 7 ≤ sn_ B then -6 else if p < 0 ∨ 30 < p then -1 else if sa_ B p = none then 0 else -3
def rh_ (B : BayT) (n : Int32) : Int32 := if n < 1 then -4 else if 99 < n then -6 else if 999 < dy_ B + (ho_ B + n) / 24 then -6 else 0
theorem oI_n {t : Option Nat} {n : Nat} (h : ∀ k, t = some k → k < n) (hn : n < 2147483648) : oI_ t = -9 ↔ t = none := by
  cases t with
  | none => exact ⟨fun _ => rfl, fun _ => rfl⟩
  | some k =>
    refine ⟨fun e => ?_, fun e => by cases e⟩
    have hk := h k rfl
    have e2 : (nI k).toInt = (-9 : Int32).toInt := congrArg Int32.toInt e
    rw [nI_toInt (by omega)] at e2
    have e3 : (-9 : Int32).toInt = -9 := by decide
    omega
theorem sa_lt {B : BayT} {p : Int32} {t : Nat} (h : sa_ B p = some t) : t < sn_ B ∧ pl_ B t = p := by
  obtain ⟨-, h2, h3⟩ := at_lt _ _ _ h
  exact ⟨by omega, h3⟩
theorem lo_lt {B : BayT} {h : Int32} : ∀ (n t : Nat), lo_ B h n = some t → t < n ∧ 0 < no_ B t h
  | 0, t, e => by cases e
  | k + 1, t, e => by
    unfold lo_ at e
    cases h1 : lo_ B h k with
    | none =>
      rw [h1] at e
      by_cases c : 0 < no_ B k h
      · simp only [c, if_true] at e; cases e; exact ⟨by omega, c⟩
      · simp only [c, if_false] at e; cases e
    | some u =>
      rw [h1] at e
      obtain ⟨a1, a2⟩ := lo_lt k u h1
      by_cases c : no_ B u h < no_ B k h ∨ (no_ B k h = no_ B u h ∧ di_ B k < di_ B u)
      · simp only [c, if_true] at e
        cases e
        refine ⟨by omega, ?_⟩
        rcases c with c | ⟨c, -⟩
        · exact Int32.lt_trans a2 c
        · rw [c]; exact a2
      · simp only [c, if_false] at e
        cases e
        exact ⟨by omega, a2⟩
theorem ne_lt {B : BayT} : ∀ (n t : Nat), ne_ B n = some t → t < n
  | 0, t, e => by cases e
  | k + 1, t, e => by
    unfold ne_ at e
    cases h1 : ne_ B k with
    | none => rw [h1] at e; cases e; omega
    | some u =>
      rw [h1] at e
      have a1 := ne_lt k u h1
      by_cases c : di_ B k < di_ B u
      · simp only [c, if_true] at e; cases e; omega
      · simp only [c, if_false] at e; cases e; omega
theorem sa_9 {B : BayT} {p : Int32} (hn : sn_ B ≤ 7) : oI_ (sa_ B p) = -9 ↔ sa_ B p = none := oI_n (n := 7) (fun k hk => by have := (sa_lt hk).1; omega) (by decide)
/-- the next place from j on with a SHORE, among m -/
def nx_ (B : BayT) : Nat → Nat → Option Nat
  | 0, _ => none
  | m + 1, j => if sa_ B (nI j) = none then nx_ B m (j + 1) else some j
theorem nx_s {B : BayT} {n i : Nat} (h : i < n) : nx_ B (n - i) i = if sa_ B (nI i) = none then nx_ B (n - (i + 1)) (i + 1) else some i := by
  rw [show n - i = (n - (i + 1)) + 1 by omega]; rfl
theorem nx_0 {B : BayT} {n i : Nat} (h : n ≤ i) : nx_ B (n - i) i = none := by
  rw [show n - i = 0 by omega]; rfl
def gd_ (st : Nat) : Option Nat → Int32
  | none => 0
  | some j => nI j - nI st
def gf_ (B : BayT) (st : Nat) : Int32 := if sa_ B (nI st) = none then 0 else gd_ st (nx_ B (31 - (st + 1)) (st + 1))
def wg_ (B : BayT) : Nat → Option Nat × Int32
  | 0 => (none, 0)
  | k + 1 => if (wg_ B k).2 < gf_ B k then (some k, gf_ B k) else wg_ B k
theorem wg_lt {B : BayT} : ∀ (n t : Nat), (wg_ B n).1 = some t → t < n
  | 0, t, e => by cases e
  | k + 1, t, e => by
    unfold wg_ at e
    by_cases c : (wg_ B k).2 < gf_ B k
    · rw [if_pos c] at e; cases e; omega
    · rw [if_neg c] at e; have := wg_lt k t e; omega
def mo_ (B : BayT) (h : Int32) : Option Nat → Int32
  | none => 0
  | some t => no_ B t h
def us_ (B : BayT) (n : Nat) : BayT := mkB (kd_ B) (fg_ B) (pl_ B) (sp_ B n) (jy_ B) (qt_ B) (sn_ B) (il_ B) (pa_ B) (ho_ B) (dy_ B)
def uv_ (B : BayT) (w v : Int32) : BayT := if w = 0 then ui_ B v else up_ B v
theorem us_0 (B : BayT) : us_ B 0 = B := by
  have h : sp_ B 0 = pw_ B := by funext j; simp [sp_]
  unfold us_; rw [h]; rfl
theorem no_us (B : BayT) (n k : Nat) (h : Int32) (hk : n ≤ k) : no_ (us_ B n) k h = no_ B k h := by
  have e : pw_ (us_ B n) k = pw_ B k := by
    show sp_ B n k = _
    unfold sp_; rw [if_neg (by omega)]
  unfold no_
  rw [e]; rfl
theorem us_y (B : BayT) (n : Nat) (c : 0 < no_ B n (ho_ B)) : mkB (kd_ B) (fg_ B) (pl_ B) (upd (sp_ B n) n (sp_ B n n - co_ (kd_ B n) (fg_ B n))) (jy_ B) (qt_ B) (sn_ B) (il_ B) (pa_ B) (ho_ B) (dy_ B) = us_ B (n + 1) := by
  have h : upd (sp_ B n) n (sp_ B n n - co_ (kd_ B n) (fg_ B n)) = sp_ B (n + 1) := by
    funext j
    unfold upd
    by_cases hj : j = n
    · subst hj
      rw [if_pos rfl]
      unfold sp_
      rw [if_neg (by omega), if_pos ⟨by omega, c⟩]
    · rw [if_neg hj]
      unfold sp_
      by_cases h2 : j < n ∧ 0 < no_ B j (ho_ B)
      · rw [if_pos h2, if_pos ⟨by omega, h2.2⟩]
      · rw [if_neg h2, if_neg (fun q => h2 ⟨by omega, q.2⟩)]
  rw [h]; rfl
theorem us_n (B : BayT) (n : Nat) (c : ¬ 0 < no_ B n (ho_ B)) : us_ B n = us_ B (n + 1) := by
  have h : sp_ B n = sp_ B (n + 1) := by
    funext j
    unfold sp_
    by_cases h2 : j < n ∧ 0 < no_ B j (ho_ B)
    · rw [if_pos h2, if_pos ⟨by omega, h2.2⟩]
    · rw [if_neg h2, if_neg]
      rintro ⟨q1, q2⟩
      by_cases hj : j = n
      · subst hj; exact c q2
      · exact h2 ⟨by omega, q2⟩
  unfold us_; rw [h]
theorem hs_hb (n : Nat) (B : BayT) : hb_ False (hs_ n B) = hs_ (n + 1) B := rfl
theorem sn_hs : ∀ (n : Nat) (B : BayT), sn_ (hs_ n B) = sn_ B
  | 0, _ => rfl
  | n + 1, B => by show sn_ (hs_ n B) = _; exact sn_hs n B
theorem nI_m9 {n : Nat} (h : n < 2147483648) : ¬ nI n = -9 := fun e => by
  have e2 : (nI n).toInt = (-9 : Int32).toInt := congrArg Int32.toInt e
  rw [nI_toInt h] at e2
  have e3 : (-9 : Int32).toInt = -9 := by decide
  omega
theorem hb_fin {z : Prop} [Decidable z] {B : BayT} {o o2 : Option Nat} {i2 h2 d2 : Int32} {j2 : Nat → Int32} (hL : lo_ B (ho_ B) (sn_ B) = o) (hi : (o = none ∧ i2 = il_ B) ∨ ∃ t, o = some t ∧ ((z ∧ i2 = aw_ B t) ∨ (¬ z ∧ i2 = tw_ B t))) (hO : at_ (pl_ B) i2 (sn_ B) 0 = o2) (hj : (o2 = none ∧ j2 = jy_ B) ∨ ∃ u, o2 = some u ∧ j2 = upd (jy_ B) u (jo_ (jy_ B u))) (hh : (23 < ho_ B + 1 ∧ h2 = 0 ∧ d2 = dy_ B + 1) ∨ (¬ 23 < ho_ B + 1 ∧ h2 = ho_ B + 1 ∧ d2 = dy_ B)) : mkB (kd_ B) (fg_ B) (pl_ B) (sp_ B (sn_ B)) j2 (qt_ B) (sn_ B) i2 (pa_ B) h2 d2 = hb_ z B := by
  have e1 : dr2_ z B = i2 := by
    unfold dr2_ lt_
    rcases hi with ⟨h1, h3⟩ | ⟨t, h1, h3⟩
    · rw [hL, h1, h3]
    · rw [hL, h1]
      rcases h3 with ⟨c, h3⟩ | ⟨c, h3⟩
      · show (if z then aw_ B t else tw_ B t) = i2
        rw [if_pos c, h3]
      · show (if z then aw_ B t else tw_ B t) = i2
        rw [if_neg c, h3]
  have e2 : jb_ (pl_ B) (jy_ B) (sn_ B) i2 = j2 := by
    unfold jb_
    rcases hj with ⟨h1, h3⟩ | ⟨t, h1, h3⟩
    · rw [hO, h1, h3]
    · rw [hO, h1, h3]
  unfold hb_
  rcases hh with ⟨c, h3, h4⟩ | ⟨c, h3, h4⟩
  · rw [e1, e2, if_pos c, if_pos c, h3, h4]
  · rw [e1, e2, if_neg c, if_neg c, h3, h4]
theorem rh_e {B : BayT} {n : Int32} (c : ob_ n 1 99 = 0) (d : ¬ 999 < dy_ B + (ho_ B + n) / 24) : 0 = rh_ B n := by
  unfold ob_ at c; unfold rh_
  by_cases h1 : n < 1
  · rw [if_pos h1] at c; exact absurd c (by decide)
  · rw [if_neg h1] at c ⊢
    by_cases h2 : 99 < n
    · rw [if_pos h2] at c; exact absurd c (by decide)
    · rw [if_neg h2, if_neg d]
theorem rh_e2 {B : BayT} {n : Int32} (c : ob_ n 1 99 = 0) (d : 999 < dy_ B + (ho_ B + n) / 24) : -6 = rh_ B n := by
  unfold ob_ at c; unfold rh_
  by_cases h1 : n < 1
  · rw [if_pos h1] at c; exact absurd c (by decide)
  · rw [if_neg h1] at c ⊢
    by_cases h2 : 99 < n
    · rw [if_pos h2] at c; exact absurd c (by decide)
    · rw [if_neg h2, if_pos d]
theorem rh_n {B : BayT} {n : Int32} (c : ¬ ob_ n 1 99 = 0) : ob_ n 1 99 = rh_ B n := by
  unfold ob_ at c ⊢; unfold rh_
  by_cases h1 : n < 1
  · rw [if_pos h1, if_pos h1]
  · rw [if_neg h1] at c ⊢
    rw [if_neg h1]
    by_cases h2 : 99 < n
    · rw [if_pos h2, if_pos h2]
    · rw [if_neg h2] at c; exact absurd rfl c
