/-! what is asked in mind -/
abbrev miO (g : Nat → Nat) : va_W := [(g 1, .inr (2, [.ref (g 4), .ref (g 10), .ref (g 2), .ref (g 3)]))]
def tc_ (T : BayT) (k : Nat) : Nat → Int32
  | 0 => 0
  | n + 1 => if pl_ (hb_ False (hs_ n T)) k = il_ (hb_ False (hs_ n T)) then tc_ T k n + 1 else tc_ T k n
def fh_ (T : BayT) (k : Nat) : Nat → Nat → Option Nat
  | 0, _ => none
  | m + 1, i => if pl_ (hs_ i T) k = il_ (hs_ i T) then some i else fh_ T k m (i + 1)
theorem fh_s {T : BayT} {k n i : Nat} (h : i < n) : fh_ T k (n - i) i = if pl_ (hs_ i T) k = il_ (hs_ i T) then some i else fh_ T k (n - (i + 1)) (i + 1) := by rw [show n - i = (n - (i + 1)) + 1 by omega]; rfl
theorem fh_0 {T : BayT} {k n i : Nat} (h : n ≤ i) : fh_ T k (n - i) i = none := by rw [show n - i = 0 by omega]; rfl
theorem fh_lt {T : BayT} {k : Nat} : ∀ (m i t : Nat), fh_ T k m i = some t → t < i + m
  | 0, i, t, h => by cases h
  | m + 1, i, t, h => by
    unfold fh_ at h
    by_cases c : pl_ (hs_ i T) k = il_ (hs_ i T)
    · rw [if_pos c] at h; cases h; omega
    · rw [if_neg c] at h; have := fh_lt m (i + 1) t h; omega
def fo_ (T : BayT) : Nat → Nat → Option Nat
  | 0, _ => none
  | m + 1, i => if ow_ (hs_ i T) = none then fo_ T m (i + 1) else ow_ (hs_ i T)
theorem fo_s {T : BayT} {n i : Nat} (h : i < n) : fo_ T (n - i) i = if ow_ (hs_ i T) = none then fo_ T (n - (i + 1)) (i + 1) else ow_ (hs_ i T) := by rw [show n - i = (n - (i + 1)) + 1 by omega]; rfl
theorem fo_0 {T : BayT} {n i : Nat} (h : n ≤ i) : fo_ T (n - i) i = none := by rw [show n - i = 0 by omega]; rfl
def st_ (T : BayT) : Nat → Nat → Option Nat
  | 0, _ => none
  | m + 1, i => if il_ (hb_ False (hs_ i T)) = il_ (hs_ i T) then some i else st_ T m (i + 1)
theorem st_s {T : BayT} {n i : Nat} (h : i < n) : st_ T (n - i) i = if il_ (hb_ False (hs_ i T)) = il_ (hs_ i T) then some i else st_ T (n - (i + 1)) (i + 1) := by rw [show n - i = (n - (i + 1)) + 1 by omega]; rfl
theorem st_0 {T : BayT} {n i : Nat} (h : n ≤ i) : st_ T (n - i) i = none := by rw [show n - i = 0 by omega]; rfl
/-- the best of the first places: strictly more than all ahead -/
def bs_ (f : Nat → Int32) (m0 : Int32) : Nat → Option Nat × Int32
  | 0 => (none, m0)
  | k + 1 => if (bs_ f m0 k).2 < f k then (some k, f k) else bs_ f m0 k
def lp_ (T : BayT) : Nat → Int32
  | 0 => il_ T
  | n + 1 => if il_ (hb_ False (hs_ n T)) < lp_ T n then il_ (hb_ False (hs_ n T)) else lp_ T n
def gp_ (T : BayT) : Nat → Int32
  | 0 => il_ T
  | n + 1 => if gp_ T n < il_ (hb_ False (hs_ n T)) then il_ (hb_ False (hs_ n T)) else gp_ T n
def rg_ (A : BayT) : Nat → Nat → Option Nat
  | 0, _ => none
  | m + 1, i => if il_ (hb_ False (hs_ i A)) = il_ A ∧ ho_ (hb_ False (hs_ i A)) = ho_ A then some (i + 1) else rg_ A m (i + 1)
theorem rg_s {T : BayT} {n i : Nat} (h : i < n) : rg_ T (n - i) i = if il_ (hb_ False (hs_ i T)) = il_ T ∧ ho_ (hb_ False (hs_ i T)) = ho_ T then some (i + 1) else rg_ T (n - (i + 1)) (i + 1) := by rw [show n - i = (n - (i + 1)) + 1 by omega]; rfl
theorem rg_0 {T : BayT} {n i : Nat} (h : n ≤ i) : rg_ T (n - i) i = none := by rw [show n - i = 0 by omega]; rfl
def bit_ (j : Nat) : Int32 := (1 : Int32) <<< (nI j &&& 31)
def hu_ (B : BayT) (k n : Nat) : Nat → Int32 := fun j => if j = k then 0 else tc_ (uq_ B (qt_ B ||| ((1 : Int32) <<< (nI j &&& 31)))) k n
/-- how many bits: of 0 .. 127 -/
def pn_ (b : Nat) : Nat := b % 2 + b / 2 % 2 + b / 4 % 2 + b / 8 % 2 + b / 16 % 2 + b / 32 % 2 + b / 64 % 2
def fw_ (B : BayT) (k n : Nat) : Nat → Int32 × Int32
  | 0 => (-9, 7)
  | b + 1 => if (nI b >>> (nI k &&& 31)) &&& 1 = 0 ∧ nI (pn_ b) < (fw_ B k n b).2 ∧ 0 < tc_ (uq_ B (qt_ B ||| nI b)) k n then (nI b, nI (pn_ b)) else fw_ B k n b
def p2_ (n : Nat) : Nat := 2 ^ n
theorem p2_7 {n : Nat} (h : n ≤ 7) : p2_ n ≤ 128 := by
  have : n = 0 ∨ n = 1 ∨ n = 2 ∨ n = 3 ∨ n = 4 ∨ n = 5 ∨ n = 6 ∨ n = 7 := by omega
  rcases this with h | h | h | h | h | h | h | h <;> subst h <;> decide
theorem sh_n {n : Nat} (h : n ≤ 7) : (1 : Int32) <<< (nI n &&& 31) = nI (p2_ n) := by
  have : n = 0 ∨ n = 1 ∨ n = 2 ∨ n = 3 ∨ n = 4 ∨ n = 5 ∨ n = 6 ∨ n = 7 := by omega
  rcases this with h | h | h | h | h | h | h | h <;> subst h <;> decide
def uP_ (B : BayT) (f : Nat → Int32) : BayT := mkB (kd_ B) (fg_ B) f (pw_ B) (jy_ B) (qt_ B) (sn_ B) (il_ B) (pa_ B) (ho_ B) (dy_ B)
def sw_ (B : BayT) (a b : Nat) : BayT := uP_ B (upd (upd (pl_ B) a (pl_ B b)) b (pl_ B a))
/-- the best pair: b = a + 1 .. a + m -/
def s1_ (B : BayT) (k n a : Nat) : Nat → Int32 × Int32 → Int32 × Int32
  | 0, s => s
  | m + 1, s => if (s1_ B k n a m s).2 < tc_ (sw_ B a (a + 1 + m)) k n then (10 * nI a + nI (a + 1 + m), tc_ (sw_ B a (a + 1 + m)) k n) else s1_ B k n a m s
def s2_ (B : BayT) (k n : Nat) : Nat → Int32 × Int32
  | 0 => (-9, tc_ B k n)
  | a + 1 => s1_ B k n a (sn_ B - (a + 1)) (s2_ B k n a)
abbrev lead_ (B : BayT) (k n v : Nat) : Prop := pl_ (hs_ n (ui_ B (nI v))) k = il_ (hs_ n (ui_ B (nI v)))
def cs_ (B : BayT) (k n : Nat) : Nat → Int32
  | 0 => 0
  | v + 1 => if lead_ B k n v then cs_ B k n v + 1 else cs_ B k n v
def ls_ (B : BayT) (k n : Nat) : Nat → Nat → Option Nat
  | 0, _ => none
  | m + 1, i => if lead_ B k n i then some i else ls_ B k n m (i + 1)
theorem ls_s {B : BayT} {k n N i : Nat} (h : i < N) : ls_ B k n (N - i) i = if lead_ B k n i then some i else ls_ B k n (N - (i + 1)) (i + 1) := by rw [show N - i = (N - (i + 1)) + 1 by omega]; rfl
theorem ls_0 {B : BayT} {k n N i : Nat} (h : N ≤ i) : ls_ B k n (N - i) i = none := by rw [show N - i = 0 by omega]; rfl
def bp_ (f : Nat → Int32) (s : Nat) : Nat → Nat → Int32 → Int32 → Int32
  | 0, _, b, _ => b
  | m + 1, w, b, mo => if 99 < w then b else if mo < f w then bp_ f s m (w + s) (nI w) (f w) else bp_ f s m (w + s) b mo
def ct_ (B : BayT) (k : Nat) : Nat := if co_ (kd_ B k) (fg_ B k) = 5 then 5 else if co_ (kd_ B k) (fg_ B k) = 1 then 1 else 100
theorem co_c (k f : Int32) : co_ k f = 0 ∨ co_ k f = 1 ∨ co_ k f = 5 := by
  unfold co_
  by_cases h : k = 4
  · rw [if_pos h]; exact Or.inr (Or.inr rfl)
  · rw [if_neg h]
    by_cases h2 : (k = 1 ∨ k = 3) ∧ 7 ≤ f
    · rw [if_pos h2]; exact Or.inr (Or.inl rfl)
    · rw [if_neg h2]; exact Or.inl rfl
theorem ct_y {B : BayT} {k : Nat} (h : ¬ co_ (kd_ B k) (fg_ B k) ≤ 0) : co_ (kd_ B k) (fg_ B k) = nI (ct_ B k) := by
  rcases co_c (kd_ B k) (fg_ B k) with c | c | c
  · rw [c] at h; exact absurd (by decide) h
  · unfold ct_; rw [c]; rfl
  · unfold ct_; rw [c]; rfl
theorem ct_n {B : BayT} {k : Nat} (h : co_ (kd_ B k) (fg_ B k) ≤ 0) : (100 : Int32) = nI (ct_ B k) := by
  rcases co_c (kd_ B k) (fg_ B k) with c | c | c
  · unfold ct_; rw [c]; rfl
  · rw [c] at h; exact absurd h (by decide)
  · rw [c] at h; exact absurd h (by decide)
theorem ct_b (B : BayT) (k : Nat) : 1 ≤ ct_ B k ∧ ct_ B k ≤ 100 := by
  unfold ct_; split
  · omega
  · split <;> omega
def np_ (B : BayT) (w : Int32) (n : Nat) : Nat → Int32 := fun j => if sa_ B (nI j) = none then tc_ (ad_ B w 5 (nI j)) (sn_ B) n else -1
def ug_ (B : BayT) (k : Nat) (w v : Int32) : BayT := if w = 0 then mkB (upd (kd_ B) k v) (fg_ B) (pl_ B) (pw_ B) (jy_ B) (qt_ B) (sn_ B) (il_ B) (pa_ B) (ho_ B) (dy_ B) else if w = 1 then mkB (kd_ B) (upd (fg_ B) k v) (pl_ B) (pw_ B) (jy_ B) (qt_ B) (sn_ B) (il_ B) (pa_ B) (ho_ B) (dy_ B) else up_ B v
/-- a row of places is so -/
def ro_ (f : Nat → Int32) (T : BayT) : Nat → Nat → Bool
  | 0, _ => true
  | m + 1, i => if f i = il_ (hs_ i T) then ro_ f T m (i + 1) else false
theorem ro_s {f : Nat → Int32} {T : BayT} {n i : Nat} (h : i < n) : ro_ f T (n - i) i = if f i = il_ (hs_ i T) then ro_ f T (n - (i + 1)) (i + 1) else false := by rw [show n - i = (n - (i + 1)) + 1 by omega]; rfl
theorem ro_0 {f : Nat → Int32} {T : BayT} {n i : Nat} (h : n ≤ i) : ro_ f T (n - i) i = true := by rw [show n - i = 0 by omega]; rfl
def gb_ (B : BayT) (k : Nat) (w : Int32) (f : Nat → Int32) (n st : Nat) : Nat → Int32
  | 0 => 0
  | m + 1 => if ro_ f (ug_ B k w (nI (st + m))) n 0 = true then gb_ B k w f n st m ||| ((1 : Int32) <<< (nI (st + m) &&& 31)) else gb_ B k w f n st m
def l9_ : Option Nat → Int32
  | none => 9
  | some t => nI t
def fx_ (f : Nat → Int32) (T : BayT) : Nat → Nat → Option Nat
  | 0, _ => none
  | m + 1, i => if f i = l9_ (lt_ (hs_ i T) (ho_ (hs_ i T))) then fx_ f T m (i + 1) else some i
theorem fx_s {f : Nat → Int32} {T : BayT} {n i : Nat} (h : i < n) : fx_ f T (n - i) i = if f i = l9_ (lt_ (hs_ i T) (ho_ (hs_ i T))) then fx_ f T (n - (i + 1)) (i + 1) else some i := by rw [show n - i = (n - (i + 1)) + 1 by omega]; rfl
theorem fx_0 {f : Nat → Int32} {T : BayT} {n i : Nat} (h : n ≤ i) : fx_ f T (n - i) i = none := by rw [show n - i = 0 by omega]; rfl
def tt_ (B : BayT) (a b j : Nat) : BayT := uq_ B (sq_ (j % 2 = 0) (sq_ (j / 2 = 0) (qt_ B) a) b)
theorem bs_o1 {f : Nat → Int32} {m0 v : Int32} {k : Nat} (hv : v = f k) (c : ¬ v ≤ (bs_ f m0 k).2) : nI k = oI_ (bs_ f m0 (k + 1)).1 := by
  subst hv; unfold bs_; rw [if_pos (Int32.not_le.mp c)]; rfl
theorem bs_m1 {f : Nat → Int32} {m0 v : Int32} {k : Nat} (hv : v = f k) (c : ¬ v ≤ (bs_ f m0 k).2) : v = (bs_ f m0 (k + 1)).2 := by
  subst hv; rw [bs_, if_pos (Int32.not_le.mp c)]
theorem bs_o2 {f : Nat → Int32} {m0 v : Int32} {k : Nat} (hv : v = f k) (c : v ≤ (bs_ f m0 k).2) : oI_ (bs_ f m0 k).1 = oI_ (bs_ f m0 (k + 1)).1 := by
  subst hv; rw [bs_, if_neg (Int32.not_lt.mpr c)]
theorem bs_m2 {f : Nat → Int32} {m0 v : Int32} {k : Nat} (hv : v = f k) (c : v ≤ (bs_ f m0 k).2) : (bs_ f m0 k).2 = (bs_ f m0 (k + 1)).2 := by
  subst hv; rw [bs_, if_neg (Int32.not_lt.mpr c)]
theorem s1_a1 {B : BayT} {k n a m : Nat} {s : Int32 × Int32} (c : ¬ tc_ (sw_ B a (a + 1 + m)) k n ≤ (s1_ B k n a m s).2) : 10 * nI a + nI (a + 1 + m) = (s1_ B k n a (m + 1) s).1 := by
  rw [s1_, if_pos (Int32.not_le.mp c)]
theorem s1_a2 {B : BayT} {k n a m : Nat} {s : Int32 × Int32} (c : ¬ tc_ (sw_ B a (a + 1 + m)) k n ≤ (s1_ B k n a m s).2) : tc_ (sw_ B a (a + 1 + m)) k n = (s1_ B k n a (m + 1) s).2 := by
  rw [s1_, if_pos (Int32.not_le.mp c)]
theorem s1_b1 {B : BayT} {k n a m : Nat} {s : Int32 × Int32} (c : tc_ (sw_ B a (a + 1 + m)) k n ≤ (s1_ B k n a m s).2) : (s1_ B k n a m s).1 = (s1_ B k n a (m + 1) s).1 := by
  rw [s1_, if_neg (Int32.not_lt.mpr c)]
theorem s1_b2 {B : BayT} {k n a m : Nat} {s : Int32 × Int32} (c : tc_ (sw_ B a (a + 1 + m)) k n ≤ (s1_ B k n a m s).2) : (s1_ B k n a m s).2 = (s1_ B k n a (m + 1) s).2 := by
  rw [s1_, if_neg (Int32.not_lt.mpr c)]
def jb1_ (x : Int32) : Int32 := x - (((x.toUInt32 >>> ((1 : Int32).toUInt32 &&& Int32.toUInt32 31)).toInt32) &&& 1431655765)
def jb2_ (x : Int32) : Int32 := (x &&& 858993459) + (((x.toUInt32 >>> ((2 : Int32).toUInt32 &&& Int32.toUInt32 31)).toInt32) &&& 858993459)
def jb3_ (x : Int32) : Int32 := (x + (x.toUInt32 >>> ((4 : Int32).toUInt32 &&& Int32.toUInt32 31)).toInt32) &&& 252645135
def jb4_ (x : Int32) : Int32 := x + (x.toUInt32 >>> ((8 : Int32).toUInt32 &&& Int32.toUInt32 31)).toInt32
def jb5_ (x : Int32) : Int32 := x + (x.toUInt32 >>> ((16 : Int32).toUInt32 &&& Int32.toUInt32 31)).toInt32
theorem pn_d : ∀ b : Fin 128, (jb5_ (jb4_ (jb3_ (jb2_ (jb1_ (nI b.val)))))) &&& 63 = nI (pn_ b.val) := by decide +kernel
def g0_ (w : Int32) : Nat := if w = 2 then 1 else 0
theorem gb_y {B T : BayT} {k n st m : Nat} {w : Int32} {f : Nat → Int32} (hT : T = ug_ B k w (nI (st + m))) (c : ro_ f T n 0 = true) : gb_ B k w f n st m ||| ((1 : Int32) <<< (nI (st + m) &&& 31)) = gb_ B k w f n st (m + 1) := by
  subst hT; rw [gb_, if_pos c]
theorem gb_n {B T : BayT} {k n st m : Nat} {w : Int32} {f : Nat → Int32} (hT : T = ug_ B k w (nI (st + m))) (c : ¬ ro_ f T n 0 = true) : gb_ B k w f n st m = gb_ B k w f n st (m + 1) := by
  subst hT; rw [gb_, if_neg c]
theorem sq_c {P Q : Prop} [Decidable P] [Decidable Q] (h : P ↔ Q) (q : Int32) (k : Nat) : sq_ P q k = sq_ Q q k := by
  unfold sq_
  by_cases c : P
  · rw [if_pos c, if_pos (h.mp c)]
  · rw [if_neg c, if_neg (fun q => c (h.mpr q))]
theorem hb_c {P Q : Prop} [Decidable P] [Decidable Q] (h : P ↔ Q) (B : BayT) : hb_ P B = hb_ Q B := by
  have e : dr2_ P B = dr2_ Q B := by
    unfold dr2_
    cases lt_ B (ho_ B) with
    | none => rfl
    | some t =>
      show (if P then aw_ B t else tw_ B t) = if Q then aw_ B t else tw_ B t
      by_cases c : P
      · rw [if_pos c, if_pos (h.mp c)]
      · rw [if_neg c, if_neg (fun q => c (h.mpr q))]
  unfold hb_
  rw [e]
theorem jd2 {j : Nat} (hj : j < 4) : (nI j / 2 = 0 ↔ j / 2 = 0) ∧ (nI j - nI j / 2 * 2 = 0 ↔ j % 2 = 0) := by
  have : j = 0 ∨ j = 1 ∨ j = 2 ∨ j = 3 := by omega
  rcases this with e | e | e | e <;> subst e <;> decide
theorem jx_ {j : Nat} (hj : j < 4) : (nI j ^^^ 2 = nI (j ^^^ 2) ∧ j ^^^ 2 < 4) ∧ (nI j ^^^ 1 = nI (j ^^^ 1) ∧ j ^^^ 1 < 4) := by
  have : j = 0 ∨ j = 1 ∨ j = 2 ∨ j = 3 := by omega
  rcases this with e | e | e | e <;> subst e <;> decide
theorem tt_e {P Q : Prop} [Decidable P] [Decidable Q] {B : BayT} {a b j : Nat} (h1 : P ↔ j / 2 = 0) (h2 : Q ↔ j % 2 = 0) : uq_ (uq_ B (sq_ P (qt_ B) a)) (sq_ Q (sq_ P (qt_ B) a) b) = tt_ B a b j := by
  unfold tt_
  rw [sq_c h1, sq_c h2]
  rfl
/-- the rows of a treaty so far -/
def ta_ (B : BayT) (a b who : Nat) (f : Nat → Int32) (i : Nat) : Nat → Int32 := fun j => if j < i then tc_ (tt_ B a b j) who 12 else f j
theorem ta_s (B : BayT) (a b who : Nat) (f : Nat → Int32) (i : Nat) : upd (ta_ B a b who f i) i (tc_ (tt_ B a b i) who 12) = ta_ B a b who f (i + 1) := by
  funext j
  unfold upd ta_
  by_cases h : j = i
  · subst h; rw [if_pos rfl, if_pos (by omega)]
  · rw [if_neg h]
    by_cases h2 : j < i
    · rw [if_pos h2, if_pos (by omega)]
    · rw [if_neg h2, if_neg (by omega)]
abbrev tp_ (F1 F2 : Nat → Int32) (j : Nat) : Prop := F1 (j ^^^ 2) ≤ F1 j ∧ F2 (j ^^^ 1) ≤ F2 j
def fz_ (F1 F2 : Nat → Int32) : Nat → Nat → Option Nat
  | 0, _ => none
  | m + 1, i => if tp_ F1 F2 i then some i else fz_ F1 F2 m (i + 1)
theorem fz_s {F1 F2 : Nat → Int32} {n i : Nat} (h : i < n) : fz_ F1 F2 (n - i) i = if tp_ F1 F2 i then some i else fz_ F1 F2 (n - (i + 1)) (i + 1) := by rw [show n - i = (n - (i + 1)) + 1 by omega]; rfl
theorem fz_0 {F1 F2 : Nat → Int32} {n i : Nat} (h : n ≤ i) : fz_ F1 F2 (n - i) i = none := by rw [show n - i = 0 by omega]; rfl
def vs_ : Option Nat → Int32
  | none => -9
  | some i => 10 * (nI i / 2) + (nI i - nI i / 2 * 2)
/-- thunder by the bits of i -/
def th_ (B : BayT) (i : Nat) : Nat → BayT
  | 0 => B
  | j + 1 => hb_ (qb_ (nI i) j = 1) (th_ B i j)
theorem sn_th (B : BayT) (i : Nat) : ∀ j, sn_ (th_ B i j) = sn_ B
  | 0 => rfl
  | j + 1 => sn_th B i j
def al_ (t : Int32) (i : Nat) : Nat → Int64
  | 0 => 1
  | j + 1 => al_ t i j * (if qb_ (nI i) j = 1 then 1 else (t - 1).toInt64)
def wy_ (B : BayT) (k n : Nat) (t : Int32) : Nat → Int64
  | 0 => 0
  | i + 1 => wy_ B k n t i + (if pl_ (th_ B i n) k = il_ (th_ B i n) then al_ t i n else 0)
def ns_ (s : Int32) : Int32 := s * 1103515245 + 12345
def dn_ (s n : Int32) : Int32 := ((s &&& 2147483647) >>> ((16 : Int32) &&& 31)) - ((s &&& 2147483647) >>> ((16 : Int32) &&& 31)) / n * n
def lq_ (B : BayT) (z : Int32) : Nat → Int32 × Int32
  | 0 => (ns_ z, qt_ B)
  | i + 1 => (ns_ (lq_ B z i).1, sq_ (dn_ (ns_ (lq_ B z i).1) 4 = 0) (lq_ B z i).2 i)
def lay_ (B : BayT) (z : Int32) (i : Nat) : BayT := uq_ (ui_ B (dn_ (ns_ z) 31)) (lq_ B z i).2
def dl_ (B : BayT) (z : Int32) : Nat → Int32 × Int32 × Int32
  | 0 => (z, 0, 0)
  | i + 1 => ((lq_ B (dl_ B z i).1 (sn_ B)).1, (dl_ B z i).2.1 + (su_ (jy_ (hs_ 24 (lay_ B (dl_ B z i).1 (sn_ B)))) (sn_ B) - su_ (jy_ B) (sn_ B)), (dl_ B z i).2.2 + (if ow_ (hs_ 24 (lay_ B (dl_ B z i).1 (sn_ B))) = none then 0 else 1))
