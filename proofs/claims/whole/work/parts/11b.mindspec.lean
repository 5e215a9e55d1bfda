set_option maxHeartbeats 400000 in
theorem uq_uq (B : BayT) (a b : Int32) : uq_ (uq_ B a) b = uq_ B b := rfl
set_option maxHeartbeats 400000 in
theorem lay_s {B : BayT} {z : Int32} {i : Nat} (P : Prop) [Decidable P] (h : P ↔ dn_ (ns_ (lq_ B z i).1) 4 = 0) : uq_ (lay_ B z i) (sq_ P (lq_ B z i).2 i) = lay_ B z (i + 1) := by
  rw [sq_c h]
  have e : (lq_ B z (i + 1)).2 = sq_ (dn_ (ns_ (lq_ B z i).1) 4 = 0) (lq_ B z i).2 i := by simp only [lq_]
  unfold lay_
  rw [e, uq_uq]
set_option maxHeartbeats 400000 in
theorem dl_j {B : BayT} {z x : Int32} {i : Nat} (h : x = su_ (jy_ (hs_ 24 (lay_ B (dl_ B z i).1 (sn_ B)))) (sn_ B)) : (dl_ B z i).2.1 + (x - su_ (jy_ B) (sn_ B)) = (dl_ B z (i + 1)).2.1 := by subst h; simp only [dl_]
set_option maxHeartbeats 400000 in
theorem dl_a {B : BayT} {z : Int32} {i : Nat} (h : ow_ (hs_ 24 (lay_ B (dl_ B z i).1 (sn_ B))) = none) : (dl_ B z i).2.2 + 0 = (dl_ B z (i + 1)).2.2 := by
  simp only [dl_]; rw [h]; simp only [if_true]
set_option maxHeartbeats 400000 in
theorem dl_b {B : BayT} {z : Int32} {i : Nat} (h : ¬ ow_ (hs_ 24 (lay_ B (dl_ B z i).1 (sn_ B))) = none) : (dl_ B z i).2.2 + 1 = (dl_ B z (i + 1)).2.2 := by
  simp only [dl_]
  rw [if_neg h]
set_option maxHeartbeats 400000 in
theorem wy_y {B : BayT} {k n i j : Nat} {t : Int32} (e : j = n) (c : pl_ (th_ B i j) k = il_ (th_ B i j)) : wy_ B k n t i + al_ t i j = wy_ B k n t (i + 1) := by
  subst e; rw [wy_, if_pos c]
set_option maxHeartbeats 400000 in
theorem wy_n {B : BayT} {k n i j : Nat} {t : Int32} (e : j = n) (c : ¬ pl_ (th_ B i j) k = il_ (th_ B i j)) : wy_ B k n t i + 0 = wy_ B k n t (i + 1) := by
  subst e; rw [wy_, if_neg c]
theorem fw_y {B : BayT} {k n b : Nat} (c1 : (nI b >>> (nI k &&& 31)) &&& 1 = 0) (c2 : ¬ (fw_ B k n b).2 ≤ nI (pn_ b)) (c3 : ¬ tc_ (uq_ B (qt_ B ||| nI b)) k n ≤ 0) : nI b = (fw_ B k n (b + 1)).1 ∧ nI (pn_ b) = (fw_ B k n (b + 1)).2 := by
  rw [fw_, if_pos ⟨c1, Int32.not_le.mp c2, Int32.not_le.mp c3⟩]; exact ⟨rfl, rfl⟩
theorem fw_n {B : BayT} {k n b : Nat} (c : ¬ ((nI b >>> (nI k &&& 31)) &&& 1 = 0 ∧ nI (pn_ b) < (fw_ B k n b).2 ∧ 0 < tc_ (uq_ B (qt_ B ||| nI b)) k n)) : (fw_ B k n b).1 = (fw_ B k n (b + 1)).1 ∧ (fw_ B k n b).2 = (fw_ B k n (b + 1)).2 := by
  rw [fw_, if_neg c]; exact ⟨rfl, rfl⟩
theorem fw_n1 {B : BayT} {k n b : Nat} (c : ¬ (nI b >>> (nI k &&& 31)) &&& 1 = 0) : (fw_ B k n b).1 = (fw_ B k n (b + 1)).1 ∧ (fw_ B k n b).2 = (fw_ B k n (b + 1)).2 := fw_n fun q => c q.1
theorem fw_n2 {B : BayT} {k n b : Nat} (c : (fw_ B k n b).2 ≤ nI (pn_ b)) : (fw_ B k n b).1 = (fw_ B k n (b + 1)).1 ∧ (fw_ B k n b).2 = (fw_ B k n (b + 1)).2 := fw_n fun q => Int32.not_lt.mpr c q.2.1
theorem fw_n3 {B : BayT} {k n b : Nat} (c : tc_ (uq_ B (qt_ B ||| nI b)) k n ≤ 0) : (fw_ B k n b).1 = (fw_ B k n (b + 1)).1 ∧ (fw_ B k n b).2 = (fw_ B k n (b + 1)).2 := fw_n fun q => Int32.not_lt.mpr c q.2.2
theorem bp_e {f : Nat → Int32} {s w : Nat} {b mo : Int32} (h : 99 < w) : ∀ m : Nat, bp_ f s m w b mo = b
  | 0 => rfl
  | m + 1 => by rw [bp_, if_pos h]
theorem bp_s1 {f : Nat → Int32} {s m w : Nat} {b mo : Int32} (h0 : 0 < m) (h : ¬ 99 < w) (c : ¬ f w ≤ mo) : bp_ f s m w b mo = bp_ f s (m - 1) (w + s) (nI w) (f w) := by
  obtain ⟨m, rfl⟩ : ∃ j, m = j + 1 := ⟨m - 1, by omega⟩
  rw [bp_, if_neg h, if_pos (Int32.not_le.mp c)]; rfl
theorem bp_s2 {f : Nat → Int32} {s m w : Nat} {b mo : Int32} (h0 : 0 < m) (h : ¬ 99 < w) (c : f w ≤ mo) : bp_ f s m w b mo = bp_ f s (m - 1) (w + s) b mo := by
  obtain ⟨m, rfl⟩ : ∃ j, m = j + 1 := ⟨m - 1, by omega⟩
  rw [bp_, if_neg h, if_neg (Int32.not_lt.mpr c)]; rfl
