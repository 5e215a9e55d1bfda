set_option maxHeartbeats 400000 in
theorem uq_uq (B : BayT) (a b : Int32) : uq_ (uq_ B a) b = uq_ B b := rfl
set_option maxHeartbeats 400000 in
theorem lay_s {B : BayT} {z : Int32} {i : Nat} (P : Prop) [Decidable P] (h : P ↔ dn_ (ns_ (lq_ B z i).1) 4 = 0) : uq_ (lay_ B z i) (sq_ P (lq_ B z i).2 i) = lay_ B z (i + 1) := by
  rw [sq_c h]
  have e : (lq_ B z (i + 1)).2 = sq_ (dn_ (ns_ (lq_ B z i).1) 4 = 0) (lq_ B z i).2 i := by simp only [lq_]
  unfold lay_
  rw [e, uq_uq]
set_option maxHeartbeats 400000 in
theorem dl_j {B : BayT} {z x : Int32} {i : Nat} (h : x = su_ (jy_ (hs_ 24 (lay_ B (dl_ B z i).1 (sn_ B)))) (sn_ B)) : (dl_ B z i).2.1 + (x - su_ (jy_ B) (sn_ B)) = (dl_ B z (i + 1)).2.1 := by subst h; simp only [dl_]
set_option maxHeartbeats 400000 in
theorem dl_a {B : BayT} {z : Int32} {i : Nat} (h : ow_ (hs_ 24 (lay_ B (dl_ B z i).1 (sn_ B))) = none) : (dl_ B z i).2.2 + 0 = (dl_ B z (i + 1)).2.2 := by
  simp only [dl_]; rw [h]; simp only [if_true]
set_option maxHeartbeats 400000 in
theorem dl_b {B : BayT} {z : Int32} {i : Nat} (h : ¬ ow_ (hs_ 24 (lay_ B (dl_ B z i).1 (sn_ B))) = none) : (dl_ B z i).2.2 + 1 = (dl_ B z (i + 1)).2.2 := by
  simp only [dl_]
  rw [if_neg h]
set_option maxHeartbeats 400000 in
theorem wy_y {B : BayT} {k n i j : Nat} {t : Int32} (e : j = n) (c : pl_ (th_ B i j) k = il_ (th_ B i j)) : wy_ B k n t i + al_ t i j = wy_ B k n t (i + 1) := by
  subst e; rw [wy_, if_pos c]
set_option maxHeartbeats 400000 in
theorem wy_n {B : BayT} {k n i j : Nat} {t : Int32} (e : j = n) (c : ¬ pl_ (th_ B i j) k = il_ (th_ B i j)) : wy_ B k n t i + 0 = wy_ B k n t (i + 1) := by
  subst e; rw [wy_, if_neg c]
