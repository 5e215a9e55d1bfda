theorem sn_ug (B : BayT) (k : Nat) (w v : Int32) : sn_ (ug_ B k w v) = sn_ B := by
  unfold ug_
  split
  · rfl
  · split <;> rfl
theorem th_y {B : BayT} {i j : Nat} (c : (nI i >>> (nI j &&& 31)) &&& 1 = 1) : hb_ True (th_ B i j) = th_ B i (j + 1) := hb_c (P := True) (Q := qb_ (nI i) j = 1) ⟨fun _ => c, fun _ => trivial⟩ (th_ B i j)
theorem th_n {B : BayT} {i j : Nat} (c : ¬ (nI i >>> (nI j &&& 31)) &&& 1 = 1) : hb_ False (th_ B i j) = th_ B i (j + 1) := hb_c (P := False) (Q := qb_ (nI i) j = 1) ⟨fun q => q.elim, fun q => absurd q c⟩ (th_ B i j)
theorem al_y {t : Int32} {i j : Nat} (c : (nI i >>> (nI j &&& 31)) &&& 1 = 1) : al_ t i j * 1 = al_ t i (j + 1) := by
  rw [al_, if_pos (show qb_ (nI i) j = 1 from c)]
theorem al_n {t : Int32} {i j : Nat} (c : ¬ (nI i >>> (nI j &&& 31)) &&& 1 = 1) : al_ t i j * (t - 1).toInt64 = al_ t i (j + 1) := by
  rw [al_, if_neg (show ¬ qb_ (nI i) j = 1 from c)]
