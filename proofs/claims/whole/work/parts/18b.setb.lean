/-! places of a world written anew, in one pass -/
def posB : List Bool → Nat → List Nat
  | [], _ => []
  | true :: bs, k => k :: posB bs (k + 1)
  | false :: bs, k => posB bs (k + 1)
def cntB : List Bool → Nat
  | [] => 0
  | true :: bs => cntB bs + 1
  | false :: bs => cntB bs
def setB : List Bool → va_W → va_W → va_W
  | [], _, ws => ws
  | _ :: _, _, [] => []
  | false :: bs, xs, w :: ws => w :: setB bs xs ws
  | true :: _, [], w :: ws => w :: ws
  | true :: bs, x :: xs, _ :: ws => x :: setB bs xs ws
theorem setL0_nil (is : List Nat) (ws : va_W) : setL0 is [] ws = ws := by cases is <;> rfl
theorem setB_nil : ∀ (bs : List Bool) (ws : va_W), setB bs [] ws = ws
  | [], _ => rfl
  | b :: _, [] => by cases b <;> rfl
  | false :: bs, w :: ws => by rw [setB, setB_nil bs ws]
  | true :: _, _ :: _ => rfl
theorem setL_oor : ∀ (bs : List Bool) (k : Nat) (is : List Nat) (w1 ws : va_W), ws.length ≤ k → setL0 (posB bs k ++ is) w1 ws = setL0 is (w1.drop (cntB bs)) ws
  | [], _, _, _, _, _ => rfl
  | false :: bs, k, is, w1, ws, h => setL_oor bs (k + 1) is w1 ws (by omega)
  | true :: bs, k, is, [], ws, h => by rw [List.drop_nil, setL0_nil, setL0_nil]
  | true :: bs, k, is, x :: xs, ws, h => by
    show setL0 (posB bs (k + 1) ++ is) xs (ws.set k x) = setL0 is (xs.drop (cntB bs)) ws
    rw [List.set_eq_of_length_le h]
    exact setL_oor bs (k + 1) is xs ws (by omega)
theorem setL_m0 : ∀ (bs : List Bool) (k : Nat) (is : List Nat) (w1 pre ws : va_W), pre.length = k → setL0 (posB bs k ++ is) w1 (pre ++ ws) = setL0 is (w1.drop (cntB bs)) (pre ++ setB bs w1 ws)
  | [], _, _, _, _, _, _ => rfl
  | b :: bs, k, is, w1, pre, [], h => by
    have e : setB (b :: bs) w1 [] = [] := by cases b <;> rfl
    rw [e]
    exact setL_oor (b :: bs) k is w1 (pre ++ []) (by rw [List.append_nil]; omega)
  | false :: bs, k, is, w1, pre, w :: ws, h => by
    have := setL_m0 bs (k + 1) is w1 (pre ++ [w]) ws (by rw [List.length_append, h]; rfl)
    rw [List.append_assoc, List.append_assoc] at this
    exact this
  | true :: bs, k, is, [], pre, w :: ws, h => by rw [List.drop_nil, setL0_nil, setL0_nil]; rfl
  | true :: bs, k, is, x :: xs, pre, w :: ws, h => by
    have := setL_m0 bs (k + 1) is xs (pre ++ [x]) ws (by rw [List.length_append, h]; rfl)
    rw [List.append_assoc, List.append_assoc] at this
    show setL0 (posB bs (k + 1) ++ is) xs ((pre ++ w :: ws).set k x) = _
    have e : (pre ++ w :: ws).set k x = pre ++ x :: ws := by
      subst h
      rw [List.set_append_right _ _ (Nat.le_refl _), Nat.sub_self]
      rfl
    rw [e]
    exact this
theorem setL_m (bs : List Bool) (is : List Nat) (w1 ws : va_W) : setL0 (posB bs 0 ++ is) w1 ws = setL0 is (w1.drop (cntB bs)) (setB bs w1 ws) := setL_m0 bs 0 is w1 [] ws rfl
theorem va_P.m {D : va_G} {cl : List vw_C} {H : Heap} {w1 ws : va_W} (bs : List Bool) (is : List Nat) (h : va_P D cl (setL0 (posB bs 0 ++ is) w1 ws) H) : va_P D cl (setL0 is (w1.drop (cntB bs)) (setB bs w1 ws)) H := by
  rw [← setL_m]; exact h
theorem va_D.m {A0 : Nat → Prop} {w1 ws : va_W} (bs : List Bool) (is : List Nat) (h : va_D A0 (setL0 (posB bs 0 ++ is) w1 ws)) : va_D A0 (setL0 is (w1.drop (cntB bs)) (setB bs w1 ws)) := by
  rw [← setL_m]; exact h
