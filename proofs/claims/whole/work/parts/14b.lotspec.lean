/-! draws, behind names that the kernel doesn't open -/
theorem nsE : ∃ f : Int32 → Int32, ∀ s, f s = ns_ s := ⟨ns_, fun _ => rfl⟩
noncomputable def nz_ (s : Int32) : Int32 := nsE.choose s
theorem nz_eq (s : Int32) : nz_ s = ns_ s := nsE.choose_spec s
theorem dnE : ∃ f : Int32 → Int32 → Int32, ∀ s n, f s n = dn_ s n := ⟨dn_, fun _ _ => rfl⟩
noncomputable def dz_ (s n : Int32) : Int32 := dnE.choose s n
theorem dz_eq (s n : Int32) : dz_ s n = dn_ s n := dnE.choose_spec s n
noncomputable def lqz_ (B : BayT) (z : Int32) : Nat → Int32 × Int32
  | 0 => (nz_ z, qt_ B)
  | i + 1 => (nz_ (lqz_ B z i).1, sq_ (dz_ (nz_ (lqz_ B z i).1) 4 = 0) (lqz_ B z i).2 i)
noncomputable def layz_ (B : BayT) (z : Int32) (i : Nat) : BayT := uq_ (ui_ B (dz_ (nz_ z) 31)) (lqz_ B z i).2
noncomputable def dlz_ (B : BayT) (z : Int32) : Nat → Int32 × Int32 × Int32
  | 0 => (z, 0, 0)
  | i + 1 => ((lqz_ B (dlz_ B z i).1 (sn_ B)).1, (dlz_ B z i).2.1 + (su_ (jy_ (hs_ 24 (layz_ B (dlz_ B z i).1 (sn_ B)))) (sn_ B) - su_ (jy_ B) (sn_ B)), (dlz_ B z i).2.2 + (if ow_ (hs_ 24 (layz_ B (dlz_ B z i).1 (sn_ B))) = none then 0 else 1))
theorem lqz_1 (B : BayT) (z : Int32) (i : Nat) : nz_ (lqz_ B z i).1 = (lqz_ B z (i + 1)).1 := by rw [lqz_]
theorem layz_0 (B : BayT) (z : Int32) : uq_ (ui_ B (dz_ (nz_ z) 31)) (qt_ B) = layz_ B z 0 := by unfold layz_; rw [lqz_]
theorem layz_s {B : BayT} {z : Int32} {i : Nat} (P : Prop) [Decidable P] (h : P ↔ dz_ (nz_ (lqz_ B z i).1) 4 = 0) : uq_ (layz_ B z i) (sq_ P (lqz_ B z i).2 i) = layz_ B z (i + 1) := by
  rw [sq_c h]
  have e : (lqz_ B z (i + 1)).2 = sq_ (dz_ (nz_ (lqz_ B z i).1) 4 = 0) (lqz_ B z i).2 i := by rw [lqz_]
  unfold layz_
  rw [e, uq_uq]
theorem dlz_z {B : BayT} {z : Int32} {i : Nat} : (lqz_ B (dlz_ B z i).1 (sn_ B)).1 = (dlz_ B z (i + 1)).1 := by rw [dlz_]
theorem dlz_j {B : BayT} {z x : Int32} {i : Nat} (h : x = su_ (jy_ (hs_ 24 (layz_ B (dlz_ B z i).1 (sn_ B)))) (sn_ B)) : (dlz_ B z i).2.1 + (x - su_ (jy_ B) (sn_ B)) = (dlz_ B z (i + 1)).2.1 := by subst h; rw [dlz_]
theorem dlz_a {B : BayT} {z : Int32} {i : Nat} (h : ow_ (hs_ 24 (layz_ B (dlz_ B z i).1 (sn_ B))) = none) : (dlz_ B z i).2.2 + 0 = (dlz_ B z (i + 1)).2.2 := by rw [dlz_, if_pos h]
theorem dlz_b {B : BayT} {z : Int32} {i : Nat} (h : ¬ ow_ (hs_ 24 (layz_ B (dlz_ B z i).1 (sn_ B))) = none) : (dlz_ B z i).2.2 + 1 = (dlz_ B z (i + 1)).2.2 := by rw [dlz_, if_neg h]
theorem sn_lay (B : BayT) (z : Int32) (i : Nat) : sn_ (layz_ B z i) = sn_ B := rfl
theorem qX2_nextSeedZ (l : Launch) (D : va_G) (cI cB : ClassId) (z : Int32) : jSi D cI cB l yX2_nextSeed wsX2_nextSeed 0 [.int z] ([] : va_W) (fun r => r = nz_ z) := by
  rw [nz_eq]
  exact qX2_nextSeed l D cI cB z
theorem qX2_drawnZ (l : Launch) (D : va_G) (cI cB : ClassId) (z n : Int32) (hn : ¬ n < 1) : jSi D cI cB l yX2_drawn wsX2_drawn 0 [.int z, .int n] ([] : va_W) (fun r => r = dz_ z n) := by
  rw [dz_eq]
  exact qX2_drawn l D cI cB z n hn
