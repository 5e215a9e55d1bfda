/-! the reference's rows of bays -/
def ucu_ (M : MT) (i : Nat) : MT := mkM (mrf_ M) (mtp_ M) (mlt_ M) (mla_ M) (mtd_ M) (mkp_ M) (mof_ M) (mfa_ M) (mrw_ M) (mhb_ M) (mtn_ M) (mrd_ M) (msm_ M) (mcu_ M + i) (mbk_ M) (mrm_ M) (mhi_ M) (mik_ M) (mlw_ M) (mhg_ M) (msl_ M) (mlo_ M)
/-- cells c .. c + i - 1 of a row are h's -/
def kc_ (f h : Nat → Int32) (c i : Nat) : Nat → Int32 := fun j => if c ≤ j ∧ j < c + i then h (j - c) else f j
theorem kc_0 (f h : Nat → Int32) (c : Nat) : kc_ f h c 0 = f := by
  funext j; unfold kc_; rw [if_neg (by omega)]
theorem kc_s (f h : Nat → Int32) (c i : Nat) : upd (kc_ f h c i) (c + i) (h i) = kc_ f h c (i + 1) := by
  funext j; unfold upd kc_
  by_cases e : j = c + i
  · rw [if_pos e, if_pos (by omega), e]; congr 1; omega
  · rw [if_neg e]
    by_cases q : c ≤ j ∧ j < c + i
    · rw [if_pos q, if_pos (by omega)]
    · rw [if_neg q, if_neg (by omega)]
/-- the first i of a row are f's from c on -/
def oc_ (f h : Nat → Int32) (c i : Nat) : Nat → Int32 := fun j => if j < i then f (c + j) else h j
theorem oc_0 (f h : Nat → Int32) (c : Nat) : oc_ f h c 0 = h := by
  funext j; unfold oc_; rw [if_neg (by omega)]
theorem oc_s (f h : Nat → Int32) (c i : Nat) : upd (oc_ f h c i) i (f (c + i)) = oc_ f h c (i + 1) := by
  funext j; unfold upd oc_
  by_cases e : j = i
  · rw [if_pos e, if_pos (by omega), e]
  · rw [if_neg e]
    by_cases q : j < i
    · rw [if_pos q, if_pos (by omega)]
    · rw [if_neg q, if_neg (by omega)]
/-- t numbers of a bay are in the row from c on -/
def pf_ (f : Nat → Int32) (B : BayT) (c t : Nat) : Nat → Int32 := fun j => if c ≤ j ∧ j < c + t then bc_ B (j - c) else f j
theorem pf_0 (f : Nat → Int32) (B : BayT) (c : Nat) (j : Nat) : f j = pf_ f B c 0 j := by
  unfold pf_; rw [if_neg (by omega)]
theorem pf_kc {f h : Nat → Int32} {B : BayT} {c t n : Nat} (hh : ∀ i, i < n → h i = bc_ B (t + i)) (j : Nat) : kc_ (pf_ f B c t) h (c + t) n j = pf_ f B c (t + n) j := by
  unfold kc_ pf_
  by_cases q : c + t ≤ j ∧ j < c + t + n
  · rw [if_pos q, if_pos (by omega), hh _ (by omega)]; congr 1; omega
  · rw [if_neg q]
    by_cases q2 : c ≤ j ∧ j < c + t
    · rw [if_pos q2, if_pos (by omega)]
    · rw [if_neg q2, if_neg (by omega)]
theorem pf_up {f : Nat → Int32} {B : BayT} {c t : Nat} {v : Int32} (hh : v = bc_ B t) (j : Nat) : upd (pf_ f B c t) (c + t) v j = pf_ f B c (t + 1) j := by
  unfold upd pf_
  by_cases e : j = c + t
  · rw [if_pos e, if_pos (by omega), hh, e]; congr 1; omega
  · rw [if_neg e]
    by_cases q2 : c ≤ j ∧ j < c + t
    · rw [if_pos q2, if_pos (by omega)]
    · rw [if_neg q2, if_neg (by omega)]
theorem pf_41 (K : Nat → BayT) (B : BayT) (w j : Nat) : pf_ (flatK K) B (41 * w) 41 j = flatK (va_up K w B) j := by
  unfold pf_ flatK va_up
  by_cases q : 41 * w ≤ j ∧ j < 41 * w + 41
  · rw [if_pos q, if_pos (by omega)]; congr 1; omega
  · rw [if_neg q, if_neg (by omega)]
theorem fk_ (K : Nat → BayT) (w i : Nat) (h : i < 41) : flatK K (41 * w + i) = bc_ (K w) i := by
  unfold flatK
  rw [show (41 * w + i) / 41 = w by omega, show (41 * w + i) % 41 = i by omega]
theorem bc_0 (B : BayT) (i : Nat) (h : i < 7) : bc_ B (0 + i) = kd_ B i := by unfold bc_; rw [if_pos (by omega)]; congr 1; omega
theorem bc_7 (B : BayT) (i : Nat) (h : i < 7) : bc_ B (7 + i) = fg_ B i := by unfold bc_; rw [if_neg (by omega), if_pos (by omega)]; congr 1; omega
theorem bc_14 (B : BayT) (i : Nat) (h : i < 7) : bc_ B (14 + i) = pl_ B i := by unfold bc_; rw [if_neg (by omega), if_neg (by omega), if_pos (by omega)]; congr 1; omega
theorem bc_21 (B : BayT) (i : Nat) (h : i < 7) : bc_ B (21 + i) = pw_ B i := by unfold bc_; rw [if_neg (by omega), if_neg (by omega), if_neg (by omega), if_pos (by omega)]; congr 1; omega
theorem bc_28 (B : BayT) (i : Nat) (h : i < 7) : bc_ B (28 + i) = jy_ B i := by unfold bc_; rw [if_neg (by omega), if_neg (by omega), if_neg (by omega), if_neg (by omega), if_pos (by omega)]; congr 1; omega
def pk_ (M : MT) (w : Nat) (B : BayT) : MT := mkM (mrf_ M) (mtp_ M) (mlt_ M) (mla_ M) (mtd_ M) (va_up (mkp_ M) w B) (mof_ M) (mfa_ M) (mrw_ M) (mhb_ M) (mtn_ M) (mrd_ M) (msm_ M) (41 * w + 41) (mbk_ M) (mrm_ M) (mhi_ M) 1 (mlw_ M) (mhg_ M) (msl_ M) (mlo_ M)
def pu_ (M : MT) (w : Nat) : MT := mkM (mrf_ M) (mtp_ M) (mlt_ M) (mla_ M) (mtd_ M) (mkp_ M) (mof_ M) (mfa_ M) (mrw_ M) (mhb_ M) (mtn_ M) (mrd_ M) (msm_ M) (41 * w + 41) (mbk_ M) (mrm_ M) (mhi_ M) 0 (mlw_ M) (mhg_ M) (msl_ M) (mlo_ M)
theorem oM_pk (M : MT) (B : BayT) {w : Nat} (h : w = 1 ∨ w = 2) : oM_ M (pk_ M w B) := ⟨rfl, rfl, rfl, rfl, rfl, rfl, rfl, fun j hj => va_up_ne _ _ (by omega)⟩
theorem oM_pu (M : MT) (w : Nat) : oM_ M (pu_ M w) := ⟨rfl, rfl, rfl, rfl, rfl, rfl, rfl, fun _ _ => rfl⟩
theorem us_z (B : BayT) (n : Nat) (c : no_ B n (ho_ B) ≤ 0) : mkB (kd_ B) (fg_ B) (pl_ B) (upd (sp_ B n) n (sp_ B n n - 0)) (jy_ B) (qt_ B) (sn_ B) (il_ B) (pa_ B) (ho_ B) (dy_ B) = us_ B (n + 1) := by
  rw [← us_n B n (Int32.not_lt.mpr c)]
  have h : upd (sp_ B n) n (sp_ B n n - 0) = sp_ B n := by
    funext j; unfold upd
    by_cases e : j = n
    · rw [if_pos e, e, Int32.sub_zero]
    · rw [if_neg e]
  rw [h]; rfl
theorem he_jo_d : ∀ j : Fin 1000, he_ (nI j.val + 1) 0 999 = jo_ (nI j.val) := by decide +kernel
theorem he_jo {x : Int32} (h : 0 ≤ x ∧ x ≤ 999) : he_ (x + 1) 0 999 = jo_ x := by
  obtain ⟨j, hj, rfl⟩ := rg9 999 (by decide) h.1 h.2
  exact he_jo_d ⟨j, by omega⟩
theorem ho_24_d : ∀ j : Fin 24, (nI j.val + 1 = 24 ↔ 23 < nI j.val + 1) := by decide +kernel
theorem ho_24 {x : Int32} (h : 0 ≤ x ∧ x ≤ 23) : (x + 1 = 24 ↔ 23 < x + 1) := by
  obtain ⟨j, hj, rfl⟩ := rg9 23 (by decide) h.1 h.2
  exact ho_24_d ⟨j, by omega⟩
/-- bits from n on are not there -/
theorem qt_n_d : ∀ n : Fin 7, ∀ q : Fin 128, q.val < p2_ n.val → nI q.val &&& (((1 : Int32) <<< (nI n.val &&& 31)) ^^^ (-1)) = nI q.val := by decide +kernel
theorem qt_n {B : BayT} (hI : bI_ B) (h : sn_ B < 7) : qt_ B &&& (((1 : Int32) <<< (nI (sn_ B) &&& 31)) ^^^ (-1)) = qt_ B := by
  obtain ⟨q, hq, e⟩ := hI.2.2.2.1
  have := p2_7 hI.1
  rw [e]
  exact qt_n_d ⟨sn_ B, h⟩ ⟨q, by omega⟩ hq
theorem he_rng (v : Int32) : 0 ≤ he_ v 0 30 ∧ he_ v 0 30 ≤ 30 := by
  unfold he_
  split
  · exact ⟨by decide, by decide⟩
  · rename_i h
    split
    · exact ⟨by decide, by decide⟩
    · rename_i h2
      exact ⟨Int32.not_lt.mp h, Int32.not_lt.mp h2⟩
theorem tw_rng {B : BayT} (hI : bI_ B) {k : Nat} (hk : k < sn_ B) : 0 ≤ tw_ B k ∧ tw_ B k ≤ 30 := by
  rw [← tw_eq (hI.2.1 k hk).2.2.1 hI.2.2.2.2.1 hI.2.2.2.2.2.1]; exact he_rng _
theorem aw_rng {B : BayT} (hI : bI_ B) {k : Nat} (hk : k < sn_ B) : 0 ≤ aw_ B k ∧ aw_ B k ≤ 30 := by
  rw [← aw_eq (hI.2.1 k hk).2.2.1 hI.2.2.2.2.1 hI.2.2.2.2.2.1]; exact he_rng _
theorem jo_rng {x : Int32} (h : 0 ≤ x ∧ x ≤ 999) : 0 ≤ jo_ x ∧ jo_ x ≤ 999 := by
  obtain ⟨j, hj, rfl⟩ := rg9 999 (by decide) h.1 h.2
  unfold jo_
  rw [nI_1]
  split
  · rename_i c
    have c2 : nI (j + 1) < nI 999 := c
    rw [jlt (by omega) (by omega)] at c2
    exact ⟨nI_pos' (by omega), by show nI (j + 1) ≤ nI 999; rw [jle (by omega) (by omega)]; omega⟩
  · exact ⟨by decide, by decide⟩
theorem pwco {p c : Int32} (hp : 0 ≤ p ∧ p ≤ 99) (hc : c = 0 ∨ c = 1 ∨ c = 5) (h : ¬ p < c) : 0 ≤ p - c ∧ p - c ≤ 99 := by
  obtain ⟨j, hj, rfl⟩ := rg9 99 (by decide) hp.1 hp.2
  have key : ∀ n : Nat, n ≤ 5 → c = nI n → 0 ≤ nI j - c ∧ nI j - c ≤ 99 := by
    intro n hn e
    subst e
    rw [jlt (by omega) (by omega)] at h
    rw [pk_sub (by omega)]
    exact ⟨nI_pos' (by omega), by show nI (j - n) ≤ nI 99; rw [jle (by omega) (by omega)]; omega⟩
  rcases hc with e | e | e
  · exact key 0 (by omega) e
  · exact key 1 (by omega) e
  · exact key 5 (by omega) e
theorem bI_hb {z : Prop} [Decidable z] {B : BayT} (hI : bI_ B) : bI_ (hb_ z B) := by
  obtain ⟨h7, hk, hd, hq, hil, hpa, hho, -⟩ := id hI
  refine ⟨h7, fun k hkn => ?_, hd, hq, ?_, hpa, ?_, trivial⟩
  · obtain ⟨a1, a2, a3, a4, a5⟩ := hk k hkn
    refine ⟨a1, a2, a3, ?_, ?_⟩
    · show 0 ≤ sp_ B (sn_ B) k ∧ sp_ B (sn_ B) k ≤ 99
      unfold sp_
      by_cases c : k < sn_ B ∧ 0 < no_ B k (ho_ B)
      · rw [if_pos c]
        refine pwco a4 (co_c _ _) (fun q => ?_)
        have c2 := c.2
        unfold no_ at c2
        rw [if_pos (Or.inr (Or.inr q))] at c2
        exact absurd c2 (by decide)
      · rw [if_neg c]; exact a4
    · show 0 ≤ jb_ (pl_ B) (jy_ B) (sn_ B) (dr2_ z B) k ∧ jb_ (pl_ B) (jy_ B) (sn_ B) (dr2_ z B) k ≤ 999
      unfold jb_
      cases at_ (pl_ B) (dr2_ z B) (sn_ B) 0 with
      | none => exact a5
      | some t =>
        show 0 ≤ upd (jy_ B) t (jo_ (jy_ B t)) k ∧ upd (jy_ B) t (jo_ (jy_ B t)) k ≤ 999
        unfold upd
        by_cases e : k = t
        · rw [if_pos e]; subst e; exact jo_rng a5
        · rw [if_neg e]; exact a5
  · show 0 ≤ dr2_ z B ∧ dr2_ z B ≤ 30
    unfold dr2_
    cases h : lt_ B (ho_ B) with
    | none => exact hil
    | some t =>
      have ht := (lo_lt _ _ h).1
      show 0 ≤ (if z then aw_ B t else tw_ B t) ∧ (if z then aw_ B t else tw_ B t) ≤ 30
      by_cases c : z
      · rw [if_pos c]; exact aw_rng hI ht
      · rw [if_neg c]; exact tw_rng hI ht
  · show 0 ≤ (if 23 < ho_ B + 1 then 0 else ho_ B + 1) ∧ (if 23 < ho_ B + 1 then 0 else ho_ B + 1) ≤ 23
    obtain ⟨j, hj, e⟩ := rg9 23 (by decide) hho.1 hho.2
    rw [e, nI_1]
    split
    · exact ⟨by decide, by decide⟩
    · rename_i c
      exact ⟨nI_pos' (by omega), Int32.not_lt.mp c⟩
theorem bI_hs {B : BayT} (hI : bI_ B) : ∀ n, bI_ (hs_ n B)
  | 0 => hI
  | n + 1 => bI_hb (bI_hs hI n)
