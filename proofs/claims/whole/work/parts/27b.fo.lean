/-! what a going-through leaves, told without its rows opened -/
theorem mW_adr (cI : ClassId) (r : Nat → Nat) (B B2 : BayT) (M M2 : MT) : (mW cI r B M).map Prod.fst = (mW cI r B2 M2).map Prod.fst := rfl
theorem fo_mof {M u : MT} {B : BayT} {a i : Nat} (h : u = pu_ (fom_ M B a i) 2) : mof_ u = ofn_ B a i := by subst h; rfl
theorem fo_mfa {M u : MT} {B : BayT} {a i : Nat} (h : u = pu_ (fom_ M B a i) 2) : mfa_ u = fan_ B i := by subst h; rfl
theorem fo_mlw {M u : MT} {B : BayT} {a i : Nat} (h : u = pu_ (fom_ M B a i) 2) : mlw_ u = lwn_ B i := by subst h; rfl
theorem fo_mhg {M u : MT} {B : BayT} {a i : Nat} (h : u = pu_ (fom_ M B a i) 2) : mhg_ u = hgn_ B i := by subst h; rfl
theorem fo_msl {M u : MT} {B : BayT} {a i : Nat} (h : u = pu_ (fom_ M B a i) 2) : msl_ u = sln_ B i := by subst h; rfl
abbrev mWa (r : Nat → Nat) : List Nat := [r 0, r 1, r 2, r 3, r 4, r 5, r 6, r 13, r 14, r 15, r 16, r 20, r 25, r 26, r 30, r 32]
theorem mW_ad0 (cI : ClassId) (r : Nat → Nat) (B : BayT) (M : MT) : (mW cI r B M).map Prod.fst = mWa r := rfl
theorem mW_adE {w : va_W} {cI : ClassId} {r : Nat → Nat} {B : BayT} {M : MT} (h : w.map Prod.fst = mWa r) : w.map Prod.fst = (mW cI r B M).map Prod.fst := h.trans (mW_ad0 cI r B M).symm
