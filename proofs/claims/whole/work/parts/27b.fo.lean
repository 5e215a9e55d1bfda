/-! what a going-through leaves, told without its rows opened -/
theorem mW_adr (cI : ClassId) (r : Nat → Nat) (B B2 : BayT) (M M2 : MT) : (mW cI r B M).map Prod.fst = (mW cI r B2 M2).map Prod.fst := rfl
theorem fo_mof {M u : MT} {B : BayT} {a i : Nat} (h : u = pu_ (fom_ M B a i) 2) : mof_ u = ofn_ B a i := by subst h; rfl
theorem fo_mfa {M u : MT} {B : BayT} {a i : Nat} (h : u = pu_ (fom_ M B a i) 2) : mfa_ u = fan_ B i := by subst h; rfl
theorem fo_mlw {M u : MT} {B : BayT} {a i : Nat} (h : u = pu_ (fom_ M B a i) 2) : mlw_ u = lwn_ B i := by subst h; rfl
theorem fo_mhg {M u : MT} {B : BayT} {a i : Nat} (h : u = pu_ (fom_ M B a i) 2) : mhg_ u = hgn_ B i := by subst h; rfl
theorem fo_msl {M u : MT} {B : BayT} {a i : Nat} (h : u = pu_ (fom_ M B a i) 2) : msl_ u = sln_ B i := by subst h; rfl
