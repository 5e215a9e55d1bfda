theorem okX5_loudOf : jok yX5_loudOf wsX5_loudOf cX5_loudOf 4 (some .int) 2 := ⟨⟨_, rfl⟩, by decide +kernel, by decide +kernel⟩
set_option maxHeartbeats 1000000 in
set_option maxRecDepth 100000 in
theorem qX5_loudOf (l : Launch) (D : va_G) (cI cB : ClassId) (r : Nat → Nat) (B : BayT) (M : MT) (k : Nat) (h : Int32) (hk : k < 7) (hkd : 0 ≤ kd_ B k ∧ kd_ B k ≤ 5) : jSi D cI cB l yX5_loudOf wsX5_loudOf 1 [.ref (r 0), .int (nI k), .int h] (mW cI r B M) (fun r => r = ld_ (kd_ B k) (fg_ B k) h) := by
  refine jSi.of (cc := cX5_loudOf) (maxL := 4) (ret := (some .int)) okX5_loudOf (Nat.le_of_ble_eq_true rfl) ?_
  intro p e s m below meth c ls hx hb hr hts hown hlk hml hP hK hl
  replace hown : s.vm.findClass RX5 = some m.cls := hown
  replace hl : lv_has ls 4 [(0, .ref (r 0)), (1, .int (nI k)), (2, .int h)] := hl
  have hinX5 : ∀ w ∈ wsX50, w ∈ wsX5_loudOf := by decide +kernel
  have jn_19 : ∀  (x3_19 : Int32) , (x3_19 = dr_ (fg_ B k) h) → ∀ ls : Array Slot, lv_has ls 4 [(3, .int x3_19), (0, .ref (r 0)), (1, .int (nI k)), (2, .int h)] → W p l e (jR 1) s m ([.ref (r 0), .int (nI k), .int h] : List Value).toArray below meth c s.heap [] 0 0 (MQ below (vp_Si (fun r => r = ld_ (kd_ B k) (fg_ B k) h)) ([.ref (r 0), .int (nI k), .int h] : List Value).toArray s 0 0 (fun _ => False)) (F0 m 19 ls []) := by
      intro x3_19 hx3_19 ls hl
      subst x3_19
      replace hl : lv_has ls 4 [(3, .int (dr_ (fg_ B k) h)), (0, .ref (r 0)), (1, .int (nI k)), (2, .int h)] := hl
      refine lv_aload_n hx hb dX5_loudOf_19 rfl (lv_at hl 1 rfl) ?_
      refine va_get (ci := 5) (C := RX5) (T := TX5) (N := 33) hx hb hts hinX5 hown hK.1 hP 0 rfl rfl 1 (by decide) (hts _ (List.mem_of_getElem? (i := 2) rfl)) (fun _ h9 => h9) rfl dX5_loudOf_20 ?_
      refine lv_iload_n hx hb dX5_loudOf_23 rfl (lv_at hl 2 rfl) ?_
      refine jald hx hb hK.1 hP 2 0 k rfl rfl rfl (by omega) (Nat.le_of_ble_eq_true rfl) dX5_loudOf_24 ?_
      by_cases c_25_1 : (kd_ B) k = 1
      · refine lv_tableIn (off := 35) (tgt := 60) hx hb dX5_loudOf_25 (by rw [c_25_1]; decide) (by rw [c_25_1]; decide) (by rw [c_25_1]; rfl) (by decide) ?_
        refine lv_iload_n hx hb dX5_loudOf_60 rfl (lv_at hl 0 rfl) ?_
        refine rSi hx hb hr hlk ?_ dX5_loudOf_61
        show (dr_ (fg_ B k) h) = _
        first | (rw [c_25_1]; rfl) | (rw [c_25_2]; rfl) | (rw [c_25_5]; rfl) | (rw [c_25_3]; show _ = (if (9 ≤ h ∧ h ≤ 11) ∨ (18 ≤ h ∧ h ≤ 20) then 2 * dr_ (fg_ B k) h else dr_ (fg_ B k) h); first | exact (if_pos (Or.inl c_72)).symm | exact (if_pos (Or.inr c_83)).symm | exact (if_neg (fun z => z.elim c_72 c_83)).symm) | (rw [c_25_4]; show _ = (if h = fg_ B k ∨ h = fg_ B k + 12 then (30 : Int32) else 0); first | exact (if_pos (Or.inl c_101)).symm | exact (if_pos (Or.inr c_114)).symm | exact (if_neg (fun z => z.elim c_101 c_114)).symm) | (rw [kd_z hkd c_25_1 c_25_2 c_25_3 c_25_4 c_25_5]; rfl)
      by_cases c_25_2 : (kd_ B) k = 2
      · refine lv_tableIn (off := 37) (tgt := 62) hx hb dX5_loudOf_25 (by rw [c_25_2]; decide) (by rw [c_25_2]; decide) (by rw [c_25_2]; rfl) (by decide) ?_
        refine lv_iconst (v := 4) hx hb dX5_loudOf_62 (by decide) ?_
        refine rSi hx hb hr hlk ?_ dX5_loudOf_63
        show 4 = _
        first | (rw [c_25_1]; rfl) | (rw [c_25_2]; rfl) | (rw [c_25_5]; rfl) | (rw [c_25_3]; show _ = (if (9 ≤ h ∧ h ≤ 11) ∨ (18 ≤ h ∧ h ≤ 20) then 2 * dr_ (fg_ B k) h else dr_ (fg_ B k) h); first | exact (if_pos (Or.inl c_72)).symm | exact (if_pos (Or.inr c_83)).symm | exact (if_neg (fun z => z.elim c_72 c_83)).symm) | (rw [c_25_4]; show _ = (if h = fg_ B k ∨ h = fg_ B k + 12 then (30 : Int32) else 0); first | exact (if_pos (Or.inl c_101)).symm | exact (if_pos (Or.inr c_114)).symm | exact (if_neg (fun z => z.elim c_101 c_114)).symm) | (rw [kd_z hkd c_25_1 c_25_2 c_25_3 c_25_4 c_25_5]; rfl)
      by_cases c_25_3 : (kd_ B) k = 3
      · refine lv_tableIn (off := 39) (tgt := 64) hx hb dX5_loudOf_25 (by rw [c_25_3]; decide) (by rw [c_25_3]; decide) (by rw [c_25_3]; rfl) (by decide) ?_
        refine lv_iload_n hx hb dX5_loudOf_64 rfl (lv_at hl 3 rfl) ?_
        refine lv_bipush (v := 9) hx hb dX5_loudOf_65 (by decide) ?_
        refine lv_bipush (v := 11) hx hb dX5_loudOf_67 (by decide) ?_
        refine kSiS hx hb hml hown hts hK hP gX5_loudOf_X5_isIn okX5_isIn (qX5_isIn l D cI cB h 9 11 ) [] rfl (by decide) hl.1 rfl rfl (Nat.le_of_ble_eq_true rfl) dX5_loudOf_69 (by decide) (fun r_1 hr_2 => ?_)
        replace hr_2 : r_1 = b1 (9 ≤ h ∧ h ≤ 11) := hr_2
        subst r_1
        refine lv_if_ne (tgt := 86) hx hb dX5_loudOf_72 (by decide) (fun c_72 => ?_) (fun c_72 => ?_)
        · replace c_72 := b1_n c_72
          refine lv_iconst (v := 2) hx hb dX5_loudOf_86 (by decide) ?_
          refine lv_iload_n hx hb dX5_loudOf_87 rfl (lv_at hl 0 rfl) ?_
          refine lv_imul hx hb dX5_loudOf_88 ?_
          refine lv_goto (tgt := 93) hx hb dX5_loudOf_89 (by decide) ?_
          refine rSi hx hb hr hlk ?_ dX5_loudOf_93
          show (2 * (dr_ (fg_ B k) h)) = _
          first | (rw [c_25_1]; rfl) | (rw [c_25_2]; rfl) | (rw [c_25_5]; rfl) | (rw [c_25_3]; show _ = (if (9 ≤ h ∧ h ≤ 11) ∨ (18 ≤ h ∧ h ≤ 20) then 2 * dr_ (fg_ B k) h else dr_ (fg_ B k) h); first | exact (if_pos (Or.inl c_72)).symm | exact (if_pos (Or.inr c_83)).symm | exact (if_neg (fun z => z.elim c_72 c_83)).symm) | (rw [c_25_4]; show _ = (if h = fg_ B k ∨ h = fg_ B k + 12 then (30 : Int32) else 0); first | exact (if_pos (Or.inl c_101)).symm | exact (if_pos (Or.inr c_114)).symm | exact (if_neg (fun z => z.elim c_101 c_114)).symm) | (rw [kd_z hkd c_25_1 c_25_2 c_25_3 c_25_4 c_25_5]; rfl)
        · replace c_72 := b1_z c_72
          refine lv_iload_n hx hb dX5_loudOf_75 rfl (lv_at hl 3 rfl) ?_
          refine lv_bipush (v := 18) hx hb dX5_loudOf_76 (by decide) ?_
          refine lv_bipush (v := 20) hx hb dX5_loudOf_78 (by decide) ?_
          refine kSiS hx hb hml hown hts hK hP gX5_loudOf_X5_isIn okX5_isIn (qX5_isIn l D cI cB h 18 20 ) [] rfl (by decide) hl.1 rfl rfl (Nat.le_of_ble_eq_true rfl) dX5_loudOf_80 (by decide) (fun r_3 hr_4 => ?_)
          replace hr_4 : r_3 = b1 (18 ≤ h ∧ h ≤ 20) := hr_4
          subst r_3
          refine lv_if_eq (tgt := 92) hx hb dX5_loudOf_83 (by decide) (fun c_83 => ?_) (fun c_83 => ?_)
          · replace c_83 := b1_z c_83
            refine lv_iload_n hx hb dX5_loudOf_92 rfl (lv_at hl 0 rfl) ?_
            refine rSi hx hb hr hlk ?_ dX5_loudOf_93
            show (dr_ (fg_ B k) h) = _
            first | (rw [c_25_1]; rfl) | (rw [c_25_2]; rfl) | (rw [c_25_5]; rfl) | (rw [c_25_3]; show _ = (if (9 ≤ h ∧ h ≤ 11) ∨ (18 ≤ h ∧ h ≤ 20) then 2 * dr_ (fg_ B k) h else dr_ (fg_ B k) h); first | exact (if_pos (Or.inl c_72)).symm | exact (if_pos (Or.inr c_83)).symm | exact (if_neg (fun z => z.elim c_72 c_83)).symm) | (rw [c_25_4]; show _ = (if h = fg_ B k ∨ h = fg_ B k + 12 then (30 : Int32) else 0); first | exact (if_pos (Or.inl c_101)).symm | exact (if_pos (Or.inr c_114)).symm | exact (if_neg (fun z => z.elim c_101 c_114)).symm) | (rw [kd_z hkd c_25_1 c_25_2 c_25_3 c_25_4 c_25_5]; rfl)
          · replace c_83 := b1_n c_83
            refine lv_iconst (v := 2) hx hb dX5_loudOf_86 (by decide) ?_
            refine lv_iload_n hx hb dX5_loudOf_87 rfl (lv_at hl 0 rfl) ?_
            refine lv_imul hx hb dX5_loudOf_88 ?_
            refine lv_goto (tgt := 93) hx hb dX5_loudOf_89 (by decide) ?_
            refine rSi hx hb hr hlk ?_ dX5_loudOf_93
            show (2 * (dr_ (fg_ B k) h)) = _
            first | (rw [c_25_1]; rfl) | (rw [c_25_2]; rfl) | (rw [c_25_5]; rfl) | (rw [c_25_3]; show _ = (if (9 ≤ h ∧ h ≤ 11) ∨ (18 ≤ h ∧ h ≤ 20) then 2 * dr_ (fg_ B k) h else dr_ (fg_ B k) h); first | exact (if_pos (Or.inl c_72)).symm | exact (if_pos (Or.inr c_83)).symm | exact (if_neg (fun z => z.elim c_72 c_83)).symm) | (rw [c_25_4]; show _ = (if h = fg_ B k ∨ h = fg_ B k + 12 then (30 : Int32) else 0); first | exact (if_pos (Or.inl c_101)).symm | exact (if_pos (Or.inr c_114)).symm | exact (if_neg (fun z => z.elim c_101 c_114)).symm) | (rw [kd_z hkd c_25_1 c_25_2 c_25_3 c_25_4 c_25_5]; rfl)
      by_cases c_25_4 : (kd_ B) k = 4
      · refine lv_tableIn (off := 69) (tgt := 94) hx hb dX5_loudOf_25 (by rw [c_25_4]; decide) (by rw [c_25_4]; decide) (by rw [c_25_4]; rfl) (by decide) ?_
        refine lv_iload_n hx hb dX5_loudOf_94 rfl (lv_at hl 3 rfl) ?_
        refine lv_aload_n hx hb dX5_loudOf_95 rfl (lv_at hl 1 rfl) ?_
        refine va_get (ci := 5) (C := RX5) (T := TX5) (N := 33) hx hb hts hinX5 hown hK.1 hP 0 rfl rfl 2 (by decide) (hts _ (List.mem_of_getElem? (i := 1) rfl)) (fun _ h9 => h9) rfl dX5_loudOf_96 ?_
        refine lv_iload_n hx hb dX5_loudOf_99 rfl (lv_at hl 2 rfl) ?_
        refine jald hx hb hK.1 hP 3 0 k rfl rfl rfl (by omega) (Nat.le_of_ble_eq_true rfl) dX5_loudOf_100 ?_
        refine lv_icmp_eq (tgt := 117) hx hb dX5_loudOf_101 (by decide) (fun c_101 => ?_) (fun c_101 => ?_)
        · skip
          refine lv_bipush (v := 30) hx hb dX5_loudOf_117 (by decide) ?_
          refine lv_goto (tgt := 123) hx hb dX5_loudOf_119 (by decide) ?_
          refine rSi hx hb hr hlk ?_ dX5_loudOf_123
          show 30 = _
          first | (rw [c_25_1]; rfl) | (rw [c_25_2]; rfl) | (rw [c_25_5]; rfl) | (rw [c_25_3]; show _ = (if (9 ≤ h ∧ h ≤ 11) ∨ (18 ≤ h ∧ h ≤ 20) then 2 * dr_ (fg_ B k) h else dr_ (fg_ B k) h); first | exact (if_pos (Or.inl c_72)).symm | exact (if_pos (Or.inr c_83)).symm | exact (if_neg (fun z => z.elim c_72 c_83)).symm) | (rw [c_25_4]; show _ = (if h = fg_ B k ∨ h = fg_ B k + 12 then (30 : Int32) else 0); first | exact (if_pos (Or.inl c_101)).symm | exact (if_pos (Or.inr c_114)).symm | exact (if_neg (fun z => z.elim c_101 c_114)).symm) | (rw [kd_z hkd c_25_1 c_25_2 c_25_3 c_25_4 c_25_5]; rfl)
        · skip
          refine lv_iload_n hx hb dX5_loudOf_104 rfl (lv_at hl 3 rfl) ?_
          refine lv_aload_n hx hb dX5_loudOf_105 rfl (lv_at hl 1 rfl) ?_
          refine va_get (ci := 5) (C := RX5) (T := TX5) (N := 33) hx hb hts hinX5 hown hK.1 hP 0 rfl rfl 2 (by decide) (hts _ (List.mem_of_getElem? (i := 1) rfl)) (fun _ h9 => h9) rfl dX5_loudOf_106 ?_
          refine lv_iload_n hx hb dX5_loudOf_109 rfl (lv_at hl 2 rfl) ?_
          refine jald hx hb hK.1 hP 3 0 k rfl rfl rfl (by omega) (Nat.le_of_ble_eq_true rfl) dX5_loudOf_110 ?_
          refine lv_bipush (v := 12) hx hb dX5_loudOf_111 (by decide) ?_
          refine lv_iadd hx hb dX5_loudOf_113 ?_
          refine lv_icmp_ne (tgt := 122) hx hb dX5_loudOf_114 (by decide) (fun c_114 => ?_) (fun c_114 => ?_)
          · skip
            refine lv_iconst (v := 0) hx hb dX5_loudOf_122 (by decide) ?_
            refine rSi hx hb hr hlk ?_ dX5_loudOf_123
            show 0 = _
            first | (rw [c_25_1]; rfl) | (rw [c_25_2]; rfl) | (rw [c_25_5]; rfl) | (rw [c_25_3]; show _ = (if (9 ≤ h ∧ h ≤ 11) ∨ (18 ≤ h ∧ h ≤ 20) then 2 * dr_ (fg_ B k) h else dr_ (fg_ B k) h); first | exact (if_pos (Or.inl c_72)).symm | exact (if_pos (Or.inr c_83)).symm | exact (if_neg (fun z => z.elim c_72 c_83)).symm) | (rw [c_25_4]; show _ = (if h = fg_ B k ∨ h = fg_ B k + 12 then (30 : Int32) else 0); first | exact (if_pos (Or.inl c_101)).symm | exact (if_pos (Or.inr c_114)).symm | exact (if_neg (fun z => z.elim c_101 c_114)).symm) | (rw [kd_z hkd c_25_1 c_25_2 c_25_3 c_25_4 c_25_5]; rfl)
          · skip
            refine lv_bipush (v := 30) hx hb dX5_loudOf_117 (by decide) ?_
            refine lv_goto (tgt := 123) hx hb dX5_loudOf_119 (by decide) ?_
            refine rSi hx hb hr hlk ?_ dX5_loudOf_123
            show 30 = _
            first | (rw [c_25_1]; rfl) | (rw [c_25_2]; rfl) | (rw [c_25_5]; rfl) | (rw [c_25_3]; show _ = (if (9 ≤ h ∧ h ≤ 11) ∨ (18 ≤ h ∧ h ≤ 20) then 2 * dr_ (fg_ B k) h else dr_ (fg_ B k) h); first | exact (if_pos (Or.inl c_72)).symm | exact (if_pos (Or.inr c_83)).symm | exact (if_neg (fun z => z.elim c_72 c_83)).symm) | (rw [c_25_4]; show _ = (if h = fg_ B k ∨ h = fg_ B k + 12 then (30 : Int32) else 0); first | exact (if_pos (Or.inl c_101)).symm | exact (if_pos (Or.inr c_114)).symm | exact (if_neg (fun z => z.elim c_101 c_114)).symm) | (rw [kd_z hkd c_25_1 c_25_2 c_25_3 c_25_4 c_25_5]; rfl)
      by_cases c_25_5 : (kd_ B) k = 5
      · refine lv_tableIn (off := 99) (tgt := 124) hx hb dX5_loudOf_25 (by rw [c_25_5]; decide) (by rw [c_25_5]; decide) (by rw [c_25_5]; rfl) (by decide) ?_
        refine lv_iconst (v := 1) hx hb dX5_loudOf_124 (by decide) ?_
        refine rSi hx hb hr hlk ?_ dX5_loudOf_125
        show 1 = _
        first | (rw [c_25_1]; rfl) | (rw [c_25_2]; rfl) | (rw [c_25_5]; rfl) | (rw [c_25_3]; show _ = (if (9 ≤ h ∧ h ≤ 11) ∨ (18 ≤ h ∧ h ≤ 20) then 2 * dr_ (fg_ B k) h else dr_ (fg_ B k) h); first | exact (if_pos (Or.inl c_72)).symm | exact (if_pos (Or.inr c_83)).symm | exact (if_neg (fun z => z.elim c_72 c_83)).symm) | (rw [c_25_4]; show _ = (if h = fg_ B k ∨ h = fg_ B k + 12 then (30 : Int32) else 0); first | exact (if_pos (Or.inl c_101)).symm | exact (if_pos (Or.inr c_114)).symm | exact (if_neg (fun z => z.elim c_101 c_114)).symm) | (rw [kd_z hkd c_25_1 c_25_2 c_25_3 c_25_4 c_25_5]; rfl)
      refine lv_tableOut (tgt := 126) hx hb dX5_loudOf_25 (by have t0 := lv_neT c_25_1 (a := 1) (by decide); have t1 := lv_neT c_25_2 (a := 2) (by decide); have t2 := lv_neT c_25_3 (a := 3) (by decide); have t3 := lv_neT c_25_4 (a := 4) (by decide); have t4 := lv_neT c_25_5 (a := 5) (by decide); omega) (by decide) ?_
      refine lv_aload_n hx hb dX5_loudOf_126 rfl (lv_at hl 1 rfl) ?_
      refine va_get (ci := 5) (C := RX5) (T := TX5) (N := 33) hx hb hts hinX5 hown hK.1 hP 0 rfl rfl 2 (by decide) (hts _ (List.mem_of_getElem? (i := 1) rfl)) (fun _ h9 => h9) rfl dX5_loudOf_127 ?_
      refine lv_iload_n hx hb dX5_loudOf_130 rfl (lv_at hl 2 rfl) ?_
      refine jald hx hb hK.1 hP 3 0 k rfl rfl rfl (by omega) (Nat.le_of_ble_eq_true rfl) dX5_loudOf_131 ?_
      refine rSi hx hb hr hlk ?_ dX5_loudOf_132
      show ((fg_ B) k) = _
      first | (rw [c_25_1]; rfl) | (rw [c_25_2]; rfl) | (rw [c_25_5]; rfl) | (rw [c_25_3]; show _ = (if (9 ≤ h ∧ h ≤ 11) ∨ (18 ≤ h ∧ h ≤ 20) then 2 * dr_ (fg_ B k) h else dr_ (fg_ B k) h); first | exact (if_pos (Or.inl c_72)).symm | exact (if_pos (Or.inr c_83)).symm | exact (if_neg (fun z => z.elim c_72 c_83)).symm) | (rw [c_25_4]; show _ = (if h = fg_ B k ∨ h = fg_ B k + 12 then (30 : Int32) else 0); first | exact (if_pos (Or.inl c_101)).symm | exact (if_pos (Or.inr c_114)).symm | exact (if_neg (fun z => z.elim c_101 c_114)).symm) | (rw [kd_z hkd c_25_1 c_25_2 c_25_3 c_25_4 c_25_5]; rfl)
  refine lv_iload_n hx hb dX5_loudOf_0 rfl (lv_at hl 2 rfl) ?_
  refine lv_iconst (v := 2) hx hb dX5_loudOf_1 (by decide) ?_
  refine lv_irem hx hb dX5_loudOf_2 (by decide) ?_
  refine lv_if_ne (tgt := 17) hx hb dX5_loudOf_3 (by decide) (fun c_3 => ?_) (fun c_3 => ?_)
  · skip
    refine lv_iconst (v := 0) hx hb dX5_loudOf_17 (by decide) ?_
    refine lv_istore_n (lv' := [(3, .int 0), (0, .ref (r 0)), (1, .int (nI k)), (2, .int h)]) hx hb dX5_loudOf_18 rfl hl (by decide) rfl (fun ls hl => ?_)
    exact jn_19  0  (by unfold dr_; first | rw [if_pos (by assumption)] | rw [if_neg (by assumption)])   ls (lv_sub hl [0, 1, 2, 3] rfl)
  · skip
    refine lv_aload_n hx hb dX5_loudOf_6 rfl (lv_at hl 0 rfl) ?_
    refine va_get (ci := 5) (C := RX5) (T := TX5) (N := 33) hx hb hts hinX5 hown hK.1 hP 0 rfl rfl 2 (by decide) (hts _ (List.mem_of_getElem? (i := 1) rfl)) (fun _ h9 => h9) rfl dX5_loudOf_7 ?_
    refine lv_iload_n hx hb dX5_loudOf_10 rfl (lv_at hl 1 rfl) ?_
    refine jald hx hb hK.1 hP 3 0 k rfl rfl rfl (by omega) (Nat.le_of_ble_eq_true rfl) dX5_loudOf_11 ?_
    refine lv_iconst (v := 3) hx hb dX5_loudOf_12 (by decide) ?_
    refine lv_iadd hx hb dX5_loudOf_13 ?_
    refine lv_goto (tgt := 18) hx hb dX5_loudOf_14 (by decide) ?_
    refine lv_istore_n (lv' := [(3, .int (((fg_ B) k) + 3)), (0, .ref (r 0)), (1, .int (nI k)), (2, .int h)]) hx hb dX5_loudOf_18 rfl hl (by decide) rfl (fun ls hl => ?_)
    exact jn_19  (((fg_ B) k) + 3)  (by unfold dr_; first | rw [if_pos (by assumption)] | rw [if_neg (by assumption)])   ls (lv_sub hl [0, 1, 2, 3] rfl)

theorem okX5_costsOf : jok yX5_costsOf wsX5_costsOf cX5_costsOf 2 (some .int) 1 := ⟨⟨_, rfl⟩, by decide +kernel, by decide +kernel⟩
set_option maxHeartbeats 1000000 in
set_option maxRecDepth 100000 in
theorem qX5_costsOf (l : Launch) (D : va_G) (cI cB : ClassId) (r : Nat → Nat) (B : BayT) (M : MT) (k : Nat) (hk : k < 7) : jSi D cI cB l yX5_costsOf wsX5_costsOf 0 [.ref (r 0), .int (nI k)] (mW cI r B M) (fun r => r = co_ (kd_ B k) (fg_ B k)) := by
  refine jSi.of (cc := cX5_costsOf) (maxL := 2) (ret := (some .int)) okX5_costsOf (Nat.le_of_ble_eq_true rfl) ?_
  intro p e s m below meth c ls hx hb hr hts hown hlk hml hP hK hl
  replace hown : s.vm.findClass RX5 = some m.cls := hown
  replace hl : lv_has ls 2 [(0, .ref (r 0)), (1, .int (nI k))] := hl
  have hinX5 : ∀ w ∈ wsX50, w ∈ wsX5_costsOf := by decide +kernel
  refine lv_aload_n hx hb dX5_costsOf_0 rfl (lv_at hl 0 rfl) ?_
  refine va_get (ci := 5) (C := RX5) (T := TX5) (N := 33) hx hb hts hinX5 hown hK.1 hP 0 rfl rfl 1 (by decide) (hts _ (List.mem_of_getElem? (i := 1) rfl)) (fun _ h9 => h9) rfl dX5_costsOf_1 ?_
  refine lv_iload_n hx hb dX5_costsOf_4 rfl (lv_at hl 1 rfl) ?_
  refine jald hx hb hK.1 hP 2 0 k rfl rfl rfl (by omega) (Nat.le_of_ble_eq_true rfl) dX5_costsOf_5 ?_
  refine lv_iconst (v := 4) hx hb dX5_costsOf_6 (by decide) ?_
  refine lv_icmp_ne (tgt := 14) hx hb dX5_costsOf_7 (by decide) (fun c_7 => ?_) (fun c_7 => ?_)
  · skip
    refine lv_aload_n hx hb dX5_costsOf_14 rfl (lv_at hl 0 rfl) ?_
    refine va_get (ci := 5) (C := RX5) (T := TX5) (N := 33) hx hb hts hinX5 hown hK.1 hP 0 rfl rfl 1 (by decide) (hts _ (List.mem_of_getElem? (i := 1) rfl)) (fun _ h9 => h9) rfl dX5_costsOf_15 ?_
    refine lv_iload_n hx hb dX5_costsOf_18 rfl (lv_at hl 1 rfl) ?_
    refine jald hx hb hK.1 hP 2 0 k rfl rfl rfl (by omega) (Nat.le_of_ble_eq_true rfl) dX5_costsOf_19 ?_
    refine lv_iconst (v := 1) hx hb dX5_costsOf_20 (by decide) ?_
    refine lv_icmp_eq (tgt := 34) hx hb dX5_costsOf_21 (by decide) (fun c_21 => ?_) (fun c_21 => ?_)
    · skip
      refine lv_aload_n hx hb dX5_costsOf_34 rfl (lv_at hl 0 rfl) ?_
      refine va_get (ci := 5) (C := RX5) (T := TX5) (N := 33) hx hb hts hinX5 hown hK.1 hP 0 rfl rfl 2 (by decide) (hts _ (List.mem_of_getElem? (i := 2) rfl)) (fun _ h9 => h9) rfl dX5_costsOf_35 ?_
      refine lv_iload_n hx hb dX5_costsOf_38 rfl (lv_at hl 1 rfl) ?_
      refine jald hx hb hK.1 hP 3 0 k rfl rfl rfl (by omega) (Nat.le_of_ble_eq_true rfl) dX5_costsOf_39 ?_
      refine lv_bipush (v := 7) hx hb dX5_costsOf_40 (by decide) ?_
      refine lv_icmp_lt (tgt := 49) hx hb dX5_costsOf_42 (by decide) (fun c_42 => ?_) (fun c_42 => ?_)
      · have d_42 := Int32.not_le.mpr c_42
        refine lv_iconst (v := 0) hx hb dX5_costsOf_49 (by decide) ?_
        refine rSi hx hb hr hlk ?_ dX5_costsOf_50
        show 0 = _
        unfold co_; first | (rw [if_pos c_7]; done) | (rw [if_neg c_7]; first | (rw [if_pos ⟨Or.inl c_21, d_42⟩]; done) | (rw [if_pos ⟨Or.inr c_31, d_42⟩]; done) | (rw [if_neg (fun z => absurd z.2 d_42)]; done) | (rw [if_neg (fun z => z.1.elim c_21 c_31)]; done))
      · have d_42 := Int32.not_lt.mp c_42
        refine lv_iconst (v := 1) hx hb dX5_costsOf_45 (by decide) ?_
        refine lv_goto (tgt := 50) hx hb dX5_costsOf_46 (by decide) ?_
        refine rSi hx hb hr hlk ?_ dX5_costsOf_50
        show 1 = _
        unfold co_; first | (rw [if_pos c_7]; done) | (rw [if_neg c_7]; first | (rw [if_pos ⟨Or.inl c_21, d_42⟩]; done) | (rw [if_pos ⟨Or.inr c_31, d_42⟩]; done) | (rw [if_neg (fun z => absurd z.2 d_42)]; done) | (rw [if_neg (fun z => z.1.elim c_21 c_31)]; done))
    · skip
      refine lv_aload_n hx hb dX5_costsOf_24 rfl (lv_at hl 0 rfl) ?_
      refine va_get (ci := 5) (C := RX5) (T := TX5) (N := 33) hx hb hts hinX5 hown hK.1 hP 0 rfl rfl 1 (by decide) (hts _ (List.mem_of_getElem? (i := 1) rfl)) (fun _ h9 => h9) rfl dX5_costsOf_25 ?_
      refine lv_iload_n hx hb dX5_costsOf_28 rfl (lv_at hl 1 rfl) ?_
      refine jald hx hb hK.1 hP 2 0 k rfl rfl rfl (by omega) (Nat.le_of_ble_eq_true rfl) dX5_costsOf_29 ?_
      refine lv_iconst (v := 3) hx hb dX5_costsOf_30 (by decide) ?_
      refine lv_icmp_ne (tgt := 49) hx hb dX5_costsOf_31 (by decide) (fun c_31 => ?_) (fun c_31 => ?_)
      · skip
        refine lv_iconst (v := 0) hx hb dX5_costsOf_49 (by decide) ?_
        refine rSi hx hb hr hlk ?_ dX5_costsOf_50
        show 0 = _
        unfold co_; first | (rw [if_pos c_7]; done) | (rw [if_neg c_7]; first | (rw [if_pos ⟨Or.inl c_21, d_42⟩]; done) | (rw [if_pos ⟨Or.inr c_31, d_42⟩]; done) | (rw [if_neg (fun z => absurd z.2 d_42)]; done) | (rw [if_neg (fun z => z.1.elim c_21 c_31)]; done))
      · skip
        refine lv_aload_n hx hb dX5_costsOf_34 rfl (lv_at hl 0 rfl) ?_
        refine va_get (ci := 5) (C := RX5) (T := TX5) (N := 33) hx hb hts hinX5 hown hK.1 hP 0 rfl rfl 2 (by decide) (hts _ (List.mem_of_getElem? (i := 2) rfl)) (fun _ h9 => h9) rfl dX5_costsOf_35 ?_
        refine lv_iload_n hx hb dX5_costsOf_38 rfl (lv_at hl 1 rfl) ?_
        refine jald hx hb hK.1 hP 3 0 k rfl rfl rfl (by omega) (Nat.le_of_ble_eq_true rfl) dX5_costsOf_39 ?_
        refine lv_bipush (v := 7) hx hb dX5_costsOf_40 (by decide) ?_
        refine lv_icmp_lt (tgt := 49) hx hb dX5_costsOf_42 (by decide) (fun c_42 => ?_) (fun c_42 => ?_)
        · have d_42 := Int32.not_le.mpr c_42
          refine lv_iconst (v := 0) hx hb dX5_costsOf_49 (by decide) ?_
          refine rSi hx hb hr hlk ?_ dX5_costsOf_50
          show 0 = _
          unfold co_; first | (rw [if_pos c_7]; done) | (rw [if_neg c_7]; first | (rw [if_pos ⟨Or.inl c_21, d_42⟩]; done) | (rw [if_pos ⟨Or.inr c_31, d_42⟩]; done) | (rw [if_neg (fun z => absurd z.2 d_42)]; done) | (rw [if_neg (fun z => z.1.elim c_21 c_31)]; done))
        · have d_42 := Int32.not_lt.mp c_42
          refine lv_iconst (v := 1) hx hb dX5_costsOf_45 (by decide) ?_
          refine lv_goto (tgt := 50) hx hb dX5_costsOf_46 (by decide) ?_
          refine rSi hx hb hr hlk ?_ dX5_costsOf_50
          show 1 = _
          unfold co_; first | (rw [if_pos c_7]; done) | (rw [if_neg c_7]; first | (rw [if_pos ⟨Or.inl c_21, d_42⟩]; done) | (rw [if_pos ⟨Or.inr c_31, d_42⟩]; done) | (rw [if_neg (fun z => absurd z.2 d_42)]; done) | (rw [if_neg (fun z => z.1.elim c_21 c_31)]; done))
  · skip
    refine lv_iconst (v := 5) hx hb dX5_costsOf_10 (by decide) ?_
    refine lv_goto (tgt := 50) hx hb dX5_costsOf_11 (by decide) ?_
    refine rSi hx hb hr hlk ?_ dX5_costsOf_50
    show 5 = _
    unfold co_; first | (rw [if_pos c_7]; done) | (rw [if_neg c_7]; first | (rw [if_pos ⟨Or.inl c_21, d_42⟩]; done) | (rw [if_pos ⟨Or.inr c_31, d_42⟩]; done) | (rw [if_neg (fun z => absurd z.2 d_42)]; done) | (rw [if_neg (fun z => z.1.elim c_21 c_31)]; done))

theorem okX5_noiseOf : jok yX5_noiseOf wsX5_noiseOf cX5_noiseOf 3 (some .int) 2 := ⟨⟨_, rfl⟩, by decide +kernel, by decide +kernel⟩
set_option maxHeartbeats 1000000 in
set_option maxRecDepth 100000 in
theorem qX5_noiseOf (l : Launch) (D : va_G) (cI cB : ClassId) (r : Nat → Nat) (B : BayT) (M : MT) (k : Nat) (h : Int32) (hk : k < 7) (hkd : 0 ≤ kd_ B k ∧ kd_ B k ≤ 5) : jSi D cI cB l yX5_noiseOf wsX5_noiseOf 2 [.ref (r 0), .int (nI k), .int h] (mW cI r B M) (fun r => r = no_ B k h) := by
  refine jSi.of (cc := cX5_noiseOf) (maxL := 3) (ret := (some .int)) okX5_noiseOf (Nat.le_of_ble_eq_true rfl) ?_
  intro p e s m below meth c ls hx hb hr hts hown hlk hml hP hK hl
  replace hown : s.vm.findClass RX5 = some m.cls := hown
  replace hl : lv_has ls 3 [(0, .ref (r 0)), (1, .int (nI k)), (2, .int h)] := hl
  have hinX5 : ∀ w ∈ wsX50, w ∈ wsX5_noiseOf := by decide +kernel
  refine lv_aload_n hx hb dX5_noiseOf_0 rfl (lv_at hl 0 rfl) ?_
  refine va_get (ci := 5) (C := RX5) (T := TX5) (N := 33) hx hb hts hinX5 hown hK.1 hP 0 rfl rfl 7 (by decide) (hts _ (List.mem_of_getElem? (i := 1) rfl)) (fun _ h9 => h9) rfl dX5_noiseOf_1 ?_
  refine lv_iload_n hx hb dX5_noiseOf_4 rfl (lv_at hl 1 rfl) ?_
  refine kSiS hx hb hml hown hts hK hP gX5_noiseOf_X5_has okX5_has (qX5_has l D cI cB (qt_ B) k ) [] rfl (by decide) hl.1 rfl rfl (Nat.le_of_ble_eq_true rfl) dX5_noiseOf_5 (by decide) (fun r_1 hr_2 => ?_)
  replace hr_2 : r_1 = b1 (qb_ (qt_ B) k = 1) := hr_2
  subst r_1
  refine lv_if_ne (tgt := 38) hx hb dX5_noiseOf_8 (by decide) (fun c_8 => ?_) (fun c_8 => ?_)
  · replace c_8 := b1_n c_8
    refine lv_iconst (v := 0) hx hb dX5_noiseOf_38 (by decide) ?_
    refine lv_goto (tgt := 48) hx hb dX5_noiseOf_39 (by decide) ?_
    refine rSi hx hb hr hlk ?_ dX5_noiseOf_48
    show 0 = _
    unfold no_; first | (rw [if_pos (Or.inl c_8)]; done) | (rw [if_pos (Or.inr (Or.inr c_22))]; done) | (rw [if_pos (Or.inr (Or.inl c_35))]; done) | (rw [if_neg (fun z => z.elim c_8 (fun z => z.elim c_35 c_22))]; done)
  · replace c_8 := b1_z c_8
    refine lv_aload_n hx hb dX5_noiseOf_11 rfl (lv_at hl 0 rfl) ?_
    refine va_get (ci := 5) (C := RX5) (T := TX5) (N := 33) hx hb hts hinX5 hown hK.1 hP 0 rfl rfl 4 (by decide) (hts _ (List.mem_of_getElem? (i := 2) rfl)) (fun _ h9 => h9) rfl dX5_noiseOf_12 ?_
    refine lv_iload_n hx hb dX5_noiseOf_15 rfl (lv_at hl 1 rfl) ?_
    refine jald hx hb hK.1 hP 5 0 k rfl rfl rfl (by omega) (Nat.le_of_ble_eq_true rfl) dX5_noiseOf_16 ?_
    refine lv_aload_n hx hb dX5_noiseOf_17 rfl (lv_at hl 0 rfl) ?_
    refine lv_iload_n hx hb dX5_noiseOf_18 rfl (lv_at hl 1 rfl) ?_
    refine kSiV hx hb hml hown hts hK hP gX5_noiseOf_X5_costsOf okX5_costsOf (qX5_costsOf l D cI cB r B M k (by omega)) [0, 1, 2, 3, 4, 5, 6, 7, 8, 9, 10, 11, 12, 13, 14, 15] rfl rfl rfl rfl (by decide) hl.1 rfl rfl (Nat.le_of_ble_eq_true rfl) dX5_noiseOf_19 (by decide) (fun r_3 hr_4 => ?_)
    replace hr_4 : r_3 = co_ (kd_ B k) (fg_ B k) := hr_4
    subst r_3
    refine lv_icmp_lt (tgt := 38) hx hb dX5_noiseOf_22 (by decide) (fun c_22 => ?_) (fun c_22 => ?_)
    · have d_22 := Int32.not_le.mpr c_22
      refine lv_iconst (v := 0) hx hb dX5_noiseOf_38 (by decide) ?_
      refine lv_goto (tgt := 48) hx hb dX5_noiseOf_39 (by decide) ?_
      refine rSi hx hb hr hlk ?_ dX5_noiseOf_48
      show 0 = _
      unfold no_; first | (rw [if_pos (Or.inl c_8)]; done) | (rw [if_pos (Or.inr (Or.inr c_22))]; done) | (rw [if_pos (Or.inr (Or.inl c_35))]; done) | (rw [if_neg (fun z => z.elim c_8 (fun z => z.elim c_35 c_22))]; done)
    · have d_22 := Int32.not_lt.mp c_22
      refine lv_aload_n hx hb dX5_noiseOf_25 rfl (lv_at hl 0 rfl) ?_
      refine va_get (ci := 5) (C := RX5) (T := TX5) (N := 33) hx hb hts hinX5 hown hK.1 hP 0 rfl rfl 3 (by decide) (hts _ (List.mem_of_getElem? (i := 3) rfl)) (fun _ h9 => h9) rfl dX5_noiseOf_26 ?_
      refine lv_iload_n hx hb dX5_noiseOf_29 rfl (lv_at hl 1 rfl) ?_
      refine jald hx hb hK.1 hP 4 0 k rfl rfl rfl (by omega) (Nat.le_of_ble_eq_true rfl) dX5_noiseOf_30 ?_
      refine lv_aload_n hx hb dX5_noiseOf_31 rfl (lv_at hl 0 rfl) ?_
      refine va_get (ci := 5) (C := RX5) (T := TX5) (N := 33) hx hb hts hinX5 hown hK.1 hP 0 rfl rfl 8 (by decide) (hts _ (List.mem_of_getElem? (i := 4) rfl)) (fun _ h9 => h9) rfl dX5_noiseOf_32 ?_
      refine lv_icmp_ne (tgt := 42) hx hb dX5_noiseOf_35 (by decide) (fun c_35 => ?_) (fun c_35 => ?_)
      · skip
        refine lv_aload_n hx hb dX5_noiseOf_42 rfl (lv_at hl 0 rfl) ?_
        refine lv_iload_n hx hb dX5_noiseOf_43 rfl (lv_at hl 1 rfl) ?_
        refine lv_iload_n hx hb dX5_noiseOf_44 rfl (lv_at hl 2 rfl) ?_
        refine kSiV hx hb hml hown hts hK hP gX5_noiseOf_X5_loudOf okX5_loudOf (qX5_loudOf l D cI cB r B M k h (by omega) (by omega)) [0, 1, 2, 3, 4, 5, 6, 7, 8, 9, 10, 11, 12, 13, 14, 15] rfl rfl rfl rfl (by decide) hl.1 rfl rfl (Nat.le_of_ble_eq_true rfl) dX5_noiseOf_45 (by decide) (fun r_5 hr_6 => ?_)
        replace hr_6 : r_5 = ld_ (kd_ B k) (fg_ B k) h := hr_6
        subst r_5
        refine rSi hx hb hr hlk ?_ dX5_noiseOf_48
        show (ld_ (kd_ B k) (fg_ B k) h) = _
        unfold no_; first | (rw [if_pos (Or.inl c_8)]; done) | (rw [if_pos (Or.inr (Or.inr c_22))]; done) | (rw [if_pos (Or.inr (Or.inl c_35))]; done) | (rw [if_neg (fun z => z.elim c_8 (fun z => z.elim c_35 c_22))]; done)
      · skip
        refine lv_iconst (v := 0) hx hb dX5_noiseOf_38 (by decide) ?_
        refine lv_goto (tgt := 48) hx hb dX5_noiseOf_39 (by decide) ?_
        refine rSi hx hb hr hlk ?_ dX5_noiseOf_48
        show 0 = _
        unfold no_; first | (rw [if_pos (Or.inl c_8)]; done) | (rw [if_pos (Or.inr (Or.inr c_22))]; done) | (rw [if_pos (Or.inr (Or.inl c_35))]; done) | (rw [if_neg (fun z => z.elim c_8 (fun z => z.elim c_35 c_22))]; done)

theorem okX5_isLouder : jok yX5_isLouder wsX5_isLouder cX5_isLouder 5 (some .boolean) 3 := ⟨⟨_, rfl⟩, by decide +kernel, by decide +kernel⟩
set_option maxHeartbeats 1000000 in
set_option maxRecDepth 100000 in
theorem qX5_isLouder (l : Launch) (D : va_G) (cI cB : ClassId) (r : Nat → Nat) (B : BayT) (M : MT) (k : Nat) (t : Nat) (h : Int32) (hI : bI_ B) (hk : k < sn_ B) (ht : t < sn_ B) : jSi D cI cB l yX5_isLouder wsX5_isLouder 3 [.ref (r 0), .int (nI k), .int (nI t), .int h] (mW cI r B M) (fun r => r = b1 (no_ B t h < no_ B k h ∨ (no_ B k h = no_ B t h ∧ di_ B k < di_ B t))) := by
  refine jSi.of (cc := cX5_isLouder) (maxL := 5) (ret := (some .boolean)) okX5_isLouder (Nat.le_of_ble_eq_true rfl) ?_
  intro p e s m below meth c ls hx hb hr hts hown hlk hml hP hK hl
  replace hown : s.vm.findClass RX5 = some m.cls := hown
  replace hl : lv_has ls 5 [(0, .ref (r 0)), (1, .int (nI k)), (2, .int (nI t)), (3, .int h)] := hl
  have hn7 := hI.1
  have zk := hI.2.1 k hk
  have zt := hI.2.1 t ht
  have il := hI.2.2.2.2.1
  have hlou := louder_eq (h := h) hI hk ht
  have hinX5 : ∀ w ∈ wsX50, w ∈ wsX5_isLouder := by decide +kernel
  refine lv_aload_n hx hb dX5_isLouder_0 rfl (lv_at hl 0 rfl) ?_
  refine lv_iload_n hx hb dX5_isLouder_1 rfl (lv_at hl 1 rfl) ?_
  refine lv_iload_n hx hb dX5_isLouder_2 rfl (lv_at hl 3 rfl) ?_
  refine kSiV hx hb hml hown hts hK hP gX5_isLouder_X5_noiseOf okX5_noiseOf (qX5_noiseOf l D cI cB r B M k h (by omega) zk.1) [0, 1, 2, 3, 4, 5, 6, 7, 8, 9, 10, 11, 12, 13, 14, 15] rfl rfl rfl rfl (by decide) hl.1 rfl rfl (Nat.le_of_ble_eq_true rfl) dX5_isLouder_3 (by decide) (fun r_1 hr_2 => ?_)
  replace hr_2 : r_1 = no_ B k h := hr_2
  subst r_1
  refine lv_aload_n hx hb dX5_isLouder_6 rfl (lv_at hl 0 rfl) ?_
  refine lv_iload_n hx hb dX5_isLouder_7 rfl (lv_at hl 2 rfl) ?_
  refine lv_iload_n hx hb dX5_isLouder_8 rfl (lv_at hl 3 rfl) ?_
  refine kSiV hx hb hml hown hts hK hP gX5_isLouder_X5_noiseOf okX5_noiseOf (qX5_noiseOf l D cI cB r B M t h (by omega) zt.1) [0, 1, 2, 3, 4, 5, 6, 7, 8, 9, 10, 11, 12, 13, 14, 15] rfl rfl rfl rfl (by decide) hl.1 rfl rfl (Nat.le_of_ble_eq_true rfl) dX5_isLouder_9 (by decide) (fun r_3 hr_4 => ?_)
  replace hr_4 : r_3 = no_ B t h := hr_4
  subst r_3
  refine lv_isub hx hb dX5_isLouder_12 ?_
  refine lv_istore (lv' := [(4, .int ((no_ B k h) - (no_ B t h))), (0, .ref (r 0)), (1, .int (nI k)), (2, .int (nI t)), (3, .int h)]) hx hb dX5_isLouder_13 hl (by decide) rfl (fun ls hl => ?_)
  refine lv_iload hx hb dX5_isLouder_15 (lv_at hl 0 rfl) ?_
  refine lv_if_gt (tgt := 54) hx hb dX5_isLouder_17 (by decide) (fun c_17 => ?_) (fun c_17 => ?_)
  · have d_17 := Int32.not_le.mpr c_17
    refine lv_iconst (v := 1) hx hb dX5_isLouder_54 (by decide) ?_
    refine lv_goto (tgt := 59) hx hb dX5_isLouder_55 (by decide) ?_
    refine rSz hx hb hr hlk (Or.inr rfl) ?_ dX5_isLouder_59
    show 1 = _
    first | exact (b1_t (hlou.mpr (Or.inl c_17))).symm | exact (b1_t (hlou.mpr (Or.inr ⟨c_22, d_51⟩))).symm | exact (b1_f (fun z => (hlou.mp z).elim c_17 (fun w => c_22 w.1))).symm | exact (b1_f (fun z => (hlou.mp z).elim c_17 (fun w => absurd w.2 d_51))).symm
  · have d_17 := Int32.not_lt.mp c_17
    refine lv_iload hx hb dX5_isLouder_20 (lv_at hl 0 rfl) ?_
    refine lv_if_ne (tgt := 58) hx hb dX5_isLouder_22 (by decide) (fun c_22 => ?_) (fun c_22 => ?_)
    · skip
      refine lv_iconst (v := 0) hx hb dX5_isLouder_58 (by decide) ?_
      refine rSz hx hb hr hlk (Or.inl rfl) ?_ dX5_isLouder_59
      show 0 = _
      first | exact (b1_t (hlou.mpr (Or.inl c_17))).symm | exact (b1_t (hlou.mpr (Or.inr ⟨c_22, d_51⟩))).symm | exact (b1_f (fun z => (hlou.mp z).elim c_17 (fun w => c_22 w.1))).symm | exact (b1_f (fun z => (hlou.mp z).elim c_17 (fun w => absurd w.2 d_51))).symm
    · skip
      refine lv_aload_n hx hb dX5_isLouder_25 rfl (lv_at hl 1 rfl) ?_
      refine va_get (ci := 5) (C := RX5) (T := TX5) (N := 33) hx hb hts hinX5 hown hK.1 hP 0 rfl rfl 3 (by decide) (hts _ (List.mem_of_getElem? (i := 1) rfl)) (fun _ h9 => h9) rfl dX5_isLouder_26 ?_
      refine lv_iload_n hx hb dX5_isLouder_29 rfl (lv_at hl 2 rfl) ?_
      refine jald hx hb hK.1 hP 4 0 k rfl rfl rfl (by omega) (Nat.le_of_ble_eq_true rfl) dX5_isLouder_30 ?_
      refine lv_aload_n hx hb dX5_isLouder_31 rfl (lv_at hl 1 rfl) ?_
      refine va_get (ci := 5) (C := RX5) (T := TX5) (N := 33) hx hb hts hinX5 hown hK.1 hP 0 rfl rfl 8 (by decide) (hts _ (List.mem_of_getElem? (i := 2) rfl)) (fun _ h9 => h9) rfl dX5_isLouder_32 ?_
      refine kSiS hx hb hml hown hts hK hP gX5_isLouder_X5_far okX5_far (qX5_far l D cI cB ((pl_ B) k) (il_ B) ) [] rfl (by decide) hl.1 rfl rfl (Nat.le_of_ble_eq_true rfl) dX5_isLouder_35 (by decide) (fun r_5 hr_6 => ?_)
      replace hr_6 : r_5 = fr_ ((pl_ B) k) (il_ B) := hr_6
      subst r_5
      refine lv_aload_n hx hb dX5_isLouder_38 rfl (lv_at hl 1 rfl) ?_
      refine va_get (ci := 5) (C := RX5) (T := TX5) (N := 33) hx hb hts hinX5 hown hK.1 hP 0 rfl rfl 3 (by decide) (hts _ (List.mem_of_getElem? (i := 1) rfl)) (fun _ h9 => h9) rfl dX5_isLouder_39 ?_
      refine lv_iload_n hx hb dX5_isLouder_42 rfl (lv_at hl 3 rfl) ?_
      refine jald hx hb hK.1 hP 4 0 t rfl rfl rfl (by omega) (Nat.le_of_ble_eq_true rfl) dX5_isLouder_43 ?_
      refine lv_aload_n hx hb dX5_isLouder_44 rfl (lv_at hl 1 rfl) ?_
      refine va_get (ci := 5) (C := RX5) (T := TX5) (N := 33) hx hb hts hinX5 hown hK.1 hP 0 rfl rfl 8 (by decide) (hts _ (List.mem_of_getElem? (i := 2) rfl)) (fun _ h9 => h9) rfl dX5_isLouder_45 ?_
      refine kSiS hx hb hml hown hts hK hP gX5_isLouder_X5_far okX5_far (qX5_far l D cI cB ((pl_ B) t) (il_ B) ) [] rfl (by decide) hl.1 rfl rfl (Nat.le_of_ble_eq_true rfl) dX5_isLouder_48 (by decide) (fun r_7 hr_8 => ?_)
      replace hr_8 : r_7 = fr_ ((pl_ B) t) (il_ B) := hr_8
      subst r_7
      refine lv_icmp_ge (tgt := 58) hx hb dX5_isLouder_51 (by decide) (fun c_51 => ?_) (fun c_51 => ?_)
      · have d_51 := Int32.not_lt.mpr c_51
        refine lv_iconst (v := 0) hx hb dX5_isLouder_58 (by decide) ?_
        refine rSz hx hb hr hlk (Or.inl rfl) ?_ dX5_isLouder_59
        show 0 = _
        first | exact (b1_t (hlou.mpr (Or.inl c_17))).symm | exact (b1_t (hlou.mpr (Or.inr ⟨c_22, d_51⟩))).symm | exact (b1_f (fun z => (hlou.mp z).elim c_17 (fun w => c_22 w.1))).symm | exact (b1_f (fun z => (hlou.mp z).elim c_17 (fun w => absurd w.2 d_51))).symm
      · have d_51 := Int32.not_le.mp c_51
        refine lv_iconst (v := 1) hx hb dX5_isLouder_54 (by decide) ?_
        refine lv_goto (tgt := 59) hx hb dX5_isLouder_55 (by decide) ?_
        refine rSz hx hb hr hlk (Or.inr rfl) ?_ dX5_isLouder_59
        show 1 = _
        first | exact (b1_t (hlou.mpr (Or.inl c_17))).symm | exact (b1_t (hlou.mpr (Or.inr ⟨c_22, d_51⟩))).symm | exact (b1_f (fun z => (hlou.mp z).elim c_17 (fun w => c_22 w.1))).symm | exact (b1_f (fun z => (hlou.mp z).elim c_17 (fun w => absurd w.2 d_51))).symm

