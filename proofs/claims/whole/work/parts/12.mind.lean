theorem okX0_become : jok yX0_become wsX0_become cX0_become 2 none 1 := ⟨⟨_, rfl⟩, by decide +kernel, by decide +kernel⟩
set_option maxHeartbeats 1000000 in
set_option maxRecDepth 100000 in
theorem qX0_become (l : Launch) (D : va_G) (cI cB : ClassId) (g : Nat → Nat) (i0 : Nat) (j0 : Nat) (B : BayT) (C : BayT)  : jMv D cI cB l yX0_become wsX0_become 1 [.ref (g i0), .ref (g j0)] (bW cI g i0 B ++ bW cI g j0 C) (S := BayT) (fun u => u = C) (fun u => bW cI g i0 u ++ bW cI g j0 C) := by
  refine jMv.of (cc := cX0_become) (maxL := 2) (ret := none) okX0_become (Nat.le_of_ble_eq_true rfl) ?_
  intro p e s m below meth c ls A hx hb hr hts hown hlk hml hP hK hD hA hS hl
  replace hown : s.vm.findClass RX0 = some m.cls := hown
  replace hl : lv_has ls 2 [(0, .ref (g i0)), (1, .ref (g j0))] := hl
  have hinX0 : ∀ w ∈ wsX00, w ∈ wsX0_become := by decide +kernel
  refine lv_aload_n hx hb dX0_become_0 rfl (lv_at hl 1 rfl) ?_
  refine va_get (ci := 0) (C := RX0) (T := TX0) (N := 11) hx hb hts hinX0 hown hK.1 hP 6 rfl rfl 0 (by decide) (hts _ (List.mem_of_getElem? (i := 1) rfl)) (fun _ h9 => h9) rfl dX0_become_1 ?_
  refine lv_iconst (v := 0) hx hb dX0_become_4 (by decide) ?_
  refine lv_aload_n hx hb dX0_become_5 rfl (lv_at hl 0 rfl) ?_
  refine va_get (ci := 0) (C := RX0) (T := TX0) (N := 11) hx hb hts hinX0 hown hK.1 hP 0 rfl rfl 0 (by decide) (hts _ (List.mem_of_getElem? (i := 1) rfl)) (fun _ h9 => h9) rfl dX0_become_6 ?_
  refine lv_iconst (v := 0) hx hb dX0_become_9 (by decide) ?_
  refine lv_bipush (v := 7) hx hb dX0_become_10 (by decide) ?_
  refine va_copyi (ty := .int) hx hb (hml.trans hl.1.symm) hown (hts _ (List.mem_of_getElem? (i := 2) rfl)) (hts _ (List.mem_of_getElem? (i := 3) rfl)) (hts _ (List.mem_of_getElem? (i := 4) rfl)) (hts _ (List.mem_of_getElem? (i := 5) rfl)) hK.1 hP hD hS 7 1 0 0 rfl rfl rfl rfl rfl (by decide) (by decide) (by decide) (by decide) (by decide) (fun _ _ => rfl) (by decide) (Nat.le_of_ble_eq_true rfl) dX0_become_12 (fun H locs hP hD hS => ?_)
  replace hP := va_P.cong (g := kd_ C) hP 1 rfl (fun j hj => by simp only [va_cpy]; rw [if_pos (by show _ ∧ _; exact ⟨Nat.zero_le _, by simpa using hj⟩)]; simp)
  replace hP : va_P D vwCl (bW cI g i0 (mkB (kd_ C) (fg_ B) (pl_ B) (pw_ B) (jy_ B) (qt_ B) (sn_ B) (il_ B) (pa_ B) (ho_ B) (dy_ B)) ++ bW cI g j0 C) H := hP
  replace hD : va_D A (bW cI g i0 (mkB (kd_ C) (fg_ B) (pl_ B) (pw_ B) (jy_ B) (qt_ B) (sn_ B) (il_ B) (pa_ B) (ho_ B) (dy_ B)) ++ bW cI g j0 C) := va_D.adr hD rfl
  refine lv_aload_n hx hb dX0_become_15 rfl (lv_at hl 1 rfl) ?_
  refine va_get (ci := 0) (C := RX0) (T := TX0) (N := 11) hx hb hts hinX0 hown hK.1 hP 6 rfl rfl 1 (by decide) (hts _ (List.mem_of_getElem? (i := 6) rfl)) (fun _ h9 => h9) rfl dX0_become_16 ?_
  refine lv_iconst (v := 0) hx hb dX0_become_19 (by decide) ?_
  refine lv_aload_n hx hb dX0_become_20 rfl (lv_at hl 0 rfl) ?_
  refine va_get (ci := 0) (C := RX0) (T := TX0) (N := 11) hx hb hts hinX0 hown hK.1 hP 0 rfl rfl 1 (by decide) (hts _ (List.mem_of_getElem? (i := 6) rfl)) (fun _ h9 => h9) rfl dX0_become_21 ?_
  refine lv_iconst (v := 0) hx hb dX0_become_24 (by decide) ?_
  refine lv_bipush (v := 7) hx hb dX0_become_25 (by decide) ?_
  refine va_copyi (ty := .int) hx hb (hml.trans hl.1.symm) hown (hts _ (List.mem_of_getElem? (i := 2) rfl)) (hts _ (List.mem_of_getElem? (i := 3) rfl)) (hts _ (List.mem_of_getElem? (i := 4) rfl)) (hts _ (List.mem_of_getElem? (i := 5) rfl)) hK.1 hP hD hS 8 2 0 0 rfl rfl rfl rfl rfl (by decide) (by decide) (by decide) (by decide) (by decide) (fun _ _ => rfl) (by decide) (Nat.le_of_ble_eq_true rfl) dX0_become_27 (fun H locs hP hD hS => ?_)
  replace hP := va_P.cong (g := fg_ C) hP 2 rfl (fun j hj => by simp only [va_cpy]; rw [if_pos (by show _ ∧ _; exact ⟨Nat.zero_le _, by simpa using hj⟩)]; simp)
  replace hP : va_P D vwCl (bW cI g i0 (mkB (kd_ C) (fg_ C) (pl_ B) (pw_ B) (jy_ B) (qt_ B) (sn_ B) (il_ B) (pa_ B) (ho_ B) (dy_ B)) ++ bW cI g j0 C) H := hP
  replace hD : va_D A (bW cI g i0 (mkB (kd_ C) (fg_ C) (pl_ B) (pw_ B) (jy_ B) (qt_ B) (sn_ B) (il_ B) (pa_ B) (ho_ B) (dy_ B)) ++ bW cI g j0 C) := va_D.adr hD rfl
  refine lv_aload_n hx hb dX0_become_30 rfl (lv_at hl 1 rfl) ?_
  refine va_get (ci := 0) (C := RX0) (T := TX0) (N := 11) hx hb hts hinX0 hown hK.1 hP 6 rfl rfl 2 (by decide) (hts _ (List.mem_of_getElem? (i := 7) rfl)) (fun _ h9 => h9) rfl dX0_become_31 ?_
  refine lv_iconst (v := 0) hx hb dX0_become_34 (by decide) ?_
  refine lv_aload_n hx hb dX0_become_35 rfl (lv_at hl 0 rfl) ?_
  refine va_get (ci := 0) (C := RX0) (T := TX0) (N := 11) hx hb hts hinX0 hown hK.1 hP 0 rfl rfl 2 (by decide) (hts _ (List.mem_of_getElem? (i := 7) rfl)) (fun _ h9 => h9) rfl dX0_become_36 ?_
  refine lv_iconst (v := 0) hx hb dX0_become_39 (by decide) ?_
  refine lv_bipush (v := 7) hx hb dX0_become_40 (by decide) ?_
  refine va_copyi (ty := .int) hx hb (hml.trans hl.1.symm) hown (hts _ (List.mem_of_getElem? (i := 2) rfl)) (hts _ (List.mem_of_getElem? (i := 3) rfl)) (hts _ (List.mem_of_getElem? (i := 4) rfl)) (hts _ (List.mem_of_getElem? (i := 5) rfl)) hK.1 hP hD hS 9 3 0 0 rfl rfl rfl rfl rfl (by decide) (by decide) (by decide) (by decide) (by decide) (fun _ _ => rfl) (by decide) (Nat.le_of_ble_eq_true rfl) dX0_become_42 (fun H locs hP hD hS => ?_)
  replace hP := va_P.cong (g := pl_ C) hP 3 rfl (fun j hj => by simp only [va_cpy]; rw [if_pos (by show _ ∧ _; exact ⟨Nat.zero_le _, by simpa using hj⟩)]; simp)
  replace hP : va_P D vwCl (bW cI g i0 (mkB (kd_ C) (fg_ C) (pl_ C) (pw_ B) (jy_ B) (qt_ B) (sn_ B) (il_ B) (pa_ B) (ho_ B) (dy_ B)) ++ bW cI g j0 C) H := hP
  replace hD : va_D A (bW cI g i0 (mkB (kd_ C) (fg_ C) (pl_ C) (pw_ B) (jy_ B) (qt_ B) (sn_ B) (il_ B) (pa_ B) (ho_ B) (dy_ B)) ++ bW cI g j0 C) := va_D.adr hD rfl
  refine lv_aload_n hx hb dX0_become_45 rfl (lv_at hl 1 rfl) ?_
  refine va_get (ci := 0) (C := RX0) (T := TX0) (N := 11) hx hb hts hinX0 hown hK.1 hP 6 rfl rfl 3 (by decide) (hts _ (List.mem_of_getElem? (i := 8) rfl)) (fun _ h9 => h9) rfl dX0_become_46 ?_
  refine lv_iconst (v := 0) hx hb dX0_become_49 (by decide) ?_
  refine lv_aload_n hx hb dX0_become_50 rfl (lv_at hl 0 rfl) ?_
  refine va_get (ci := 0) (C := RX0) (T := TX0) (N := 11) hx hb hts hinX0 hown hK.1 hP 0 rfl rfl 3 (by decide) (hts _ (List.mem_of_getElem? (i := 8) rfl)) (fun _ h9 => h9) rfl dX0_become_51 ?_
  refine lv_iconst (v := 0) hx hb dX0_become_54 (by decide) ?_
  refine lv_bipush (v := 7) hx hb dX0_become_55 (by decide) ?_
  refine va_copyi (ty := .int) hx hb (hml.trans hl.1.symm) hown (hts _ (List.mem_of_getElem? (i := 2) rfl)) (hts _ (List.mem_of_getElem? (i := 3) rfl)) (hts _ (List.mem_of_getElem? (i := 4) rfl)) (hts _ (List.mem_of_getElem? (i := 5) rfl)) hK.1 hP hD hS 10 4 0 0 rfl rfl rfl rfl rfl (by decide) (by decide) (by decide) (by decide) (by decide) (fun _ _ => rfl) (by decide) (Nat.le_of_ble_eq_true rfl) dX0_become_57 (fun H locs hP hD hS => ?_)
  replace hP := va_P.cong (g := pw_ C) hP 4 rfl (fun j hj => by simp only [va_cpy]; rw [if_pos (by show _ ∧ _; exact ⟨Nat.zero_le _, by simpa using hj⟩)]; simp)
  replace hP : va_P D vwCl (bW cI g i0 (mkB (kd_ C) (fg_ C) (pl_ C) (pw_ C) (jy_ B) (qt_ B) (sn_ B) (il_ B) (pa_ B) (ho_ B) (dy_ B)) ++ bW cI g j0 C) H := hP
  replace hD : va_D A (bW cI g i0 (mkB (kd_ C) (fg_ C) (pl_ C) (pw_ C) (jy_ B) (qt_ B) (sn_ B) (il_ B) (pa_ B) (ho_ B) (dy_ B)) ++ bW cI g j0 C) := va_D.adr hD rfl
  refine lv_aload_n hx hb dX0_become_60 rfl (lv_at hl 1 rfl) ?_
  refine va_get (ci := 0) (C := RX0) (T := TX0) (N := 11) hx hb hts hinX0 hown hK.1 hP 6 rfl rfl 4 (by decide) (hts _ (List.mem_of_getElem? (i := 9) rfl)) (fun _ h9 => h9) rfl dX0_become_61 ?_
  refine lv_iconst (v := 0) hx hb dX0_become_64 (by decide) ?_
  refine lv_aload_n hx hb dX0_become_65 rfl (lv_at hl 0 rfl) ?_
  refine va_get (ci := 0) (C := RX0) (T := TX0) (N := 11) hx hb hts hinX0 hown hK.1 hP 0 rfl rfl 4 (by decide) (hts _ (List.mem_of_getElem? (i := 9) rfl)) (fun _ h9 => h9) rfl dX0_become_66 ?_
  refine lv_iconst (v := 0) hx hb dX0_become_69 (by decide) ?_
  refine lv_bipush (v := 7) hx hb dX0_become_70 (by decide) ?_
  refine va_copyi (ty := .int) hx hb (hml.trans hl.1.symm) hown (hts _ (List.mem_of_getElem? (i := 2) rfl)) (hts _ (List.mem_of_getElem? (i := 3) rfl)) (hts _ (List.mem_of_getElem? (i := 4) rfl)) (hts _ (List.mem_of_getElem? (i := 5) rfl)) hK.1 hP hD hS 11 5 0 0 rfl rfl rfl rfl rfl (by decide) (by decide) (by decide) (by decide) (by decide) (fun _ _ => rfl) (by decide) (Nat.le_of_ble_eq_true rfl) dX0_become_72 (fun H locs hP hD hS => ?_)
  replace hP := va_P.cong (g := jy_ C) hP 5 rfl (fun j hj => by simp only [va_cpy]; rw [if_pos (by show _ ∧ _; exact ⟨Nat.zero_le _, by simpa using hj⟩)]; simp)
  replace hP : va_P D vwCl (bW cI g i0 (mkB (kd_ C) (fg_ C) (pl_ C) (pw_ C) (jy_ C) (qt_ B) (sn_ B) (il_ B) (pa_ B) (ho_ B) (dy_ B)) ++ bW cI g j0 C) H := hP
  replace hD : va_D A (bW cI g i0 (mkB (kd_ C) (fg_ C) (pl_ C) (pw_ C) (jy_ C) (qt_ B) (sn_ B) (il_ B) (pa_ B) (ho_ B) (dy_ B)) ++ bW cI g j0 C) := va_D.adr hD rfl
  refine lv_aload_n hx hb dX0_become_75 rfl (lv_at hl 0 rfl) ?_
  refine lv_aload_n hx hb dX0_become_76 rfl (lv_at hl 1 rfl) ?_
  refine va_get (ci := 0) (C := RX0) (T := TX0) (N := 11) hx hb hts hinX0 hown hK.1 hP 6 rfl rfl 5 (by decide) (hts _ (List.mem_of_getElem? (i := 10) rfl)) (fun _ h9 => h9) rfl dX0_become_77 ?_
  refine lv_topi (fun y_1 ey_1 => ?_)
  replace ey_1 : y_1 = qt_ C := ey_1
  refine va_put (ci := 0) (ty := .int) (C := RX0) (T := TX0) (N := 11) hx hb hts hinX0 tyX0 tyX0_ok nmX0 hown hK.1 hP hD hS 0 rfl rfl 5 (by decide) (hts _ (List.mem_of_getElem? (i := 10) rfl)) (fun _ h9 => h9) rfl (by decide +kernel) (rfl) (rfl) (Nat.le_of_ble_eq_true rfl) dX0_become_80 (fun H locs hP hD hS => ?_)
  replace hP : va_P D vwCl (bW cI g i0 (mkB (kd_ C) (fg_ C) (pl_ C) (pw_ C) (jy_ C) y_1 (sn_ B) (il_ B) (pa_ B) (ho_ B) (dy_ B)) ++ bW cI g j0 C) H := hP
  replace hD : va_D A (bW cI g i0 (mkB (kd_ C) (fg_ C) (pl_ C) (pw_ C) (jy_ C) y_1 (sn_ B) (il_ B) (pa_ B) (ho_ B) (dy_ B)) ++ bW cI g j0 C) := hD
  refine lv_aload_n hx hb dX0_become_83 rfl (lv_at hl 0 rfl) ?_
  refine lv_aload_n hx hb dX0_become_84 rfl (lv_at hl 1 rfl) ?_
  refine va_get (ci := 0) (C := RX0) (T := TX0) (N := 11) hx hb hts hinX0 hown hK.1 hP 6 rfl rfl 6 (by decide) (hts _ (List.mem_of_getElem? (i := 11) rfl)) (fun _ h9 => h9) rfl dX0_become_85 ?_
  refine va_put (ci := 0) (ty := .int) (C := RX0) (T := TX0) (N := 11) hx hb hts hinX0 tyX0 tyX0_ok nmX0 hown hK.1 hP hD hS 0 rfl rfl 6 (by decide) (hts _ (List.mem_of_getElem? (i := 11) rfl)) (fun _ h9 => h9) rfl (by decide +kernel) (rfl) (rfl) (Nat.le_of_ble_eq_true rfl) dX0_become_88 (fun H locs hP hD hS => ?_)
  replace hP : va_P D vwCl (bW cI g i0 (mkB (kd_ C) (fg_ C) (pl_ C) (pw_ C) (jy_ C) y_1 (sn_ C) (il_ B) (pa_ B) (ho_ B) (dy_ B)) ++ bW cI g j0 C) H := hP
  replace hD : va_D A (bW cI g i0 (mkB (kd_ C) (fg_ C) (pl_ C) (pw_ C) (jy_ C) y_1 (sn_ C) (il_ B) (pa_ B) (ho_ B) (dy_ B)) ++ bW cI g j0 C) := hD
  refine lv_aload_n hx hb dX0_become_91 rfl (lv_at hl 0 rfl) ?_
  refine lv_aload_n hx hb dX0_become_92 rfl (lv_at hl 1 rfl) ?_
  refine va_get (ci := 0) (C := RX0) (T := TX0) (N := 11) hx hb hts hinX0 hown hK.1 hP 6 rfl rfl 7 (by decide) (hts _ (List.mem_of_getElem? (i := 12) rfl)) (fun _ h9 => h9) rfl dX0_become_93 ?_
  refine lv_topi (fun y_2 ey_2 => ?_)
  replace ey_2 : y_2 = il_ C := ey_2
  refine va_put (ci := 0) (ty := .int) (C := RX0) (T := TX0) (N := 11) hx hb hts hinX0 tyX0 tyX0_ok nmX0 hown hK.1 hP hD hS 0 rfl rfl 7 (by decide) (hts _ (List.mem_of_getElem? (i := 12) rfl)) (fun _ h9 => h9) rfl (by decide +kernel) (rfl) (rfl) (Nat.le_of_ble_eq_true rfl) dX0_become_96 (fun H locs hP hD hS => ?_)
  replace hP : va_P D vwCl (bW cI g i0 (mkB (kd_ C) (fg_ C) (pl_ C) (pw_ C) (jy_ C) y_1 (sn_ C) y_2 (pa_ B) (ho_ B) (dy_ B)) ++ bW cI g j0 C) H := hP
  replace hD : va_D A (bW cI g i0 (mkB (kd_ C) (fg_ C) (pl_ C) (pw_ C) (jy_ C) y_1 (sn_ C) y_2 (pa_ B) (ho_ B) (dy_ B)) ++ bW cI g j0 C) := hD
  refine lv_aload_n hx hb dX0_become_99 rfl (lv_at hl 0 rfl) ?_
  refine lv_aload_n hx hb dX0_become_100 rfl (lv_at hl 1 rfl) ?_
  refine va_get (ci := 0) (C := RX0) (T := TX0) (N := 11) hx hb hts hinX0 hown hK.1 hP 6 rfl rfl 8 (by decide) (hts _ (List.mem_of_getElem? (i := 13) rfl)) (fun _ h9 => h9) rfl dX0_become_101 ?_
  refine lv_topi (fun y_3 ey_3 => ?_)
  replace ey_3 : y_3 = pa_ C := ey_3
  refine va_put (ci := 0) (ty := .int) (C := RX0) (T := TX0) (N := 11) hx hb hts hinX0 tyX0 tyX0_ok nmX0 hown hK.1 hP hD hS 0 rfl rfl 8 (by decide) (hts _ (List.mem_of_getElem? (i := 13) rfl)) (fun _ h9 => h9) rfl (by decide +kernel) (rfl) (rfl) (Nat.le_of_ble_eq_true rfl) dX0_become_104 (fun H locs hP hD hS => ?_)
  replace hP : va_P D vwCl (bW cI g i0 (mkB (kd_ C) (fg_ C) (pl_ C) (pw_ C) (jy_ C) y_1 (sn_ C) y_2 y_3 (ho_ B) (dy_ B)) ++ bW cI g j0 C) H := hP
  replace hD : va_D A (bW cI g i0 (mkB (kd_ C) (fg_ C) (pl_ C) (pw_ C) (jy_ C) y_1 (sn_ C) y_2 y_3 (ho_ B) (dy_ B)) ++ bW cI g j0 C) := hD
  refine lv_aload_n hx hb dX0_become_107 rfl (lv_at hl 0 rfl) ?_
  refine lv_aload_n hx hb dX0_become_108 rfl (lv_at hl 1 rfl) ?_
  refine va_get (ci := 0) (C := RX0) (T := TX0) (N := 11) hx hb hts hinX0 hown hK.1 hP 6 rfl rfl 9 (by decide) (hts _ (List.mem_of_getElem? (i := 14) rfl)) (fun _ h9 => h9) rfl dX0_become_109 ?_
  refine lv_topi (fun y_4 ey_4 => ?_)
  replace ey_4 : y_4 = ho_ C := ey_4
  refine va_put (ci := 0) (ty := .int) (C := RX0) (T := TX0) (N := 11) hx hb hts hinX0 tyX0 tyX0_ok nmX0 hown hK.1 hP hD hS 0 rfl rfl 9 (by decide) (hts _ (List.mem_of_getElem? (i := 14) rfl)) (fun _ h9 => h9) rfl (by decide +kernel) (rfl) (rfl) (Nat.le_of_ble_eq_true rfl) dX0_become_112 (fun H locs hP hD hS => ?_)
  replace hP : va_P D vwCl (bW cI g i0 (mkB (kd_ C) (fg_ C) (pl_ C) (pw_ C) (jy_ C) y_1 (sn_ C) y_2 y_3 y_4 (dy_ B)) ++ bW cI g j0 C) H := hP
  replace hD : va_D A (bW cI g i0 (mkB (kd_ C) (fg_ C) (pl_ C) (pw_ C) (jy_ C) y_1 (sn_ C) y_2 y_3 y_4 (dy_ B)) ++ bW cI g j0 C) := hD
  refine lv_aload_n hx hb dX0_become_115 rfl (lv_at hl 0 rfl) ?_
  refine lv_aload_n hx hb dX0_become_116 rfl (lv_at hl 1 rfl) ?_
  refine va_get (ci := 0) (C := RX0) (T := TX0) (N := 11) hx hb hts hinX0 hown hK.1 hP 6 rfl rfl 10 (by decide) (hts _ (List.mem_of_getElem? (i := 15) rfl)) (fun _ h9 => h9) rfl dX0_become_117 ?_
  refine lv_topi (fun y_5 ey_5 => ?_)
  replace ey_5 : y_5 = dy_ C := ey_5
  refine va_put (ci := 0) (ty := .int) (C := RX0) (T := TX0) (N := 11) hx hb hts hinX0 tyX0 tyX0_ok nmX0 hown hK.1 hP hD hS 0 rfl rfl 10 (by decide) (hts _ (List.mem_of_getElem? (i := 15) rfl)) (fun _ h9 => h9) rfl (by decide +kernel) (rfl) (rfl) (Nat.le_of_ble_eq_true rfl) dX0_become_120 (fun H locs hP hD hS => ?_)
  replace hP : va_P D vwCl (bW cI g i0 (mkB (kd_ C) (fg_ C) (pl_ C) (pw_ C) (jy_ C) y_1 (sn_ C) y_2 y_3 y_4 y_5) ++ bW cI g j0 C) H := hP
  replace hD : va_D A (bW cI g i0 (mkB (kd_ C) (fg_ C) (pl_ C) (pw_ C) (jy_ C) y_1 (sn_ C) y_2 y_3 y_4 y_5) ++ bW cI g j0 C) := hD
  (try rw [ey_5] at hP); (try rw [ey_5] at hD); (try rw [ey_5] at hl); (try rw [ey_5])
  (try rw [ey_4] at hP); (try rw [ey_4] at hD); (try rw [ey_4] at hl); (try rw [ey_4])
  (try rw [ey_3] at hP); (try rw [ey_3] at hD); (try rw [ey_3] at hl); (try rw [ey_3])
  (try rw [ey_2] at hP); (try rw [ey_2] at hD); (try rw [ey_2] at hl); (try rw [ey_2])
  (try rw [ey_1] at hP); (try rw [ey_1] at hD); (try rw [ey_1] at hl); (try rw [ey_1])
  refine rMv hx hb hr hlk hS (mkB (kd_ C) (fg_ C) (pl_ C) (pw_ C) (jy_ C) (qt_ C) (sn_ C) (il_ C) (pa_ C) (ho_ C) (dy_ C)) hP ?_ dX0_become_123
  rfl

theorem okX2_asNow : jok yX2_asNow wsX2_asNow cX2_asNow 1 (some (.object "TowardTheLoudest$Bay")) 0 := ⟨⟨_, rfl⟩, by decide +kernel, by decide +kernel⟩
set_option maxHeartbeats 1000000 in
set_option maxRecDepth 100000 in
theorem qX2_asNow (l : Launch) (D : va_G) (cI cB : ClassId) (g : Nat → Nat) (B : BayT) (T : BayT)  : jMr D cI cB l yX2_asNow wsX2_asNow 2 [.ref (g 1)] (miO g ++ bW cI g 4 B ++ bW cI g 10 T) (S := BayT) (fun u => u = B) (g 10) (fun u => miO g ++ bW cI g 4 B ++ bW cI g 10 u) := by
  refine jMr.of (cc := cX2_asNow) (maxL := 1) (ret := (some (.object "TowardTheLoudest$Bay"))) okX2_asNow (Nat.le_of_ble_eq_true rfl) ?_
  intro p e s m below meth c ls A hx hb hr hts hown hlk hml hP hK hD hA hS hl
  replace hown : s.vm.findClass RX2 = some m.cls := hown
  replace hl : lv_has ls 1 [(0, .ref (g 1))] := hl
  have hinX2 : ∀ w ∈ wsX20, w ∈ wsX2_asNow := by decide +kernel
  refine lv_aload_n hx hb dX2_asNow_0 rfl (lv_at hl 0 rfl) ?_
  refine va_get (ci := 2) (C := RX2) (T := TX2) (N := 4) hx hb hts hinX2 hown hK.1 hP 0 rfl rfl 1 (by decide) (hts _ (List.mem_of_getElem? (i := 1) rfl)) (fun _ h9 => h9) rfl dX2_asNow_1 ?_
  refine lv_aload_n hx hb dX2_asNow_4 rfl (lv_at hl 0 rfl) ?_
  refine va_get (ci := 2) (C := RX2) (T := TX2) (N := 4) hx hb hts hinX2 hown hK.1 hP 0 rfl rfl 0 (by decide) (hts _ (List.mem_of_getElem? (i := 2) rfl)) (fun _ h9 => h9) rfl dX2_asNow_5 ?_
  refine kMvN hx hb hml hown hts hK hP hD hA hS gX2_asNow_X0_become_n28 (hK.2 _ (List.mem_of_getElem? (i := 33) rfl)) (hts _ (List.mem_of_getElem? (i := 4) rfl)) (hts _ (List.mem_of_getElem? (i := 3) rfl)) (hts _ (List.mem_of_getElem? (i := 5) rfl)) okX0_become (qX0_become l D cI cB g 10 4 T B ) [7, 8, 9, 10, 11, 12, 1, 2, 3, 4, 5, 6] rfl (by decide) (fun _ => rfl) rfl rfl rfl (by decide) hl.1 rfl rfl (Nat.le_of_ble_eq_true rfl) dX2_asNow_8 (by decide) (fun u_2 H locs hw_3 hP hD hS => ?_)
  replace hw_3 : u_2 = B := hw_3
  subst u_2
  replace hP : va_P D vwCl (miO g ++ bW cI g 4 B ++ bW cI g 10 B) H := hP
  replace hD : va_D A (miO g ++ bW cI g 4 B ++ bW cI g 10 B) := hD
  refine lv_aload_n hx hb dX2_asNow_11 rfl (lv_at hl 0 rfl) ?_
  refine va_get (ci := 2) (C := RX2) (T := TX2) (N := 4) hx hb hts hinX2 hown hK.1 hP 0 rfl rfl 1 (by decide) (hts _ (List.mem_of_getElem? (i := 1) rfl)) (fun _ h9 => h9) rfl dX2_asNow_12 ?_
  refine rMr hx hb hr hlk hS B hP ?_ dX2_asNow_15
  rfl

theorem okX2_after : jok yX2_after wsX2_after cX2_after 3 (some (.object "TowardTheLoudest$Bay")) 1 := ⟨⟨_, rfl⟩, by decide +kernel, by decide +kernel⟩
set_option maxHeartbeats 1000000 in
set_option maxRecDepth 100000 in
theorem qX2_after (l : Launch) (D : va_G) (cI cB : ClassId) (g : Nat → Nat) (B : BayT) (T : BayT) (n : Nat) (hn7 : sn_ B ≤ 7) (hn : n ≤ 99) : jMr D cI cB l yX2_after wsX2_after 5 [.ref (g 1), .int (nI n)] (miO g ++ bW cI g 4 B ++ bW cI g 10 T) (S := BayT) (fun u => u = hs_ n B) (g 10) (fun u => miO g ++ bW cI g 4 B ++ bW cI g 10 u) := by
  refine jMr.of (cc := cX2_after) (maxL := 3) (ret := (some (.object "TowardTheLoudest$Bay"))) okX2_after (Nat.le_of_ble_eq_true rfl) ?_
  intro p e s m below meth c ls A hx hb hr hts hown hlk hml hP hK hD hA hS hl
  replace hown : s.vm.findClass RX2 = some m.cls := hown
  replace hl : lv_has ls 3 [(0, .ref (g 1)), (1, .int (nI n))] := hl
  refine lv_aload_n hx hb dX2_after_0 rfl (lv_at hl 0 rfl) ?_
  refine kMrV hx hb hml hown hts hK hP hD hA hS gX2_after_X2_asNow okX2_asNow (qX2_asNow l D cI cB g B T ) [0, 1, 2, 3, 4, 5, 6, 7, 8, 9, 10, 11, 12] rfl (by decide) (fun _ => rfl) rfl rfl rfl (by decide) hl.1 rfl rfl (Nat.le_of_ble_eq_true rfl) dX2_after_1 (by decide) (fun u_2 H locs hw_3 hP hD hS => ?_)
  replace hw_3 : u_2 = B := hw_3
  subst u_2
  replace hP : va_P D vwCl (miO g ++ bW cI g 4 B ++ bW cI g 10 (B)) H := hP
  replace hD : va_D A (miO g ++ bW cI g 4 B ++ bW cI g 10 (B)) := hD
  refine lv_astore_n (lv' := [(2, .ref (g 10)), (0, .ref (g 1)), (1, .int (nI n))]) hx hb dX2_after_4 rfl hl (by decide) rfl (fun ls hl => ?_)
  refine lv_aload_n hx hb dX2_after_5 rfl (lv_at hl 0 rfl) ?_
  refine lv_iload_n hx hb dX2_after_6 rfl (lv_at hl 2 rfl) ?_
  refine kMvN hx hb hml hown hts hK hP hD hA hS gX2_after_X0_passHours_n36 (hK.2 _ (List.mem_of_getElem? (i := 82) rfl)) (hts _ (List.mem_of_getElem? (i := 9) rfl)) (hts _ (List.mem_of_getElem? (i := 27) rfl)) (hts _ (List.mem_of_getElem? (i := 28) rfl)) okX0_passHours (qX0_passHours l D cI cB g 10 (B) n (by show sn_ (B) ≤ 7; omega) (by omega)) [7, 8, 9, 10, 11, 12] rfl (by decide) (fun _ => rfl) rfl rfl rfl (by decide) hl.1 rfl rfl (Nat.le_of_ble_eq_true rfl) dX2_after_7 (by decide) (fun u_5 H locs hw_6 hP hD hS => ?_)
  replace hw_6 : u_5 = hs_ n (B) := hw_6
  subst u_5
  replace hP : va_P D vwCl (miO g ++ bW cI g 4 B ++ bW cI g 10 (hs_ n (B))) H := hP
  replace hD : va_D A (miO g ++ bW cI g 4 B ++ bW cI g 10 (hs_ n (B))) := hD
  refine lv_aload_n hx hb dX2_after_10 rfl (lv_at hl 0 rfl) ?_
  refine rMr hx hb hr hlk hS (hs_ n (B)) hP ?_ dX2_after_11
  first | rfl | exact ⟨rfl, rfl⟩

theorem okX2_timesFromHere : jok yX2_timesFromHere wsX2_timesFromHere cX2_timesFromHere 5 (some .int) 2 := ⟨⟨_, rfl⟩, by decide +kernel, by decide +kernel⟩
set_option maxHeartbeats 1000000 in
set_option maxRecDepth 100000 in
theorem qX2_timesFromHere (l : Launch) (D : va_G) (cI cB : ClassId) (g : Nat → Nat) (B : BayT) (T : BayT) (k : Nat) (n : Nat) (hn7 : sn_ B ≤ 7) (hT7 : sn_ T ≤ 7) (hk : k < 7) (hn : n ≤ 99) : jMi D cI cB l yX2_timesFromHere wsX2_timesFromHere 4 [.ref (g 1), .int (nI k), .int (nI n)] (miO g ++ bW cI g 4 B ++ bW cI g 10 T) (S := BayT) (fun r u => r = tc_ T k n ∧ u = hs_ n T) (fun u => miO g ++ bW cI g 4 B ++ bW cI g 10 u) := by
  refine jMi.of (cc := cX2_timesFromHere) (maxL := 5) (ret := (some .int)) okX2_timesFromHere (Nat.le_of_ble_eq_true rfl) ?_
  intro p e s m below meth c ls A hx hb hr hts hown hlk hml hP hK hD hA hS hl
  replace hown : s.vm.findClass RX2 = some m.cls := hown
  replace hl : lv_has ls 5 [(0, .ref (g 1)), (1, .int (nI k)), (2, .int (nI n))] := hl
  have hinX2 : ∀ w ∈ wsX20, w ∈ wsX2_timesFromHere := by decide +kernel
  refine lv_iconst (v := 0) hx hb dX2_timesFromHere_0 (by decide) ?_
  refine lv_istore_n (lv' := [(3, .int 0), (0, .ref (g 1)), (1, .int (nI k)), (2, .int (nI n))]) hx hb dX2_timesFromHere_1 rfl hl (by decide) rfl (fun ls hl => ?_)
  refine lv_iconst (v := 0) hx hb dX2_timesFromHere_2 (by decide) ?_
  refine lv_istore (lv' := [(4, .int 0), (3, .int 0), (0, .ref (g 1)), (1, .int (nI k)), (2, .int (nI n))]) hx hb dX2_timesFromHere_3 hl (by decide) rfl (fun ls hl => ?_)
  have lp_5 : ∀ (fu_5 : Nat) (i : Nat) (x3_5 : Int32) (x4_5 : Int32) (T2 : BayT), (x3_5 = tc_ T k i) → (x4_5 = nI i) → (T2 = hs_ i T) → (i ≤ n) → n - i < fu_5 → ∀ (H : Heap) (locs : List Loc), va_P D vwCl (miO g ++ bW cI g 4 B ++ bW cI g 10 T2) H → va_D A (miO g ++ bW cI g 4 B ++ bW cI g 10 T2) → va_S A s.heap H locs → ∀ ls : Array Slot, lv_has ls 5 [(4, .int x4_5), (3, .int x3_5), (0, .ref (g 1)), (1, .int (nI k)), (2, .int (nI n))] → W p l e (jR 4) s m ([.ref (g 1), .int (nI k), .int (nI n)] : List Value).toArray below meth c H locs 0 0 (MQ below (va_Qi (S := BayT) (fun r u => r = tc_ T k n ∧ u = hs_ n T) (fun u t => va_P D vwCl ((fun u => miO g ++ bW cI g 4 B ++ bW cI g 10 u) u) t.heap) A) ([.ref (g 1), .int (nI k), .int (nI n)] : List Value).toArray s 0 0 A) (F0 m 5 ls []) := by
    intro fu_5
    induction fu_5 with
    | zero => intro i x3_5 x4_5 T2 hx3_5 hx4_5 hT2 hi hfu; exact absurd hfu (Nat.not_lt_zero _)
    | succ fu_5 ih_5 =>
      intro i x3_5 x4_5 T2 hx3_5 hx4_5 hT2 hi hfu_5 H locs hP hD hS ls hl
      subst x3_5
      subst x4_5
      subst T2
      replace hl : lv_has ls 5 [(4, .int (nI i)), (3, .int (tc_ T k i)), (0, .ref (g 1)), (1, .int (nI k)), (2, .int (nI n))] := hl
      replace hP : va_P D vwCl (miO g ++ bW cI g 4 B ++ bW cI g 10 (hs_ i T)) H := hP
      replace hD : va_D A (miO g ++ bW cI g 4 B ++ bW cI g 10 (hs_ i T)) := hD
      refine lv_iload hx hb dX2_timesFromHere_5 (lv_at hl 0 rfl) ?_
      refine lv_iload_n hx hb dX2_timesFromHere_7 rfl (lv_at hl 4 rfl) ?_
      refine lv_icmp_ge (tgt := 39) hx hb dX2_timesFromHere_8 (by decide) (fun c_8 => ?_) (fun c_8 => ?_)
      · replace c_8 : nI n ≤ nI i := c_8
        rw [jle (by omega) (by omega)] at c_8
        refine lv_iload_n hx hb dX2_timesFromHere_39 rfl (lv_at hl 1 rfl) ?_
        refine rMi hx hb hr hlk hS (hs_ i T) hP ?_ dX2_timesFromHere_40
        have e9 : i = n := by omega
        subst e9; exact ⟨rfl, rfl⟩
      · replace c_8 : ¬ nI n ≤ nI i := c_8
        rw [jle (by omega) (by omega)] at c_8
        refine lv_aload_n hx hb dX2_timesFromHere_11 rfl (lv_at hl 2 rfl) ?_
        refine va_get (ci := 2) (C := RX2) (T := TX2) (N := 4) hx hb hts hinX2 hown hK.1 hP 0 rfl rfl 1 (by decide) (hts _ (List.mem_of_getElem? (i := 1) rfl)) (fun _ h9 => h9) rfl dX2_timesFromHere_12 ?_
        refine lv_iconst (v := 0) hx hb dX2_timesFromHere_15 (by decide) ?_
        refine kMvN hx hb hml hown hts hK hP hD hA hS gX2_timesFromHere_X0_passHour_n40 (hK.2 _ (List.mem_of_getElem? (i := 85) rfl)) (hts _ (List.mem_of_getElem? (i := 3) rfl)) (hts _ (List.mem_of_getElem? (i := 2) rfl)) (hts _ (List.mem_of_getElem? (i := 4) rfl)) okX0_passHour (qX0_passHour l D cI cB g 10 (hs_ i T) False inferInstance (by show sn_ (hs_ _ _) ≤ 7; rw [sn_hs]; omega)) [7, 8, 9, 10, 11, 12] rfl (by decide) (fun _ => rfl) rfl rfl rfl (by decide) hl.1 rfl rfl (Nat.le_of_ble_eq_true rfl) dX2_timesFromHere_16 (by decide) (fun u_2 H locs hw_3 hP hD hS => ?_)
        replace hw_3 : u_2 = hb_ False (hs_ i T) := hw_3
        subst u_2
        replace hP : va_P D vwCl (miO g ++ bW cI g 4 B ++ bW cI g 10 (hb_ False (hs_ i T))) H := hP
        replace hD : va_D A (miO g ++ bW cI g 4 B ++ bW cI g 10 (hb_ False (hs_ i T))) := hD
        refine lv_aload_n hx hb dX2_timesFromHere_19 rfl (lv_at hl 2 rfl) ?_
        refine va_get (ci := 2) (C := RX2) (T := TX2) (N := 4) hx hb hts hinX2 hown hK.1 hP 0 rfl rfl 1 (by decide) (hts _ (List.mem_of_getElem? (i := 1) rfl)) (fun _ h9 => h9) rfl dX2_timesFromHere_20 ?_
        refine lv_iload_n hx hb dX2_timesFromHere_23 rfl (lv_at hl 3 rfl) ?_
        refine kSiN hx hb hml hown hts hK hP gX2_timesFromHere_X0_hasIsle_n44 (hK.2 _ (List.mem_of_getElem? (i := 84) rfl)) (hts _ (List.mem_of_getElem? (i := 3) rfl)) (hts _ (List.mem_of_getElem? (i := 30) rfl)) (hts _ (List.mem_of_getElem? (i := 31) rfl)) okX0_hasIsle (qX0_hasIsle l D cI cB g 10 (hb_ False (hs_ i T)) k (by show sn_ (hs_ _ _) ≤ 7; rw [sn_hs]; omega) (by omega)) [7, 8, 9, 10, 11, 12] rfl rfl rfl rfl (by decide) hl.1 rfl rfl (Nat.le_of_ble_eq_true rfl) dX2_timesFromHere_24 (by decide) (fun r_4 hr_5 => ?_)
        replace hr_5 : r_4 = b1 (pl_ (hb_ False (hs_ i T)) k = il_ (hb_ False (hs_ i T))) := hr_5
        subst r_4
        refine lv_if_eq (tgt := 33) hx hb dX2_timesFromHere_27 (by decide) (fun c_27 => ?_) (fun c_27 => ?_)
        · replace c_27 := b1_z c_27
          refine lv_iinc (v := (nI i) + 1) (lv' := [(4, .int ((nI i) + 1)), (3, .int (tc_ T k i)), (0, .ref (g 1)), (1, .int (nI k)), (2, .int (nI n))]) hx hb dX2_timesFromHere_33 hl (k := 0) rfl (by first | rfl | decide) (by decide) rfl (fun ls hl => ?_)
          refine lv_goto (tgt := 5) hx hb dX2_timesFromHere_36 (by decide) ?_
          exact ih_5 (i + 1) (tc_ T k i) ((nI i) + 1) (hb_ False (hs_ i T)) (by simp only [tc_]; first | rw [if_pos c_27] | rw [if_neg c_27]) (by first | rfl | exact nI_1 _) (rfl) (by omega) (by omega) _ _ hP hD hS ls (lv_sub hl [0, 1, 2, 3, 4] rfl)
        · replace c_27 := b1_n c_27
          refine lv_iinc (v := (tc_ T k i) + 1) (lv' := [(3, .int ((tc_ T k i) + 1)), (4, .int (nI i)), (0, .ref (g 1)), (1, .int (nI k)), (2, .int (nI n))]) hx hb dX2_timesFromHere_30 hl (k := 1) rfl (by first | rfl | decide) (by decide) rfl (fun ls hl => ?_)
          refine lv_iinc (v := (nI i) + 1) (lv' := [(4, .int ((nI i) + 1)), (3, .int ((tc_ T k i) + 1)), (0, .ref (g 1)), (1, .int (nI k)), (2, .int (nI n))]) hx hb dX2_timesFromHere_33 hl (k := 1) rfl (by first | rfl | decide) (by decide) rfl (fun ls hl => ?_)
          refine lv_goto (tgt := 5) hx hb dX2_timesFromHere_36 (by decide) ?_
          exact ih_5 (i + 1) ((tc_ T k i) + 1) ((nI i) + 1) (hb_ False (hs_ i T)) (by simp only [tc_]; first | rw [if_pos c_27] | rw [if_neg c_27]) (by first | rfl | exact nI_1 _) (rfl) (by omega) (by omega) _ _ hP hD hS ls (lv_sub hl [0, 1, 2, 3, 4] rfl)
  exact lp_5 (n + 1) 0 0 0 T (by first | rfl | exact nI_0.symm) (by first | rfl | exact nI_0.symm) (rfl) (by omega) (by omega) _ _ hP hD hS ls (lv_sub hl [0, 1, 2, 3, 4] rfl)

theorem okX2_timesHad : jok yX2_timesHad wsX2_timesHad cX2_timesHad 3 (some .int) 2 := ⟨⟨_, rfl⟩, by decide +kernel, by decide +kernel⟩
set_option maxHeartbeats 1000000 in
set_option maxRecDepth 100000 in
theorem qX2_timesHad (l : Launch) (D : va_G) (cI cB : ClassId) (g : Nat → Nat) (B : BayT) (T : BayT) (k : Nat) (n : Nat) (hn7 : sn_ B ≤ 7) (hk : k < 7) (hn : n ≤ 99) : jMi D cI cB l yX2_timesHad wsX2_timesHad 5 [.ref (g 1), .int (nI k), .int (nI n)] (miO g ++ bW cI g 4 B ++ bW cI g 10 T) (S := BayT) (fun r u => r = tc_ B k n) (fun u => miO g ++ bW cI g 4 B ++ bW cI g 10 u) := by
  refine jMi.of (cc := cX2_timesHad) (maxL := 3) (ret := (some .int)) okX2_timesHad (Nat.le_of_ble_eq_true rfl) ?_
  intro p e s m below meth c ls A hx hb hr hts hown hlk hml hP hK hD hA hS hl
  replace hown : s.vm.findClass RX2 = some m.cls := hown
  replace hl : lv_has ls 3 [(0, .ref (g 1)), (1, .int (nI k)), (2, .int (nI n))] := hl
  refine lv_aload_n hx hb dX2_timesHad_0 rfl (lv_at hl 0 rfl) ?_
  refine kMrV hx hb hml hown hts hK hP hD hA hS gX2_timesHad_X2_asNow okX2_asNow (qX2_asNow l D cI cB g B T ) [0, 1, 2, 3, 4, 5, 6, 7, 8, 9, 10, 11, 12] rfl (by decide) (fun _ => rfl) rfl rfl rfl (by decide) hl.1 rfl rfl (Nat.le_of_ble_eq_true rfl) dX2_timesHad_1 (by decide) (fun u_2 H locs hw_3 hP hD hS => ?_)
  replace hw_3 : u_2 = B := hw_3
  subst u_2
  replace hP : va_P D vwCl (miO g ++ bW cI g 4 B ++ bW cI g 10 (B)) H := hP
  replace hD : va_D A (miO g ++ bW cI g 4 B ++ bW cI g 10 (B)) := hD
  refine lv_pop hx hb dX2_timesHad_4 rfl ?_
  refine lv_aload_n hx hb dX2_timesHad_5 rfl (lv_at hl 0 rfl) ?_
  refine lv_iload_n hx hb dX2_timesHad_6 rfl (lv_at hl 1 rfl) ?_
  refine lv_iload_n hx hb dX2_timesHad_7 rfl (lv_at hl 2 rfl) ?_
  refine kMiV hx hb hml hown hts hK hP hD hA hS gX2_timesHad_X2_timesFromHere okX2_timesFromHere (qX2_timesFromHere l D cI cB g B (B) k n (by show sn_ B ≤ 7; omega) (by show sn_ (B) ≤ 7; omega) (by omega) (by omega)) [0, 1, 2, 3, 4, 5, 6, 7, 8, 9, 10, 11, 12] rfl (by decide) (fun _ => rfl) rfl rfl rfl (by decide) hl.1 rfl rfl (Nat.le_of_ble_eq_true rfl) dX2_timesHad_8 (by decide) (fun r_4 u_5 H locs hw_6 hP hD hS => ?_)
  replace hw_6 : r_4 = tc_ (B) k n ∧ u_5 = hs_ n (B) := hw_6
  obtain ⟨hw_6a, hw_6b⟩ := hw_6
  subst r_4
  subst u_5
  replace hP : va_P D vwCl (miO g ++ bW cI g 4 B ++ bW cI g 10 (hs_ n (B))) H := hP
  replace hD : va_D A (miO g ++ bW cI g 4 B ++ bW cI g 10 (hs_ n (B))) := hD
  refine rMi hx hb hr hlk hS (hs_ n (B)) hP ?_ dX2_timesHad_11
  first | rfl | exact ⟨rfl, rfl⟩

theorem okX2_firstHours : jok yX2_firstHours wsX2_firstHours cX2_firstHours 4 (some .int) 1 := ⟨⟨_, rfl⟩, by decide +kernel, by decide +kernel⟩
set_option maxHeartbeats 1000000 in
set_option maxRecDepth 100000 in
theorem qX2_firstHours (l : Launch) (D : va_G) (cI cB : ClassId) (g : Nat → Nat) (B : BayT) (T : BayT) (k : Nat) (hn7 : sn_ B ≤ 7) (hk : k < 7) : jMi D cI cB l yX2_firstHours wsX2_firstHours 4 [.ref (g 1), .int (nI k)] (miO g ++ bW cI g 4 B ++ bW cI g 10 T) (S := BayT) (fun r u => r = oI_ (fh_ B k 100 0)) (fun u => miO g ++ bW cI g 4 B ++ bW cI g 10 u) := by
  refine jMi.of (cc := cX2_firstHours) (maxL := 4) (ret := (some .int)) okX2_firstHours (Nat.le_of_ble_eq_true rfl) ?_
  intro p e s m below meth c ls A hx hb hr hts hown hlk hml hP hK hD hA hS hl
  replace hown : s.vm.findClass RX2 = some m.cls := hown
  replace hl : lv_has ls 4 [(0, .ref (g 1)), (1, .int (nI k))] := hl
  refine lv_aload_n hx hb dX2_firstHours_0 rfl (lv_at hl 0 rfl) ?_
  refine kMrV hx hb hml hown hts hK hP hD hA hS gX2_firstHours_X2_asNow okX2_asNow (qX2_asNow l D cI cB g B T ) [0, 1, 2, 3, 4, 5, 6, 7, 8, 9, 10, 11, 12] rfl (by decide) (fun _ => rfl) rfl rfl rfl (by decide) hl.1 rfl rfl (Nat.le_of_ble_eq_true rfl) dX2_firstHours_1 (by decide) (fun u_2 H locs hw_3 hP hD hS => ?_)
  replace hw_3 : u_2 = B := hw_3
  subst u_2
  replace hP : va_P D vwCl (miO g ++ bW cI g 4 B ++ bW cI g 10 (B)) H := hP
  replace hD : va_D A (miO g ++ bW cI g 4 B ++ bW cI g 10 (B)) := hD
  refine lv_astore_n (lv' := [(2, .ref (g 10)), (0, .ref (g 1)), (1, .int (nI k))]) hx hb dX2_firstHours_4 rfl hl (by decide) rfl (fun ls hl => ?_)
  refine lv_iconst (v := 0) hx hb dX2_firstHours_5 (by decide) ?_
  refine lv_istore_n (lv' := [(3, .int 0), (2, .ref (g 10)), (0, .ref (g 1)), (1, .int (nI k))]) hx hb dX2_firstHours_6 rfl hl (by decide) rfl (fun ls hl => ?_)
  have lp_7 : ∀ (fu_7 : Nat) (i : Nat) (x3_7 : Int32) (T2 : BayT), (x3_7 = nI i) → (T2 = hs_ i B) → (i ≤ 100) → (fh_ B k (100 - i) i = fh_ B k 100 0) → 100 - i < fu_7 → ∀ (H : Heap) (locs : List Loc), va_P D vwCl (miO g ++ bW cI g 4 B ++ bW cI g 10 T2) H → va_D A (miO g ++ bW cI g 4 B ++ bW cI g 10 T2) → va_S A s.heap H locs → ∀ ls : Array Slot, lv_has ls 4 [(3, .int x3_7), (2, .ref (g 10)), (0, .ref (g 1)), (1, .int (nI k))] → W p l e (jR 4) s m ([.ref (g 1), .int (nI k)] : List Value).toArray below meth c H locs 0 0 (MQ below (va_Qi (S := BayT) (fun r u => r = oI_ (fh_ B k 100 0)) (fun u t => va_P D vwCl ((fun u => miO g ++ bW cI g 4 B ++ bW cI g 10 u) u) t.heap) A) ([.ref (g 1), .int (nI k)] : List Value).toArray s 0 0 A) (F0 m 7 ls []) := by
    intro fu_7
    induction fu_7 with
    | zero => intro i x3_7 T2 hx3_7 hT2 hi hre hfu; exact absurd hfu (Nat.not_lt_zero _)
    | succ fu_7 ih_7 =>
      intro i x3_7 T2 hx3_7 hT2 hi hre hfu_7 H locs hP hD hS ls hl
      subst x3_7
      subst T2
      replace hl : lv_has ls 4 [(3, .int (nI i)), (2, .ref (g 10)), (0, .ref (g 1)), (1, .int (nI k))] := hl
      replace hP : va_P D vwCl (miO g ++ bW cI g 4 B ++ bW cI g 10 (hs_ i B)) H := hP
      replace hD : va_D A (miO g ++ bW cI g 4 B ++ bW cI g 10 (hs_ i B)) := hD
      refine lv_iload_n hx hb dX2_firstHours_7 rfl (lv_at hl 0 rfl) ?_
      refine lv_bipush (v := 99) hx hb dX2_firstHours_8 (by decide) ?_
      refine lv_icmp_gt (tgt := 34) hx hb dX2_firstHours_10 (by decide) (fun c_10 => ?_) (fun c_10 => ?_)
      · replace c_10 : nI 99 < nI i := c_10
        rw [jlt (by omega) (by omega)] at c_10
        refine lv_bipush (v := (-9)) hx hb dX2_firstHours_34 (by decide) ?_
        refine rMi hx hb hr hlk hS (hs_ i B) hP ?_ dX2_firstHours_36
        rw [fh_0 (by omega)] at hre; rw [← hre]; rfl
      · replace c_10 : ¬ nI 99 < nI i := c_10
        rw [jlt (by omega) (by omega)] at c_10
        refine lv_aload_n hx hb dX2_firstHours_13 rfl (lv_at hl 1 rfl) ?_
        refine lv_iload_n hx hb dX2_firstHours_14 rfl (lv_at hl 3 rfl) ?_
        refine kSiN hx hb hml hown hts hK hP gX2_firstHours_X0_hasIsle_n44 (hK.2 _ (List.mem_of_getElem? (i := 84) rfl)) (hts _ (List.mem_of_getElem? (i := 9) rfl)) (hts _ (List.mem_of_getElem? (i := 27) rfl)) (hts _ (List.mem_of_getElem? (i := 28) rfl)) okX0_hasIsle (qX0_hasIsle l D cI cB g 10 (hs_ i B) k (by show sn_ (hs_ _ _) ≤ 7; rw [sn_hs]; omega) (by omega)) [7, 8, 9, 10, 11, 12] rfl rfl rfl rfl (by decide) hl.1 rfl rfl (Nat.le_of_ble_eq_true rfl) dX2_firstHours_15 (by decide) (fun r_4 hr_5 => ?_)
        replace hr_5 : r_4 = b1 (pl_ (hs_ i B) k = il_ (hs_ i B)) := hr_5
        subst r_4
        refine lv_if_eq (tgt := 23) hx hb dX2_firstHours_18 (by decide) (fun c_18 => ?_) (fun c_18 => ?_)
        · replace c_18 := b1_z c_18
          refine lv_aload_n hx hb dX2_firstHours_23 rfl (lv_at hl 1 rfl) ?_
          refine lv_iconst (v := 0) hx hb dX2_firstHours_24 (by decide) ?_
          refine kMvN hx hb hml hown hts hK hP hD hA hS gX2_firstHours_X0_passHour_n40 (hK.2 _ (List.mem_of_getElem? (i := 85) rfl)) (hts _ (List.mem_of_getElem? (i := 9) rfl)) (hts _ (List.mem_of_getElem? (i := 30) rfl)) (hts _ (List.mem_of_getElem? (i := 31) rfl)) okX0_passHour (qX0_passHour l D cI cB g 10 (hs_ i B) False inferInstance (by show sn_ (hs_ _ _) ≤ 7; rw [sn_hs]; omega)) [7, 8, 9, 10, 11, 12] rfl (by decide) (fun _ => rfl) rfl rfl rfl (by decide) hl.1 rfl rfl (Nat.le_of_ble_eq_true rfl) dX2_firstHours_25 (by decide) (fun u_7 H locs hw_8 hP hD hS => ?_)
          replace hw_8 : u_7 = hb_ False (hs_ i B) := hw_8
          subst u_7
          replace hP : va_P D vwCl (miO g ++ bW cI g 4 B ++ bW cI g 10 (hb_ False (hs_ i B))) H := hP
          replace hD : va_D A (miO g ++ bW cI g 4 B ++ bW cI g 10 (hb_ False (hs_ i B))) := hD
          refine lv_iinc (v := (nI i) + 1) (lv' := [(3, .int ((nI i) + 1)), (2, .ref (g 10)), (0, .ref (g 1)), (1, .int (nI k))]) hx hb dX2_firstHours_28 hl (k := 0) rfl (by first | rfl | decide) (by decide) rfl (fun ls hl => ?_)
          refine lv_goto (tgt := 7) hx hb dX2_firstHours_31 (by decide) ?_
          exact ih_7 (i + 1) ((nI i) + 1) (hb_ False (hs_ i B)) (by first | rfl | exact nI_1 _) (rfl) (by omega) (by rw [fh_s (by omega), if_neg c_18] at hre; exact hre) (by omega) _ _ hP hD hS ls (lv_sub hl [0, 1, 2, 3] rfl)
        · replace c_18 := b1_n c_18
          refine lv_iload_n hx hb dX2_firstHours_21 rfl (lv_at hl 0 rfl) ?_
          refine rMi hx hb hr hlk hS (hs_ i B) hP ?_ dX2_firstHours_22
          rw [fh_s (by omega), if_pos c_18] at hre; rw [← hre]; rfl
  exact lp_7 (100 + 1) 0 0 (B) (by first | rfl | exact nI_0.symm) (rfl) (by omega) (rfl) (by omega) _ _ hP hD hS ls (lv_sub hl [0, 1, 2, 3] rfl)

theorem okX2_firstOwner : jok yX2_firstOwner wsX2_firstOwner cX2_firstOwner 3 (some .int) 0 := ⟨⟨_, rfl⟩, by decide +kernel, by decide +kernel⟩
set_option maxHeartbeats 1000000 in
set_option maxRecDepth 100000 in
theorem qX2_firstOwner (l : Launch) (D : va_G) (cI cB : ClassId) (g : Nat → Nat) (B : BayT) (T : BayT) (hn7 : sn_ B ≤ 7) : jMi D cI cB l yX2_firstOwner wsX2_firstOwner 4 [.ref (g 1)] (miO g ++ bW cI g 4 B ++ bW cI g 10 T) (S := BayT) (fun r u => r = oI_ (fo_ B 100 0)) (fun u => miO g ++ bW cI g 4 B ++ bW cI g 10 u) := by
  refine jMi.of (cc := cX2_firstOwner) (maxL := 3) (ret := (some .int)) okX2_firstOwner (Nat.le_of_ble_eq_true rfl) ?_
  intro p e s m below meth c ls A hx hb hr hts hown hlk hml hP hK hD hA hS hl
  replace hown : s.vm.findClass RX2 = some m.cls := hown
  replace hl : lv_has ls 3 [(0, .ref (g 1))] := hl
  refine lv_aload_n hx hb dX2_firstOwner_0 rfl (lv_at hl 0 rfl) ?_
  refine kMrV hx hb hml hown hts hK hP hD hA hS gX2_firstOwner_X2_asNow okX2_asNow (qX2_asNow l D cI cB g B T ) [0, 1, 2, 3, 4, 5, 6, 7, 8, 9, 10, 11, 12] rfl (by decide) (fun _ => rfl) rfl rfl rfl (by decide) hl.1 rfl rfl (Nat.le_of_ble_eq_true rfl) dX2_firstOwner_1 (by decide) (fun u_2 H locs hw_3 hP hD hS => ?_)
  replace hw_3 : u_2 = B := hw_3
  subst u_2
  replace hP : va_P D vwCl (miO g ++ bW cI g 4 B ++ bW cI g 10 (B)) H := hP
  replace hD : va_D A (miO g ++ bW cI g 4 B ++ bW cI g 10 (B)) := hD
  refine lv_astore_n (lv' := [(1, .ref (g 10)), (0, .ref (g 1))]) hx hb dX2_firstOwner_4 rfl hl (by decide) rfl (fun ls hl => ?_)
  refine lv_iconst (v := 0) hx hb dX2_firstOwner_5 (by decide) ?_
  refine lv_istore_n (lv' := [(2, .int 0), (1, .ref (g 10)), (0, .ref (g 1))]) hx hb dX2_firstOwner_6 rfl hl (by decide) rfl (fun ls hl => ?_)
  have lp_7 : ∀ (fu_7 : Nat) (i : Nat) (x2_7 : Int32) (T2 : BayT), (x2_7 = nI i) → (T2 = hs_ i B) → (i ≤ 100) → (fo_ B (100 - i) i = fo_ B 100 0) → 100 - i < fu_7 → ∀ (H : Heap) (locs : List Loc), va_P D vwCl (miO g ++ bW cI g 4 B ++ bW cI g 10 T2) H → va_D A (miO g ++ bW cI g 4 B ++ bW cI g 10 T2) → va_S A s.heap H locs → ∀ ls : Array Slot, lv_has ls 3 [(2, .int x2_7), (1, .ref (g 10)), (0, .ref (g 1))] → W p l e (jR 4) s m ([.ref (g 1)] : List Value).toArray below meth c H locs 0 0 (MQ below (va_Qi (S := BayT) (fun r u => r = oI_ (fo_ B 100 0)) (fun u t => va_P D vwCl ((fun u => miO g ++ bW cI g 4 B ++ bW cI g 10 u) u) t.heap) A) ([.ref (g 1)] : List Value).toArray s 0 0 A) (F0 m 7 ls []) := by
    intro fu_7
    induction fu_7 with
    | zero => intro i x2_7 T2 hx2_7 hT2 hi hre hfu; exact absurd hfu (Nat.not_lt_zero _)
    | succ fu_7 ih_7 =>
      intro i x2_7 T2 hx2_7 hT2 hi hre hfu_7 H locs hP hD hS ls hl
      subst x2_7
      subst T2
      replace hl : lv_has ls 3 [(2, .int (nI i)), (1, .ref (g 10)), (0, .ref (g 1))] := hl
      replace hP : va_P D vwCl (miO g ++ bW cI g 4 B ++ bW cI g 10 (hs_ i B)) H := hP
      replace hD : va_D A (miO g ++ bW cI g 4 B ++ bW cI g 10 (hs_ i B)) := hD
      refine lv_iload_n hx hb dX2_firstOwner_7 rfl (lv_at hl 0 rfl) ?_
      refine lv_bipush (v := 99) hx hb dX2_firstOwner_8 (by decide) ?_
      refine lv_icmp_gt (tgt := 38) hx hb dX2_firstOwner_10 (by decide) (fun c_10 => ?_) (fun c_10 => ?_)
      · replace c_10 : nI 99 < nI i := c_10
        rw [jlt (by omega) (by omega)] at c_10
        refine lv_bipush (v := (-9)) hx hb dX2_firstOwner_38 (by decide) ?_
        refine rMi hx hb hr hlk hS (hs_ i B) hP ?_ dX2_firstOwner_40
        rw [fo_0 (by omega)] at hre; rw [← hre]; rfl
      · replace c_10 : ¬ nI 99 < nI i := c_10
        rw [jlt (by omega) (by omega)] at c_10
        refine lv_aload_n hx hb dX2_firstOwner_13 rfl (lv_at hl 1 rfl) ?_
        refine kSiN hx hb hml hown hts hK hP gX2_firstOwner_X0_owner_n52 (hK.2 _ (List.mem_of_getElem? (i := 87) rfl)) (hts _ (List.mem_of_getElem? (i := 9) rfl)) (hts _ (List.mem_of_getElem? (i := 27) rfl)) (hts _ (List.mem_of_getElem? (i := 28) rfl)) okX0_owner (qX0_owner l D cI cB g 10 (hs_ i B) (by show sn_ (hs_ _ _) ≤ 7; rw [sn_hs]; omega)) [7, 8, 9, 10, 11, 12] rfl rfl rfl rfl (by decide) hl.1 rfl rfl (Nat.le_of_ble_eq_true rfl) dX2_firstOwner_14 (by decide) (fun r_4 hr_5 => ?_)
        replace hr_5 : r_4 = oI_ (ow_ (hs_ i B)) := hr_5
        subst r_4
        refine lv_bipush (v := (-9)) hx hb dX2_firstOwner_17 (by decide) ?_
        refine lv_icmp_eq (tgt := 27) hx hb dX2_firstOwner_19 (by decide) (fun c_19 => ?_) (fun c_19 => ?_)
        · rw [show ow_ (hs_ i B) = sa_ (hs_ i B) (il_ (hs_ i B)) from rfl, sa_9 (by rw [sn_hs]; exact hn7)] at c_19
          first | replace c_19 : ow_ (hs_ i B) = none := c_19 | replace c_19 : ¬ ow_ (hs_ i B) = none := c_19
          refine lv_aload_n hx hb dX2_firstOwner_27 rfl (lv_at hl 1 rfl) ?_
          refine lv_iconst (v := 0) hx hb dX2_firstOwner_28 (by decide) ?_
          refine kMvN hx hb hml hown hts hK hP hD hA hS gX2_firstOwner_X0_passHour_n40 (hK.2 _ (List.mem_of_getElem? (i := 85) rfl)) (hts _ (List.mem_of_getElem? (i := 9) rfl)) (hts _ (List.mem_of_getElem? (i := 34) rfl)) (hts _ (List.mem_of_getElem? (i := 35) rfl)) okX0_passHour (qX0_passHour l D cI cB g 10 (hs_ i B) False inferInstance (by show sn_ (hs_ _ _) ≤ 7; rw [sn_hs]; omega)) [7, 8, 9, 10, 11, 12] rfl (by decide) (fun _ => rfl) rfl rfl rfl (by decide) hl.1 rfl rfl (Nat.le_of_ble_eq_true rfl) dX2_firstOwner_29 (by decide) (fun u_7 H locs hw_8 hP hD hS => ?_)
          replace hw_8 : u_7 = hb_ False (hs_ i B) := hw_8
          subst u_7
          replace hP : va_P D vwCl (miO g ++ bW cI g 4 B ++ bW cI g 10 (hb_ False (hs_ i B))) H := hP
          replace hD : va_D A (miO g ++ bW cI g 4 B ++ bW cI g 10 (hb_ False (hs_ i B))) := hD
          refine lv_iinc (v := (nI i) + 1) (lv' := [(2, .int ((nI i) + 1)), (1, .ref (g 10)), (0, .ref (g 1))]) hx hb dX2_firstOwner_32 hl (k := 0) rfl (by first | rfl | decide) (by decide) rfl (fun ls hl => ?_)
          refine lv_goto (tgt := 7) hx hb dX2_firstOwner_35 (by decide) ?_
          exact ih_7 (i + 1) ((nI i) + 1) (hb_ False (hs_ i B)) (by first | rfl | exact nI_1 _) (rfl) (by omega) (by rw [fo_s (by omega), if_pos c_19] at hre; exact hre) (by omega) _ _ hP hD hS ls (lv_sub hl [0, 1, 2] rfl)
        · rw [show ow_ (hs_ i B) = sa_ (hs_ i B) (il_ (hs_ i B)) from rfl, sa_9 (by rw [sn_hs]; exact hn7)] at c_19
          first | replace c_19 : ow_ (hs_ i B) = none := c_19 | replace c_19 : ¬ ow_ (hs_ i B) = none := c_19
          refine lv_aload_n hx hb dX2_firstOwner_22 rfl (lv_at hl 1 rfl) ?_
          refine kSiN hx hb hml hown hts hK hP gX2_firstOwner_X0_owner_n52 (hK.2 _ (List.mem_of_getElem? (i := 87) rfl)) (hts _ (List.mem_of_getElem? (i := 9) rfl)) (hts _ (List.mem_of_getElem? (i := 27) rfl)) (hts _ (List.mem_of_getElem? (i := 28) rfl)) okX0_owner (qX0_owner l D cI cB g 10 (hs_ i B) (by show sn_ (hs_ _ _) ≤ 7; rw [sn_hs]; omega)) [7, 8, 9, 10, 11, 12] rfl rfl rfl rfl (by decide) hl.1 rfl rfl (Nat.le_of_ble_eq_true rfl) dX2_firstOwner_23 (by decide) (fun r_9 hr_10 => ?_)
          replace hr_10 : r_9 = oI_ (ow_ (hs_ i B)) := hr_10
          subst r_9
          refine rMi hx hb hr hlk hS (hs_ i B) hP ?_ dX2_firstOwner_26
          rw [fo_s (by omega), if_neg c_19] at hre; rw [← hre]
  exact lp_7 (100 + 1) 0 0 (B) (by first | rfl | exact nI_0.symm) (rfl) (by omega) (rfl) (by omega) _ _ hP hD hS ls (lv_sub hl [0, 1, 2] rfl)

theorem okX2_neverBits : jok yX2_neverBits wsX2_neverBits cX2_neverBits 3 (some .int) 0 := ⟨⟨_, rfl⟩, by decide +kernel, by decide +kernel⟩
set_option maxHeartbeats 1000000 in
set_option maxRecDepth 100000 in
theorem qX2_neverBits (l : Launch) (D : va_G) (cI cB : ClassId) (g : Nat → Nat) (B : BayT) (T : BayT) (hn7 : sn_ B ≤ 7) : jMi D cI cB l yX2_neverBits wsX2_neverBits 5 [.ref (g 1)] (miO g ++ bW cI g 4 B ++ bW cI g 10 T) (S := BayT) (fun r u => r = bi_ (fun j => oI_ (fh_ B j 100 0)) (-9) (sn_ B)) (fun u => miO g ++ bW cI g 4 B ++ bW cI g 10 u) := by
  refine jMi.of (cc := cX2_neverBits) (maxL := 3) (ret := (some .int)) okX2_neverBits (Nat.le_of_ble_eq_true rfl) ?_
  intro p e s m below meth c ls A hx hb hr hts hown hlk hml hP hK hD hA hS hl
  replace hown : s.vm.findClass RX2 = some m.cls := hown
  replace hl : lv_has ls 3 [(0, .ref (g 1))] := hl
  have hinX0 : ∀ w ∈ wsX00, w ∈ wsX2_neverBits := by decide +kernel
  have hinX2 : ∀ w ∈ wsX20, w ∈ wsX2_neverBits := by decide +kernel
  refine lv_iconst (v := 0) hx hb dX2_neverBits_0 (by decide) ?_
  refine lv_istore_n (lv' := [(1, .int 0), (0, .ref (g 1))]) hx hb dX2_neverBits_1 rfl hl (by decide) rfl (fun ls hl => ?_)
  refine lv_iconst (v := 0) hx hb dX2_neverBits_2 (by decide) ?_
  refine lv_istore_n (lv' := [(2, .int 0), (1, .int 0), (0, .ref (g 1))]) hx hb dX2_neverBits_3 rfl hl (by decide) rfl (fun ls hl => ?_)
  have lp_4 : ∀ (fu_4 : Nat) (i : Nat) (x1_4 : Int32) (x2_4 : Int32) (T2 : BayT), (x1_4 = bi_ (fun j => oI_ (fh_ B j 100 0)) (-9) i) → (x2_4 = nI i) → (i ≤ sn_ B) → sn_ B - i < fu_4 → ∀ (H : Heap) (locs : List Loc), va_P D vwCl (miO g ++ bW cI g 4 B ++ bW cI g 10 T2) H → va_D A (miO g ++ bW cI g 4 B ++ bW cI g 10 T2) → va_S A s.heap H locs → ∀ ls : Array Slot, lv_has ls 3 [(2, .int x2_4), (1, .int x1_4), (0, .ref (g 1))] → W p l e (jR 5) s m ([.ref (g 1)] : List Value).toArray below meth c H locs 0 0 (MQ below (va_Qi (S := BayT) (fun r u => r = bi_ (fun j => oI_ (fh_ B j 100 0)) (-9) (sn_ B)) (fun u t => va_P D vwCl ((fun u => miO g ++ bW cI g 4 B ++ bW cI g 10 u) u) t.heap) A) ([.ref (g 1)] : List Value).toArray s 0 0 A) (F0 m 4 ls []) := by
    intro fu_4
    induction fu_4 with
    | zero => intro i x1_4 x2_4 T2 hx1_4 hx2_4 hi hfu; exact absurd hfu (Nat.not_lt_zero _)
    | succ fu_4 ih_4 =>
      intro i x1_4 x2_4 T2 hx1_4 hx2_4 hi hfu_4 H locs hP hD hS ls hl
      subst x1_4
      subst x2_4
      replace hl : lv_has ls 3 [(2, .int (nI i)), (1, .int (bi_ (fun j => oI_ (fh_ B j 100 0)) (-9) i)), (0, .ref (g 1))] := hl
      replace hP : va_P D vwCl (miO g ++ bW cI g 4 B ++ bW cI g 10 T2) H := hP
      replace hD : va_D A (miO g ++ bW cI g 4 B ++ bW cI g 10 T2) := hD
      refine lv_iload_n hx hb dX2_neverBits_4 rfl (lv_at hl 0 rfl) ?_
      refine lv_aload_n hx hb dX2_neverBits_5 rfl (lv_at hl 2 rfl) ?_
      refine va_get (ci := 2) (C := RX2) (T := TX2) (N := 4) hx hb hts hinX2 hown hK.1 hP 0 rfl rfl 0 (by decide) (hts _ (List.mem_of_getElem? (i := 1) rfl)) (fun _ h9 => h9) rfl dX2_neverBits_6 ?_
      refine va_getN (ci := 0) (C := RX0) (T := TX0) (N := 11) hx hb hts hinX0 hown hK.1 hP 1 rfl rfl 6 (by decide) (va_Nw.use rfl (hK.2 _ (List.mem_of_getElem? (i := 12) rfl))) (fun _ h9 => h9) rfl dX2_neverBits_9 ?_
      refine lv_icmp_ge (tgt := 37) hx hb dX2_neverBits_12 (by decide) (fun c_12 => ?_) (fun c_12 => ?_)
      · replace c_12 : nI (sn_ B) ≤ nI i := c_12
        rw [jle (by omega) (by omega)] at c_12
        refine lv_iload_n hx hb dX2_neverBits_37 rfl (lv_at hl 1 rfl) ?_
        refine rMi hx hb hr hlk hS T2 hP ?_ dX2_neverBits_38
        have e9 : i = sn_ B := by omega
        rw [e9]
      · replace c_12 : ¬ nI (sn_ B) ≤ nI i := c_12
        rw [jle (by omega) (by omega)] at c_12
        refine lv_aload_n hx hb dX2_neverBits_15 rfl (lv_at hl 2 rfl) ?_
        refine lv_iload_n hx hb dX2_neverBits_16 rfl (lv_at hl 0 rfl) ?_
        refine kMiV hx hb hml hown hts hK hP hD hA hS gX2_neverBits_X2_firstHours okX2_firstHours (qX2_firstHours l D cI cB g B T2 i (by show sn_ B ≤ 7; omega) (by omega)) [0, 1, 2, 3, 4, 5, 6, 7, 8, 9, 10, 11, 12] rfl (by decide) (fun _ => rfl) rfl rfl rfl (by decide) hl.1 rfl rfl (Nat.le_of_ble_eq_true rfl) dX2_neverBits_17 (by decide) (fun r_1 u_2 H locs hw_3 hP hD hS => ?_)
        replace hw_3 : r_1 = oI_ (fh_ B i 100 0) := hw_3
        subst r_1
        replace hP : va_P D vwCl (miO g ++ bW cI g 4 B ++ bW cI g 10 u_2) H := hP
        replace hD : va_D A (miO g ++ bW cI g 4 B ++ bW cI g 10 u_2) := hD
        refine lv_bipush (v := (-9)) hx hb dX2_neverBits_20 (by decide) ?_
        refine lv_icmp_ne (tgt := 31) hx hb dX2_neverBits_22 (by decide) (fun c_22 => ?_) (fun c_22 => ?_)
        · skip
          refine lv_iinc (v := (nI i) + 1) (lv' := [(2, .int ((nI i) + 1)), (1, .int (bi_ (fun j => oI_ (fh_ B j 100 0)) (-9) i)), (0, .ref (g 1))]) hx hb dX2_neverBits_31 hl (k := 0) rfl (by first | rfl | decide) (by decide) rfl (fun ls hl => ?_)
          refine lv_goto (tgt := 4) hx hb dX2_neverBits_34 (by decide) ?_
          exact ih_4 (i + 1) (bi_ (fun j => oI_ (fh_ B j 100 0)) (-9) i) ((nI i) + 1) u_2 (by simp only [bi_]; first | rw [if_pos (by assumption)] | rw [if_neg (by assumption)]) (by first | rfl | exact nI_1 _) (by omega) (by omega) _ _ hP hD hS ls (lv_sub hl [0, 1, 2] rfl)
        · skip
          refine lv_iload_n hx hb dX2_neverBits_25 rfl (lv_at hl 1 rfl) ?_
          refine lv_iconst (v := 1) hx hb dX2_neverBits_26 (by decide) ?_
          refine lv_iload_n hx hb dX2_neverBits_27 rfl (lv_at hl 0 rfl) ?_
          refine lv_ishl hx hb dX2_neverBits_28 ?_
          refine lv_ior hx hb dX2_neverBits_29 ?_
          refine lv_istore_n (lv' := [(1, .int ((bi_ (fun j => oI_ (fh_ B j 100 0)) (-9) i) ||| (1 <<< ((nI i) &&& 31)))), (2, .int (nI i)), (0, .ref (g 1))]) hx hb dX2_neverBits_30 rfl hl (by decide) rfl (fun ls hl => ?_)
          refine lv_iinc (v := (nI i) + 1) (lv' := [(2, .int ((nI i) + 1)), (1, .int ((bi_ (fun j => oI_ (fh_ B j 100 0)) (-9) i) ||| (1 <<< ((nI i) &&& 31)))), (0, .ref (g 1))]) hx hb dX2_neverBits_31 hl (k := 1) rfl (by first | rfl | decide) (by decide) rfl (fun ls hl => ?_)
          refine lv_goto (tgt := 4) hx hb dX2_neverBits_34 (by decide) ?_
          exact ih_4 (i + 1) ((bi_ (fun j => oI_ (fh_ B j 100 0)) (-9) i) ||| (1 <<< ((nI i) &&& 31))) ((nI i) + 1) u_2 (by simp only [bi_]; first | rw [if_pos (by assumption)] | rw [if_neg (by assumption)]) (by first | rfl | exact nI_1 _) (by omega) (by omega) _ _ hP hD hS ls (lv_sub hl [0, 1, 2] rfl)
  exact lp_4 ((sn_ B) + 1) 0 0 0 T (by first | rfl | exact nI_0.symm) (by first | rfl | exact nI_0.symm) (by omega) (by omega) _ _ hP hD hS ls (lv_sub hl [0, 1, 2] rfl)

theorem okX2_stillBehind : jok yX2_stillBehind wsX2_stillBehind cX2_stillBehind 4 (some .int) 0 := ⟨⟨_, rfl⟩, by decide +kernel, by decide +kernel⟩
set_option maxHeartbeats 1000000 in
set_option maxRecDepth 100000 in
theorem qX2_stillBehind (l : Launch) (D : va_G) (cI cB : ClassId) (g : Nat → Nat) (B : BayT) (T : BayT) (hn7 : sn_ B ≤ 7) : jMi D cI cB l yX2_stillBehind wsX2_stillBehind 4 [.ref (g 1)] (miO g ++ bW cI g 4 B ++ bW cI g 10 T) (S := BayT) (fun r u => r = oI_ (st_ B 100 0)) (fun u => miO g ++ bW cI g 4 B ++ bW cI g 10 u) := by
  refine jMi.of (cc := cX2_stillBehind) (maxL := 4) (ret := (some .int)) okX2_stillBehind (Nat.le_of_ble_eq_true rfl) ?_
  intro p e s m below meth c ls A hx hb hr hts hown hlk hml hP hK hD hA hS hl
  replace hown : s.vm.findClass RX2 = some m.cls := hown
  replace hl : lv_has ls 4 [(0, .ref (g 1))] := hl
  have hinX0 : ∀ w ∈ wsX00, w ∈ wsX2_stillBehind := by decide +kernel
  refine lv_aload_n hx hb dX2_stillBehind_0 rfl (lv_at hl 0 rfl) ?_
  refine kMrV hx hb hml hown hts hK hP hD hA hS gX2_stillBehind_X2_asNow okX2_asNow (qX2_asNow l D cI cB g B T ) [0, 1, 2, 3, 4, 5, 6, 7, 8, 9, 10, 11, 12] rfl (by decide) (fun _ => rfl) rfl rfl rfl (by decide) hl.1 rfl rfl (Nat.le_of_ble_eq_true rfl) dX2_stillBehind_1 (by decide) (fun u_2 H locs hw_3 hP hD hS => ?_)
  replace hw_3 : u_2 = B := hw_3
  subst u_2
  replace hP : va_P D vwCl (miO g ++ bW cI g 4 B ++ bW cI g 10 (B)) H := hP
  replace hD : va_D A (miO g ++ bW cI g 4 B ++ bW cI g 10 (B)) := hD
  refine lv_astore_n (lv' := [(1, .ref (g 10)), (0, .ref (g 1))]) hx hb dX2_stillBehind_4 rfl hl (by decide) rfl (fun ls hl => ?_)
  refine lv_iconst (v := 0) hx hb dX2_stillBehind_5 (by decide) ?_
  refine lv_istore_n (lv' := [(2, .int 0), (1, .ref (g 10)), (0, .ref (g 1))]) hx hb dX2_stillBehind_6 rfl hl (by decide) rfl (fun ls hl => ?_)
  have lp_7 : ∀ (fu_7 : Nat) (i : Nat) (x2_7 : Int32) (T2 : BayT), (x2_7 = nI i) → (T2 = hs_ i B) → (i ≤ 100) → (st_ B (100 - i) i = st_ B 100 0) → 100 - i < fu_7 → ∀ (H : Heap) (locs : List Loc), va_P D vwCl (miO g ++ bW cI g 4 B ++ bW cI g 10 T2) H → va_D A (miO g ++ bW cI g 4 B ++ bW cI g 10 T2) → va_S A s.heap H locs → ∀ ls : Array Slot, lv_has ls 4 [(2, .int x2_7), (1, .ref (g 10)), (0, .ref (g 1))] → W p l e (jR 4) s m ([.ref (g 1)] : List Value).toArray below meth c H locs 0 0 (MQ below (va_Qi (S := BayT) (fun r u => r = oI_ (st_ B 100 0)) (fun u t => va_P D vwCl ((fun u => miO g ++ bW cI g 4 B ++ bW cI g 10 u) u) t.heap) A) ([.ref (g 1)] : List Value).toArray s 0 0 A) (F0 m 7 ls []) := by
    intro fu_7
    induction fu_7 with
    | zero => intro i x2_7 T2 hx2_7 hT2 hi hre hfu; exact absurd hfu (Nat.not_lt_zero _)
    | succ fu_7 ih_7 =>
      intro i x2_7 T2 hx2_7 hT2 hi hre hfu_7 H locs hP hD hS ls hl
      subst x2_7
      subst T2
      replace hl : lv_has ls 4 [(2, .int (nI i)), (1, .ref (g 10)), (0, .ref (g 1))] := hl
      replace hP : va_P D vwCl (miO g ++ bW cI g 4 B ++ bW cI g 10 (hs_ i B)) H := hP
      replace hD : va_D A (miO g ++ bW cI g 4 B ++ bW cI g 10 (hs_ i B)) := hD
      refine lv_iload_n hx hb dX2_stillBehind_7 rfl (lv_at hl 0 rfl) ?_
      refine lv_bipush (v := 99) hx hb dX2_stillBehind_8 (by decide) ?_
      refine lv_icmp_gt (tgt := 39) hx hb dX2_stillBehind_10 (by decide) (fun c_10 => ?_) (fun c_10 => ?_)
      · replace c_10 : nI 99 < nI i := c_10
        rw [jlt (by omega) (by omega)] at c_10
        refine lv_bipush (v := (-9)) hx hb dX2_stillBehind_39 (by decide) ?_
        refine rMi hx hb hr hlk hS (hs_ i B) hP ?_ dX2_stillBehind_41
        rw [st_0 (by omega)] at hre; rw [← hre]; rfl
      · replace c_10 : ¬ nI 99 < nI i := c_10
        rw [jlt (by omega) (by omega)] at c_10
        refine lv_aload_n hx hb dX2_stillBehind_13 rfl (lv_at hl 1 rfl) ?_
        refine va_getN (ci := 0) (C := RX0) (T := TX0) (N := 11) hx hb hts hinX0 hown hK.1 hP 7 rfl rfl 7 (by decide) (va_Nw.use rfl (hK.2 _ (List.mem_of_getElem? (i := 15) rfl))) (fun _ h9 => h9) rfl dX2_stillBehind_14 ?_
        refine lv_istore_n (lv' := [(3, .int (il_ (hs_ i B))), (2, .int (nI i)), (1, .ref (g 10)), (0, .ref (g 1))]) hx hb dX2_stillBehind_17 rfl hl (by decide) rfl (fun ls hl => ?_)
        refine lv_aload_n hx hb dX2_stillBehind_18 rfl (lv_at hl 2 rfl) ?_
        refine lv_iconst (v := 0) hx hb dX2_stillBehind_19 (by decide) ?_
        refine kMvN hx hb hml hown hts hK hP hD hA hS gX2_stillBehind_X0_passHour_n40 (hK.2 _ (List.mem_of_getElem? (i := 85) rfl)) (hts _ (List.mem_of_getElem? (i := 9) rfl)) (hts _ (List.mem_of_getElem? (i := 27) rfl)) (hts _ (List.mem_of_getElem? (i := 28) rfl)) okX0_passHour (qX0_passHour l D cI cB g 10 (hs_ i B) False inferInstance (by show sn_ (hs_ _ _) ≤ 7; rw [sn_hs]; omega)) [7, 8, 9, 10, 11, 12] rfl (by decide) (fun _ => rfl) rfl rfl rfl (by decide) hl.1 rfl rfl (Nat.le_of_ble_eq_true rfl) dX2_stillBehind_20 (by decide) (fun u_5 H locs hw_6 hP hD hS => ?_)
        replace hw_6 : u_5 = hb_ False (hs_ i B) := hw_6
        subst u_5
        replace hP : va_P D vwCl (miO g ++ bW cI g 4 B ++ bW cI g 10 (hb_ False (hs_ i B))) H := hP
        replace hD : va_D A (miO g ++ bW cI g 4 B ++ bW cI g 10 (hb_ False (hs_ i B))) := hD
        refine lv_aload_n hx hb dX2_stillBehind_23 rfl (lv_at hl 2 rfl) ?_
        refine va_getN (ci := 0) (C := RX0) (T := TX0) (N := 11) hx hb hts hinX0 hown hK.1 hP 7 rfl rfl 7 (by decide) (va_Nw.use rfl (hK.2 _ (List.mem_of_getElem? (i := 15) rfl))) (fun _ h9 => h9) rfl dX2_stillBehind_24 ?_
        refine lv_iload_n hx hb dX2_stillBehind_27 rfl (lv_at hl 0 rfl) ?_
        refine lv_icmp_ne (tgt := 33) hx hb dX2_stillBehind_28 (by decide) (fun c_28 => ?_) (fun c_28 => ?_)
        · skip
          refine lv_iinc (v := (nI i) + 1) (lv' := [(2, .int ((nI i) + 1)), (3, .int (il_ (hs_ i B))), (1, .ref (g 10)), (0, .ref (g 1))]) hx hb dX2_stillBehind_33 hl (k := 1) rfl (by first | rfl | decide) (by decide) rfl (fun ls hl => ?_)
          refine lv_goto (tgt := 7) hx hb dX2_stillBehind_36 (by decide) ?_
          exact ih_7 (i + 1) ((nI i) + 1) (hb_ False (hs_ i B)) (by first | rfl | exact nI_1 _) (rfl) (by omega) (by rw [st_s (by omega), if_neg c_28] at hre; exact hre) (by omega) _ _ hP hD hS ls (lv_sub hl [0, 2, 3] rfl)
        · skip
          refine lv_iload_n hx hb dX2_stillBehind_31 rfl (lv_at hl 1 rfl) ?_
          refine rMi hx hb hr hlk hS (hb_ False (hs_ i B)) hP ?_ dX2_stillBehind_32
          rw [st_s (by omega), if_pos c_28] at hre; rw [← hre]; rfl
  exact lp_7 (100 + 1) 0 0 (B) (by first | rfl | exact nI_0.symm) (rfl) (by omega) (rfl) (by omega) _ _ hP hD hS ls (lv_sub hl [0, 1, 2] rfl)

theorem okX2_oftenestOwner : jok yX2_oftenestOwner wsX2_oftenestOwner cX2_oftenestOwner 6 (some .int) 1 := ⟨⟨_, rfl⟩, by decide +kernel, by decide +kernel⟩
set_option maxHeartbeats 1000000 in
set_option maxRecDepth 100000 in
theorem qX2_oftenestOwner (l : Launch) (D : va_G) (cI cB : ClassId) (g : Nat → Nat) (B : BayT) (T : BayT) (n : Nat) (hn7 : sn_ B ≤ 7) (hn : n ≤ 99) : jMi D cI cB l yX2_oftenestOwner wsX2_oftenestOwner 6 [.ref (g 1), .int (nI n)] (miO g ++ bW cI g 4 B ++ bW cI g 10 T) (S := BayT) (fun r u => r = oI_ (bs_ (fun j => tc_ B j n) 0 (sn_ B)).1) (fun u => miO g ++ bW cI g 4 B ++ bW cI g 10 u) := by
  refine jMi.of (cc := cX2_oftenestOwner) (maxL := 6) (ret := (some .int)) okX2_oftenestOwner (Nat.le_of_ble_eq_true rfl) ?_
  intro p e s m below meth c ls A hx hb hr hts hown hlk hml hP hK hD hA hS hl
  replace hown : s.vm.findClass RX2 = some m.cls := hown
  replace hl : lv_has ls 6 [(0, .ref (g 1)), (1, .int (nI n))] := hl
  have hinX0 : ∀ w ∈ wsX00, w ∈ wsX2_oftenestOwner := by decide +kernel
  have hinX2 : ∀ w ∈ wsX20, w ∈ wsX2_oftenestOwner := by decide +kernel
  refine lv_bipush (v := (-9)) hx hb dX2_oftenestOwner_0 (by decide) ?_
  refine lv_istore_n (lv' := [(2, .int (-9)), (0, .ref (g 1)), (1, .int (nI n))]) hx hb dX2_oftenestOwner_2 rfl hl (by decide) rfl (fun ls hl => ?_)
  refine lv_iconst (v := 0) hx hb dX2_oftenestOwner_3 (by decide) ?_
  refine lv_istore_n (lv' := [(3, .int 0), (2, .int (-9)), (0, .ref (g 1)), (1, .int (nI n))]) hx hb dX2_oftenestOwner_4 rfl hl (by decide) rfl (fun ls hl => ?_)
  refine lv_iconst (v := 0) hx hb dX2_oftenestOwner_5 (by decide) ?_
  refine lv_istore (lv' := [(4, .int 0), (3, .int 0), (2, .int (-9)), (0, .ref (g 1)), (1, .int (nI n))]) hx hb dX2_oftenestOwner_6 hl (by decide) rfl (fun ls hl => ?_)
  have lp_8 : ∀ (fu_8 : Nat) (i : Nat) (x2_8 : Int32) (x3_8 : Int32) (x4_8 : Int32) (T2 : BayT), (x2_8 = oI_ (bs_ (fun j => tc_ B j n) 0 i).1) → (x3_8 = (bs_ (fun j => tc_ B j n) 0 i).2) → (x4_8 = nI i) → (i ≤ sn_ B) → sn_ B - i < fu_8 → ∀ (H : Heap) (locs : List Loc), va_P D vwCl (miO g ++ bW cI g 4 B ++ bW cI g 10 T2) H → va_D A (miO g ++ bW cI g 4 B ++ bW cI g 10 T2) → va_S A s.heap H locs → ∀ ls : Array Slot, lv_has ls 6 [(4, .int x4_8), (3, .int x3_8), (2, .int x2_8), (0, .ref (g 1)), (1, .int (nI n))] → W p l e (jR 6) s m ([.ref (g 1), .int (nI n)] : List Value).toArray below meth c H locs 0 0 (MQ below (va_Qi (S := BayT) (fun r u => r = oI_ (bs_ (fun j => tc_ B j n) 0 (sn_ B)).1) (fun u t => va_P D vwCl ((fun u => miO g ++ bW cI g 4 B ++ bW cI g 10 u) u) t.heap) A) ([.ref (g 1), .int (nI n)] : List Value).toArray s 0 0 A) (F0 m 8 ls []) := by
    intro fu_8
    induction fu_8 with
    | zero => intro i x2_8 x3_8 x4_8 T2 hx2_8 hx3_8 hx4_8 hi hfu; exact absurd hfu (Nat.not_lt_zero _)
    | succ fu_8 ih_8 =>
      intro i x2_8 x3_8 x4_8 T2 hx2_8 hx3_8 hx4_8 hi hfu_8 H locs hP hD hS ls hl
      subst x2_8
      subst x3_8
      subst x4_8
      replace hl : lv_has ls 6 [(4, .int (nI i)), (3, .int ((bs_ (fun j => tc_ B j n) 0 i).2)), (2, .int (oI_ (bs_ (fun j => tc_ B j n) 0 i).1)), (0, .ref (g 1)), (1, .int (nI n))] := hl
      replace hP : va_P D vwCl (miO g ++ bW cI g 4 B ++ bW cI g 10 T2) H := hP
      replace hD : va_D A (miO g ++ bW cI g 4 B ++ bW cI g 10 T2) := hD
      refine lv_iload hx hb dX2_oftenestOwner_8 (lv_at hl 0 rfl) ?_
      refine lv_aload_n hx hb dX2_oftenestOwner_10 rfl (lv_at hl 3 rfl) ?_
      refine va_get (ci := 2) (C := RX2) (T := TX2) (N := 4) hx hb hts hinX2 hown hK.1 hP 0 rfl rfl 0 (by decide) (hts _ (List.mem_of_getElem? (i := 1) rfl)) (fun _ h9 => h9) rfl dX2_oftenestOwner_11 ?_
      refine va_getN (ci := 0) (C := RX0) (T := TX0) (N := 11) hx hb hts hinX0 hown hK.1 hP 1 rfl rfl 6 (by decide) (va_Nw.use rfl (hK.2 _ (List.mem_of_getElem? (i := 12) rfl))) (fun _ h9 => h9) rfl dX2_oftenestOwner_14 ?_
      refine lv_icmp_ge (tgt := 47) hx hb dX2_oftenestOwner_17 (by decide) (fun c_17 => ?_) (fun c_17 => ?_)
      · replace c_17 : nI (sn_ B) ≤ nI i := c_17
        rw [jle (by omega) (by omega)] at c_17
        refine lv_iload_n hx hb dX2_oftenestOwner_47 rfl (lv_at hl 2 rfl) ?_
        refine rMi hx hb hr hlk hS T2 hP ?_ dX2_oftenestOwner_48
        have e9 : i = sn_ B := by omega
        rw [e9]
      · replace c_17 : ¬ nI (sn_ B) ≤ nI i := c_17
        rw [jle (by omega) (by omega)] at c_17
        refine lv_aload_n hx hb dX2_oftenestOwner_20 rfl (lv_at hl 3 rfl) ?_
        refine lv_iload hx hb dX2_oftenestOwner_21 (lv_at hl 0 rfl) ?_
        refine lv_iload_n hx hb dX2_oftenestOwner_23 rfl (lv_at hl 4 rfl) ?_
        refine kMiV hx hb hml hown hts hK hP hD hA hS gX2_oftenestOwner_X2_timesHad okX2_timesHad (qX2_timesHad l D cI cB g B T2 i n (by show sn_ B ≤ 7; omega) (by omega) (by omega)) [0, 1, 2, 3, 4, 5, 6, 7, 8, 9, 10, 11, 12] rfl (by decide) (fun _ => rfl) rfl rfl rfl (by decide) hl.1 rfl rfl (Nat.le_of_ble_eq_true rfl) dX2_oftenestOwner_24 (by decide) (fun r_1 u_2 H locs hw_3 hP hD hS => ?_)
        replace hw_3 : r_1 = tc_ B i n := hw_3
        subst r_1
        replace hP : va_P D vwCl (miO g ++ bW cI g 4 B ++ bW cI g 10 u_2) H := hP
        replace hD : va_D A (miO g ++ bW cI g 4 B ++ bW cI g 10 u_2) := hD
        refine lv_istore (lv' := [(5, .int (tc_ B i n)), (4, .int (nI i)), (3, .int ((bs_ (fun j => tc_ B j n) 0 i).2)), (2, .int (oI_ (bs_ (fun j => tc_ B j n) 0 i).1)), (0, .ref (g 1)), (1, .int (nI n))]) hx hb dX2_oftenestOwner_27 hl (by decide) rfl (fun ls hl => ?_)
        refine lv_iload hx hb dX2_oftenestOwner_29 (lv_at hl 0 rfl) ?_
        refine lv_iload_n hx hb dX2_oftenestOwner_31 rfl (lv_at hl 2 rfl) ?_
        refine lv_icmp_le (tgt := 41) hx hb dX2_oftenestOwner_32 (by decide) (fun c_32 => ?_) (fun c_32 => ?_)
        · have d_32 := Int32.not_lt.mpr c_32
          refine lv_iinc (v := (nI i) + 1) (lv' := [(4, .int ((nI i) + 1)), (5, .int (tc_ B i n)), (3, .int ((bs_ (fun j => tc_ B j n) 0 i).2)), (2, .int (oI_ (bs_ (fun j => tc_ B j n) 0 i).1)), (0, .ref (g 1)), (1, .int (nI n))]) hx hb dX2_oftenestOwner_41 hl (k := 1) rfl (by first | rfl | decide) (by decide) rfl (fun ls hl => ?_)
          refine lv_goto (tgt := 8) hx hb dX2_oftenestOwner_44 (by decide) ?_
          exact ih_8 (i + 1) (oI_ (bs_ (fun j => tc_ B j n) 0 i).1) ((bs_ (fun j => tc_ B j n) 0 i).2) ((nI i) + 1) u_2 (by simp only [bs_]; first | rw [if_pos (Int32.not_le.mp c_32)]; done | rw [if_pos (Int32.not_le.mp c_32)]; rfl | rw [if_neg (Int32.not_lt.mpr c_32)]) (by simp only [bs_]; first | rw [if_pos (Int32.not_le.mp c_32)]; done | rw [if_pos (Int32.not_le.mp c_32)]; rfl | rw [if_neg (Int32.not_lt.mpr c_32)]) (by first | rfl | exact nI_1 _) (by omega) (by omega) _ _ hP hD hS ls (lv_sub hl [0, 2, 3, 4, 5] rfl)
        · have d_32 := Int32.not_le.mp c_32
          refine lv_iload hx hb dX2_oftenestOwner_35 (lv_at hl 1 rfl) ?_
          refine lv_istore_n (lv' := [(2, .int (nI i)), (5, .int (tc_ B i n)), (4, .int (nI i)), (3, .int ((bs_ (fun j => tc_ B j n) 0 i).2)), (0, .ref (g 1)), (1, .int (nI n))]) hx hb dX2_oftenestOwner_37 rfl hl (by decide) rfl (fun ls hl => ?_)
          refine lv_iload hx hb dX2_oftenestOwner_38 (lv_at hl 1 rfl) ?_
          refine lv_istore_n (lv' := [(3, .int (tc_ B i n)), (2, .int (nI i)), (5, .int (tc_ B i n)), (4, .int (nI i)), (0, .ref (g 1)), (1, .int (nI n))]) hx hb dX2_oftenestOwner_40 rfl hl (by decide) rfl (fun ls hl => ?_)
          refine lv_iinc (v := (nI i) + 1) (lv' := [(4, .int ((nI i) + 1)), (3, .int (tc_ B i n)), (2, .int (nI i)), (5, .int (tc_ B i n)), (0, .ref (g 1)), (1, .int (nI n))]) hx hb dX2_oftenestOwner_41 hl (k := 3) rfl (by first | rfl | decide) (by decide) rfl (fun ls hl => ?_)
          refine lv_goto (tgt := 8) hx hb dX2_oftenestOwner_44 (by decide) ?_
          exact ih_8 (i + 1) (nI i) (tc_ B i n) ((nI i) + 1) u_2 (by simp only [bs_]; first | rw [if_pos (Int32.not_le.mp c_32)]; done | rw [if_pos (Int32.not_le.mp c_32)]; rfl | rw [if_neg (Int32.not_lt.mpr c_32)]) (by simp only [bs_]; first | rw [if_pos (Int32.not_le.mp c_32)]; done | rw [if_pos (Int32.not_le.mp c_32)]; rfl | rw [if_neg (Int32.not_lt.mpr c_32)]) (by first | rfl | exact nI_1 _) (by omega) (by omega) _ _ hP hD hS ls (lv_sub hl [0, 1, 2, 4, 5] rfl)
  exact lp_8 ((sn_ B) + 1) 0 (-9) 0 0 T (by first | rfl | exact nI_0.symm) (by first | rfl | exact nI_0.symm) (by first | rfl | exact nI_0.symm) (by omega) (by omega) _ _ hP hD hS ls (lv_sub hl [0, 1, 2, 3, 4] rfl)

theorem okX2_leastPlace : jok yX2_leastPlace wsX2_leastPlace cX2_leastPlace 5 (some .int) 1 := ⟨⟨_, rfl⟩, by decide +kernel, by decide +kernel⟩
set_option maxHeartbeats 1000000 in
set_option maxRecDepth 100000 in
theorem qX2_leastPlace (l : Launch) (D : va_G) (cI cB : ClassId) (g : Nat → Nat) (B : BayT) (T : BayT) (n : Nat) (hn7 : sn_ B ≤ 7) (hn : n ≤ 99) : jMi D cI cB l yX2_leastPlace wsX2_leastPlace 4 [.ref (g 1), .int (nI n)] (miO g ++ bW cI g 4 B ++ bW cI g 10 T) (S := BayT) (fun r u => r = lp_ B n) (fun u => miO g ++ bW cI g 4 B ++ bW cI g 10 u) := by
  refine jMi.of (cc := cX2_leastPlace) (maxL := 5) (ret := (some .int)) okX2_leastPlace (Nat.le_of_ble_eq_true rfl) ?_
  intro p e s m below meth c ls A hx hb hr hts hown hlk hml hP hK hD hA hS hl
  replace hown : s.vm.findClass RX2 = some m.cls := hown
  replace hl : lv_has ls 5 [(0, .ref (g 1)), (1, .int (nI n))] := hl
  have hinX0 : ∀ w ∈ wsX00, w ∈ wsX2_leastPlace := by decide +kernel
  refine lv_aload_n hx hb dX2_leastPlace_0 rfl (lv_at hl 0 rfl) ?_
  refine kMrV hx hb hml hown hts hK hP hD hA hS gX2_leastPlace_X2_asNow okX2_asNow (qX2_asNow l D cI cB g B T ) [0, 1, 2, 3, 4, 5, 6, 7, 8, 9, 10, 11, 12] rfl (by decide) (fun _ => rfl) rfl rfl rfl (by decide) hl.1 rfl rfl (Nat.le_of_ble_eq_true rfl) dX2_leastPlace_1 (by decide) (fun u_2 H locs hw_3 hP hD hS => ?_)
  replace hw_3 : u_2 = B := hw_3
  subst u_2
  replace hP : va_P D vwCl (miO g ++ bW cI g 4 B ++ bW cI g 10 (B)) H := hP
  replace hD : va_D A (miO g ++ bW cI g 4 B ++ bW cI g 10 (B)) := hD
  refine lv_astore_n (lv' := [(2, .ref (g 10)), (0, .ref (g 1)), (1, .int (nI n))]) hx hb dX2_leastPlace_4 rfl hl (by decide) rfl (fun ls hl => ?_)
  refine lv_aload_n hx hb dX2_leastPlace_5 rfl (lv_at hl 0 rfl) ?_
  refine va_getN (ci := 0) (C := RX0) (T := TX0) (N := 11) hx hb hts hinX0 hown hK.1 hP 7 rfl rfl 7 (by decide) (va_Nw.use rfl (hK.2 _ (List.mem_of_getElem? (i := 15) rfl))) (fun _ h9 => h9) rfl dX2_leastPlace_6 ?_
  refine lv_istore_n (lv' := [(3, .int (il_ (B))), (2, .ref (g 10)), (0, .ref (g 1)), (1, .int (nI n))]) hx hb dX2_leastPlace_9 rfl hl (by decide) rfl (fun ls hl => ?_)
  refine lv_iconst (v := 0) hx hb dX2_leastPlace_10 (by decide) ?_
  refine lv_istore (lv' := [(4, .int 0), (3, .int (il_ (B))), (2, .ref (g 10)), (0, .ref (g 1)), (1, .int (nI n))]) hx hb dX2_leastPlace_11 hl (by decide) rfl (fun ls hl => ?_)
  have lp_13 : ∀ (fu_13 : Nat) (i : Nat) (x3_13 : Int32) (x4_13 : Int32) (T2 : BayT), (x3_13 = lp_ B i) → (x4_13 = nI i) → (T2 = hs_ i B) → (i ≤ n) → n - i < fu_13 → ∀ (H : Heap) (locs : List Loc), va_P D vwCl (miO g ++ bW cI g 4 B ++ bW cI g 10 T2) H → va_D A (miO g ++ bW cI g 4 B ++ bW cI g 10 T2) → va_S A s.heap H locs → ∀ ls : Array Slot, lv_has ls 5 [(4, .int x4_13), (3, .int x3_13), (2, .ref (g 10)), (0, .ref (g 1)), (1, .int (nI n))] → W p l e (jR 4) s m ([.ref (g 1), .int (nI n)] : List Value).toArray below meth c H locs 0 0 (MQ below (va_Qi (S := BayT) (fun r u => r = lp_ B n) (fun u t => va_P D vwCl ((fun u => miO g ++ bW cI g 4 B ++ bW cI g 10 u) u) t.heap) A) ([.ref (g 1), .int (nI n)] : List Value).toArray s 0 0 A) (F0 m 13 ls []) := by
    intro fu_13
    induction fu_13 with
    | zero => intro i x3_13 x4_13 T2 hx3_13 hx4_13 hT2 hi hfu; exact absurd hfu (Nat.not_lt_zero _)
    | succ fu_13 ih_13 =>
      intro i x3_13 x4_13 T2 hx3_13 hx4_13 hT2 hi hfu_13 H locs hP hD hS ls hl
      subst x3_13
      subst x4_13
      subst T2
      replace hl : lv_has ls 5 [(4, .int (nI i)), (3, .int (lp_ B i)), (2, .ref (g 10)), (0, .ref (g 1)), (1, .int (nI n))] := hl
      replace hP : va_P D vwCl (miO g ++ bW cI g 4 B ++ bW cI g 10 (hs_ i B)) H := hP
      replace hD : va_D A (miO g ++ bW cI g 4 B ++ bW cI g 10 (hs_ i B)) := hD
      refine lv_iload hx hb dX2_leastPlace_13 (lv_at hl 0 rfl) ?_
      refine lv_iload_n hx hb dX2_leastPlace_15 rfl (lv_at hl 4 rfl) ?_
      refine lv_icmp_ge (tgt := 39) hx hb dX2_leastPlace_16 (by decide) (fun c_16 => ?_) (fun c_16 => ?_)
      · replace c_16 : nI n ≤ nI i := c_16
        rw [jle (by omega) (by omega)] at c_16
        refine lv_iload_n hx hb dX2_leastPlace_39 rfl (lv_at hl 1 rfl) ?_
        refine rMi hx hb hr hlk hS (hs_ i B) hP ?_ dX2_leastPlace_40
        have e9 : i = n := by omega
        rw [e9]
      · replace c_16 : ¬ nI n ≤ nI i := c_16
        rw [jle (by omega) (by omega)] at c_16
        refine lv_aload_n hx hb dX2_leastPlace_19 rfl (lv_at hl 2 rfl) ?_
        refine lv_iconst (v := 0) hx hb dX2_leastPlace_20 (by decide) ?_
        refine kMvN hx hb hml hown hts hK hP hD hA hS gX2_leastPlace_X0_passHour_n40 (hK.2 _ (List.mem_of_getElem? (i := 85) rfl)) (hts _ (List.mem_of_getElem? (i := 13) rfl)) (hts _ (List.mem_of_getElem? (i := 31) rfl)) (hts _ (List.mem_of_getElem? (i := 32) rfl)) okX0_passHour (qX0_passHour l D cI cB g 10 (hs_ i B) False inferInstance (by show sn_ (hs_ _ _) ≤ 7; rw [sn_hs]; omega)) [7, 8, 9, 10, 11, 12] rfl (by decide) (fun _ => rfl) rfl rfl rfl (by decide) hl.1 rfl rfl (Nat.le_of_ble_eq_true rfl) dX2_leastPlace_21 (by decide) (fun u_5 H locs hw_6 hP hD hS => ?_)
        replace hw_6 : u_5 = hb_ False (hs_ i B) := hw_6
        subst u_5
        replace hP : va_P D vwCl (miO g ++ bW cI g 4 B ++ bW cI g 10 (hb_ False (hs_ i B))) H := hP
        replace hD : va_D A (miO g ++ bW cI g 4 B ++ bW cI g 10 (hb_ False (hs_ i B))) := hD
        refine lv_iload_n hx hb dX2_leastPlace_24 rfl (lv_at hl 1 rfl) ?_
        refine lv_aload_n hx hb dX2_leastPlace_25 rfl (lv_at hl 2 rfl) ?_
        refine va_getN (ci := 0) (C := RX0) (T := TX0) (N := 11) hx hb hts hinX0 hown hK.1 hP 7 rfl rfl 7 (by decide) (va_Nw.use rfl (hK.2 _ (List.mem_of_getElem? (i := 15) rfl))) (fun _ h9 => h9) rfl dX2_leastPlace_26 ?_
        refine va_mmin hx hb (hml.trans hl.1.symm) hown (hts _ (List.mem_of_getElem? (i := 1) rfl)) (hts _ (List.mem_of_getElem? (i := 2) rfl)) (hts _ (List.mem_of_getElem? (i := 3) rfl)) (hts _ (List.mem_of_getElem? (i := 4) rfl)) (by decide) (Nat.le_of_ble_eq_true rfl) (by decide) (by decide) dX2_leastPlace_29 ?_
        refine lv_istore_n (lv' := [(3, .int (if (il_ (hb_ False (hs_ i B))) < (lp_ B i) then (il_ (hb_ False (hs_ i B))) else (lp_ B i))), (4, .int (nI i)), (2, .ref (g 10)), (0, .ref (g 1)), (1, .int (nI n))]) hx hb dX2_leastPlace_32 rfl hl (by decide) rfl (fun ls hl => ?_)
        refine lv_iinc (v := (nI i) + 1) (lv' := [(4, .int ((nI i) + 1)), (3, .int (if (il_ (hb_ False (hs_ i B))) < (lp_ B i) then (il_ (hb_ False (hs_ i B))) else (lp_ B i))), (2, .ref (g 10)), (0, .ref (g 1)), (1, .int (nI n))]) hx hb dX2_leastPlace_33 hl (k := 1) rfl (by first | rfl | decide) (by decide) rfl (fun ls hl => ?_)
        refine lv_goto (tgt := 13) hx hb dX2_leastPlace_36 (by decide) ?_
        exact ih_13 (i + 1) (if (il_ (hb_ False (hs_ i B))) < (lp_ B i) then (il_ (hb_ False (hs_ i B))) else (lp_ B i)) ((nI i) + 1) (hb_ False (hs_ i B)) (by first | rfl | exact nI_1 _) (by first | rfl | exact nI_1 _) (rfl) (by omega) (by omega) _ _ hP hD hS ls (lv_sub hl [0, 1, 2, 3, 4] rfl)
  exact lp_13 (n + 1) 0 (il_ (B)) 0 (B) (by first | rfl | exact nI_0.symm) (by first | rfl | exact nI_0.symm) (rfl) (by omega) (by omega) _ _ hP hD hS ls (lv_sub hl [0, 1, 2, 3, 4] rfl)

theorem okX2_greatestPlace : jok yX2_greatestPlace wsX2_greatestPlace cX2_greatestPlace 5 (some .int) 1 := ⟨⟨_, rfl⟩, by decide +kernel, by decide +kernel⟩
set_option maxHeartbeats 1000000 in
set_option maxRecDepth 100000 in
theorem qX2_greatestPlace (l : Launch) (D : va_G) (cI cB : ClassId) (g : Nat → Nat) (B : BayT) (T : BayT) (n : Nat) (hn7 : sn_ B ≤ 7) (hn : n ≤ 99) : jMi D cI cB l yX2_greatestPlace wsX2_greatestPlace 4 [.ref (g 1), .int (nI n)] (miO g ++ bW cI g 4 B ++ bW cI g 10 T) (S := BayT) (fun r u => r = gp_ B n) (fun u => miO g ++ bW cI g 4 B ++ bW cI g 10 u) := by
  refine jMi.of (cc := cX2_greatestPlace) (maxL := 5) (ret := (some .int)) okX2_greatestPlace (Nat.le_of_ble_eq_true rfl) ?_
  intro p e s m below meth c ls A hx hb hr hts hown hlk hml hP hK hD hA hS hl
  replace hown : s.vm.findClass RX2 = some m.cls := hown
  replace hl : lv_has ls 5 [(0, .ref (g 1)), (1, .int (nI n))] := hl
  have hinX0 : ∀ w ∈ wsX00, w ∈ wsX2_greatestPlace := by decide +kernel
  refine lv_aload_n hx hb dX2_greatestPlace_0 rfl (lv_at hl 0 rfl) ?_
  refine kMrV hx hb hml hown hts hK hP hD hA hS gX2_greatestPlace_X2_asNow okX2_asNow (qX2_asNow l D cI cB g B T ) [0, 1, 2, 3, 4, 5, 6, 7, 8, 9, 10, 11, 12] rfl (by decide) (fun _ => rfl) rfl rfl rfl (by decide) hl.1 rfl rfl (Nat.le_of_ble_eq_true rfl) dX2_greatestPlace_1 (by decide) (fun u_2 H locs hw_3 hP hD hS => ?_)
  replace hw_3 : u_2 = B := hw_3
  subst u_2
  replace hP : va_P D vwCl (miO g ++ bW cI g 4 B ++ bW cI g 10 (B)) H := hP
  replace hD : va_D A (miO g ++ bW cI g 4 B ++ bW cI g 10 (B)) := hD
  refine lv_astore_n (lv' := [(2, .ref (g 10)), (0, .ref (g 1)), (1, .int (nI n))]) hx hb dX2_greatestPlace_4 rfl hl (by decide) rfl (fun ls hl => ?_)
  refine lv_aload_n hx hb dX2_greatestPlace_5 rfl (lv_at hl 0 rfl) ?_
  refine va_getN (ci := 0) (C := RX0) (T := TX0) (N := 11) hx hb hts hinX0 hown hK.1 hP 7 rfl rfl 7 (by decide) (va_Nw.use rfl (hK.2 _ (List.mem_of_getElem? (i := 15) rfl))) (fun _ h9 => h9) rfl dX2_greatestPlace_6 ?_
  refine lv_istore_n (lv' := [(3, .int (il_ (B))), (2, .ref (g 10)), (0, .ref (g 1)), (1, .int (nI n))]) hx hb dX2_greatestPlace_9 rfl hl (by decide) rfl (fun ls hl => ?_)
  refine lv_iconst (v := 0) hx hb dX2_greatestPlace_10 (by decide) ?_
  refine lv_istore (lv' := [(4, .int 0), (3, .int (il_ (B))), (2, .ref (g 10)), (0, .ref (g 1)), (1, .int (nI n))]) hx hb dX2_greatestPlace_11 hl (by decide) rfl (fun ls hl => ?_)
  have lp_13 : ∀ (fu_13 : Nat) (i : Nat) (x3_13 : Int32) (x4_13 : Int32) (T2 : BayT), (x3_13 = gp_ B i) → (x4_13 = nI i) → (T2 = hs_ i B) → (i ≤ n) → n - i < fu_13 → ∀ (H : Heap) (locs : List Loc), va_P D vwCl (miO g ++ bW cI g 4 B ++ bW cI g 10 T2) H → va_D A (miO g ++ bW cI g 4 B ++ bW cI g 10 T2) → va_S A s.heap H locs → ∀ ls : Array Slot, lv_has ls 5 [(4, .int x4_13), (3, .int x3_13), (2, .ref (g 10)), (0, .ref (g 1)), (1, .int (nI n))] → W p l e (jR 4) s m ([.ref (g 1), .int (nI n)] : List Value).toArray below meth c H locs 0 0 (MQ below (va_Qi (S := BayT) (fun r u => r = gp_ B n) (fun u t => va_P D vwCl ((fun u => miO g ++ bW cI g 4 B ++ bW cI g 10 u) u) t.heap) A) ([.ref (g 1), .int (nI n)] : List Value).toArray s 0 0 A) (F0 m 13 ls []) := by
    intro fu_13
    induction fu_13 with
    | zero => intro i x3_13 x4_13 T2 hx3_13 hx4_13 hT2 hi hfu; exact absurd hfu (Nat.not_lt_zero _)
    | succ fu_13 ih_13 =>
      intro i x3_13 x4_13 T2 hx3_13 hx4_13 hT2 hi hfu_13 H locs hP hD hS ls hl
      subst x3_13
      subst x4_13
      subst T2
      replace hl : lv_has ls 5 [(4, .int (nI i)), (3, .int (gp_ B i)), (2, .ref (g 10)), (0, .ref (g 1)), (1, .int (nI n))] := hl
      replace hP : va_P D vwCl (miO g ++ bW cI g 4 B ++ bW cI g 10 (hs_ i B)) H := hP
      replace hD : va_D A (miO g ++ bW cI g 4 B ++ bW cI g 10 (hs_ i B)) := hD
      refine lv_iload hx hb dX2_greatestPlace_13 (lv_at hl 0 rfl) ?_
      refine lv_iload_n hx hb dX2_greatestPlace_15 rfl (lv_at hl 4 rfl) ?_
      refine lv_icmp_ge (tgt := 39) hx hb dX2_greatestPlace_16 (by decide) (fun c_16 => ?_) (fun c_16 => ?_)
      · replace c_16 : nI n ≤ nI i := c_16
        rw [jle (by omega) (by omega)] at c_16
        refine lv_iload_n hx hb dX2_greatestPlace_39 rfl (lv_at hl 1 rfl) ?_
        refine rMi hx hb hr hlk hS (hs_ i B) hP ?_ dX2_greatestPlace_40
        have e9 : i = n := by omega
        rw [e9]
      · replace c_16 : ¬ nI n ≤ nI i := c_16
        rw [jle (by omega) (by omega)] at c_16
        refine lv_aload_n hx hb dX2_greatestPlace_19 rfl (lv_at hl 2 rfl) ?_
        refine lv_iconst (v := 0) hx hb dX2_greatestPlace_20 (by decide) ?_
        refine kMvN hx hb hml hown hts hK hP hD hA hS gX2_greatestPlace_X0_passHour_n40 (hK.2 _ (List.mem_of_getElem? (i := 85) rfl)) (hts _ (List.mem_of_getElem? (i := 13) rfl)) (hts _ (List.mem_of_getElem? (i := 31) rfl)) (hts _ (List.mem_of_getElem? (i := 32) rfl)) okX0_passHour (qX0_passHour l D cI cB g 10 (hs_ i B) False inferInstance (by show sn_ (hs_ _ _) ≤ 7; rw [sn_hs]; omega)) [7, 8, 9, 10, 11, 12] rfl (by decide) (fun _ => rfl) rfl rfl rfl (by decide) hl.1 rfl rfl (Nat.le_of_ble_eq_true rfl) dX2_greatestPlace_21 (by decide) (fun u_5 H locs hw_6 hP hD hS => ?_)
        replace hw_6 : u_5 = hb_ False (hs_ i B) := hw_6
        subst u_5
        replace hP : va_P D vwCl (miO g ++ bW cI g 4 B ++ bW cI g 10 (hb_ False (hs_ i B))) H := hP
        replace hD : va_D A (miO g ++ bW cI g 4 B ++ bW cI g 10 (hb_ False (hs_ i B))) := hD
        refine lv_iload_n hx hb dX2_greatestPlace_24 rfl (lv_at hl 1 rfl) ?_
        refine lv_aload_n hx hb dX2_greatestPlace_25 rfl (lv_at hl 2 rfl) ?_
        refine va_getN (ci := 0) (C := RX0) (T := TX0) (N := 11) hx hb hts hinX0 hown hK.1 hP 7 rfl rfl 7 (by decide) (va_Nw.use rfl (hK.2 _ (List.mem_of_getElem? (i := 15) rfl))) (fun _ h9 => h9) rfl dX2_greatestPlace_26 ?_
        refine va_mmax hx hb (hml.trans hl.1.symm) hown (hts _ (List.mem_of_getElem? (i := 1) rfl)) (hts _ (List.mem_of_getElem? (i := 2) rfl)) (hts _ (List.mem_of_getElem? (i := 3) rfl)) (hts _ (List.mem_of_getElem? (i := 4) rfl)) (by decide) (Nat.le_of_ble_eq_true rfl) (by decide) (by decide) dX2_greatestPlace_29 ?_
        refine lv_istore_n (lv' := [(3, .int (if (gp_ B i) < (il_ (hb_ False (hs_ i B))) then (il_ (hb_ False (hs_ i B))) else (gp_ B i))), (4, .int (nI i)), (2, .ref (g 10)), (0, .ref (g 1)), (1, .int (nI n))]) hx hb dX2_greatestPlace_32 rfl hl (by decide) rfl (fun ls hl => ?_)
        refine lv_iinc (v := (nI i) + 1) (lv' := [(4, .int ((nI i) + 1)), (3, .int (if (gp_ B i) < (il_ (hb_ False (hs_ i B))) then (il_ (hb_ False (hs_ i B))) else (gp_ B i))), (2, .ref (g 10)), (0, .ref (g 1)), (1, .int (nI n))]) hx hb dX2_greatestPlace_33 hl (k := 1) rfl (by first | rfl | decide) (by decide) rfl (fun ls hl => ?_)
        refine lv_goto (tgt := 13) hx hb dX2_greatestPlace_36 (by decide) ?_
        exact ih_13 (i + 1) (if (gp_ B i) < (il_ (hb_ False (hs_ i B))) then (il_ (hb_ False (hs_ i B))) else (gp_ B i)) ((nI i) + 1) (hb_ False (hs_ i B)) (by first | rfl | exact nI_1 _) (by first | rfl | exact nI_1 _) (rfl) (by omega) (by omega) _ _ hP hD hS ls (lv_sub hl [0, 1, 2, 3, 4] rfl)
  exact lp_13 (n + 1) 0 (il_ (B)) 0 (B) (by first | rfl | exact nI_0.symm) (by first | rfl | exact nI_0.symm) (rfl) (by omega) (by omega) _ _ hP hD hS ls (lv_sub hl [0, 1, 2, 3, 4] rfl)

theorem okX2_ringBehind : jok yX2_ringBehind wsX2_ringBehind cX2_ringBehind 6 (some .int) 1 := ⟨⟨_, rfl⟩, by decide +kernel, by decide +kernel⟩
set_option maxHeartbeats 1000000 in
set_option maxRecDepth 100000 in
theorem qX2_ringBehind (l : Launch) (D : va_G) (cI cB : ClassId) (g : Nat → Nat) (B : BayT) (T : BayT) (n : Nat) (hn7 : sn_ B ≤ 7) (hn : n ≤ 99) : jMi D cI cB l yX2_ringBehind wsX2_ringBehind 6 [.ref (g 1), .int (nI n)] (miO g ++ bW cI g 4 B ++ bW cI g 10 T) (S := BayT) (fun r u => r = oI_ (rg_ (hs_ n B) 48 0)) (fun u => miO g ++ bW cI g 4 B ++ bW cI g 10 u) := by
  refine jMi.of (cc := cX2_ringBehind) (maxL := 6) (ret := (some .int)) okX2_ringBehind (Nat.le_of_ble_eq_true rfl) ?_
  intro p e s m below meth c ls A hx hb hr hts hown hlk hml hP hK hD hA hS hl
  replace hown : s.vm.findClass RX2 = some m.cls := hown
  replace hl : lv_has ls 6 [(0, .ref (g 1)), (1, .int (nI n))] := hl
  have hinX0 : ∀ w ∈ wsX00, w ∈ wsX2_ringBehind := by decide +kernel
  refine lv_aload_n hx hb dX2_ringBehind_0 rfl (lv_at hl 0 rfl) ?_
  refine lv_iload_n hx hb dX2_ringBehind_1 rfl (lv_at hl 1 rfl) ?_
  refine kMrV hx hb hml hown hts hK hP hD hA hS gX2_ringBehind_X2_after okX2_after (qX2_after l D cI cB g B T n (by show sn_ B ≤ 7; omega) (by omega)) [0, 1, 2, 3, 4, 5, 6, 7, 8, 9, 10, 11, 12] rfl (by decide) (fun _ => rfl) rfl rfl rfl (by decide) hl.1 rfl rfl (Nat.le_of_ble_eq_true rfl) dX2_ringBehind_2 (by decide) (fun u_2 H locs hw_3 hP hD hS => ?_)
  replace hw_3 : u_2 = hs_ n B := hw_3
  subst u_2
  replace hP : va_P D vwCl (miO g ++ bW cI g 4 B ++ bW cI g 10 (hs_ n B)) H := hP
  replace hD : va_D A (miO g ++ bW cI g 4 B ++ bW cI g 10 (hs_ n B)) := hD
  refine lv_astore_n (lv' := [(2, .ref (g 10)), (0, .ref (g 1)), (1, .int (nI n))]) hx hb dX2_ringBehind_5 rfl hl (by decide) rfl (fun ls hl => ?_)
  refine lv_aload_n hx hb dX2_ringBehind_6 rfl (lv_at hl 0 rfl) ?_
  refine va_getN (ci := 0) (C := RX0) (T := TX0) (N := 11) hx hb hts hinX0 hown hK.1 hP 7 rfl rfl 7 (by decide) (va_Nw.use rfl (hK.2 _ (List.mem_of_getElem? (i := 15) rfl))) (fun _ h9 => h9) rfl dX2_ringBehind_7 ?_
  refine lv_istore_n (lv' := [(3, .int (il_ (hs_ n B))), (2, .ref (g 10)), (0, .ref (g 1)), (1, .int (nI n))]) hx hb dX2_ringBehind_10 rfl hl (by decide) rfl (fun ls hl => ?_)
  refine lv_aload_n hx hb dX2_ringBehind_11 rfl (lv_at hl 1 rfl) ?_
  refine va_getN (ci := 0) (C := RX0) (T := TX0) (N := 11) hx hb hts hinX0 hown hK.1 hP 7 rfl rfl 9 (by decide) (va_Nw.use rfl (hK.2 _ (List.mem_of_getElem? (i := 19) rfl))) (fun _ h9 => h9) rfl dX2_ringBehind_12 ?_
  refine lv_istore (lv' := [(4, .int (ho_ (hs_ n B))), (3, .int (il_ (hs_ n B))), (2, .ref (g 10)), (0, .ref (g 1)), (1, .int (nI n))]) hx hb dX2_ringBehind_15 hl (by decide) rfl (fun ls hl => ?_)
  refine lv_iconst (v := 1) hx hb dX2_ringBehind_17 (by decide) ?_
  refine lv_istore (lv' := [(5, .int 1), (4, .int (ho_ (hs_ n B))), (3, .int (il_ (hs_ n B))), (2, .ref (g 10)), (0, .ref (g 1)), (1, .int (nI n))]) hx hb dX2_ringBehind_18 hl (by decide) rfl (fun ls hl => ?_)
  have lp_20 : ∀ (fu_20 : Nat) (i : Nat) (x5_20 : Int32) (T2 : BayT), (x5_20 = nI (i + 1)) → (T2 = hs_ i (hs_ n B)) → (i ≤ 48) → (rg_ (hs_ n B) (48 - i) i = rg_ (hs_ n B) 48 0) → 48 - i < fu_20 → ∀ (H : Heap) (locs : List Loc), va_P D vwCl (miO g ++ bW cI g 4 B ++ bW cI g 10 T2) H → va_D A (miO g ++ bW cI g 4 B ++ bW cI g 10 T2) → va_S A s.heap H locs → ∀ ls : Array Slot, lv_has ls 6 [(5, .int x5_20), (4, .int (ho_ (hs_ n B))), (3, .int (il_ (hs_ n B))), (2, .ref (g 10)), (0, .ref (g 1)), (1, .int (nI n))] → W p l e (jR 6) s m ([.ref (g 1), .int (nI n)] : List Value).toArray below meth c H locs 0 0 (MQ below (va_Qi (S := BayT) (fun r u => r = oI_ (rg_ (hs_ n B) 48 0)) (fun u t => va_P D vwCl ((fun u => miO g ++ bW cI g 4 B ++ bW cI g 10 u) u) t.heap) A) ([.ref (g 1), .int (nI n)] : List Value).toArray s 0 0 A) (F0 m 20 ls []) := by
    intro fu_20
    induction fu_20 with
    | zero => intro i x5_20 T2 hx5_20 hT2 hi hre hfu; exact absurd hfu (Nat.not_lt_zero _)
    | succ fu_20 ih_20 =>
      intro i x5_20 T2 hx5_20 hT2 hi hre hfu_20 H locs hP hD hS ls hl
      subst x5_20
      subst T2
      replace hl : lv_has ls 6 [(5, .int (nI (i + 1))), (4, .int (ho_ (hs_ n B))), (3, .int (il_ (hs_ n B))), (2, .ref (g 10)), (0, .ref (g 1)), (1, .int (nI n))] := hl
      replace hP : va_P D vwCl (miO g ++ bW cI g 4 B ++ bW cI g 10 (hs_ i (hs_ n B))) H := hP
      replace hD : va_D A (miO g ++ bW cI g 4 B ++ bW cI g 10 (hs_ i (hs_ n B))) := hD
      refine lv_iload hx hb dX2_ringBehind_20 (lv_at hl 0 rfl) ?_
      refine lv_bipush (v := 48) hx hb dX2_ringBehind_22 (by decide) ?_
      refine lv_icmp_gt (tgt := 58) hx hb dX2_ringBehind_24 (by decide) (fun c_24 => ?_) (fun c_24 => ?_)
      · replace c_24 : nI 48 < nI (i + 1) := c_24
        rw [jlt (by omega) (by omega)] at c_24
        refine lv_bipush (v := (-9)) hx hb dX2_ringBehind_58 (by decide) ?_
        refine rMi hx hb hr hlk hS (hs_ i (hs_ n B)) hP ?_ dX2_ringBehind_60
        rw [rg_0 (by omega)] at hre; rw [← hre]; rfl
      · replace c_24 : ¬ nI 48 < nI (i + 1) := c_24
        rw [jlt (by omega) (by omega)] at c_24
        refine lv_aload_n hx hb dX2_ringBehind_27 rfl (lv_at hl 3 rfl) ?_
        refine lv_iconst (v := 0) hx hb dX2_ringBehind_28 (by decide) ?_
        refine kMvN hx hb hml hown hts hK hP hD hA hS gX2_ringBehind_X0_passHour_n40 (hK.2 _ (List.mem_of_getElem? (i := 85) rfl)) (hts _ (List.mem_of_getElem? (i := 13) rfl)) (hts _ (List.mem_of_getElem? (i := 35) rfl)) (hts _ (List.mem_of_getElem? (i := 36) rfl)) okX0_passHour (qX0_passHour l D cI cB g 10 (hs_ i (hs_ n B)) False inferInstance (by show sn_ (hs_ _ (hs_ _ _)) ≤ 7; rw [sn_hs, sn_hs]; omega)) [7, 8, 9, 10, 11, 12] rfl (by decide) (fun _ => rfl) rfl rfl rfl (by decide) hl.1 rfl rfl (Nat.le_of_ble_eq_true rfl) dX2_ringBehind_29 (by decide) (fun u_5 H locs hw_6 hP hD hS => ?_)
        replace hw_6 : u_5 = hb_ False (hs_ i (hs_ n B)) := hw_6
        subst u_5
        replace hP : va_P D vwCl (miO g ++ bW cI g 4 B ++ bW cI g 10 (hb_ False (hs_ i (hs_ n B)))) H := hP
        replace hD : va_D A (miO g ++ bW cI g 4 B ++ bW cI g 10 (hb_ False (hs_ i (hs_ n B)))) := hD
        refine lv_aload_n hx hb dX2_ringBehind_32 rfl (lv_at hl 3 rfl) ?_
        refine va_getN (ci := 0) (C := RX0) (T := TX0) (N := 11) hx hb hts hinX0 hown hK.1 hP 7 rfl rfl 7 (by decide) (va_Nw.use rfl (hK.2 _ (List.mem_of_getElem? (i := 15) rfl))) (fun _ h9 => h9) rfl dX2_ringBehind_33 ?_
        refine lv_iload_n hx hb dX2_ringBehind_36 rfl (lv_at hl 2 rfl) ?_
        refine lv_icmp_ne (tgt := 52) hx hb dX2_ringBehind_37 (by decide) (fun c_37 => ?_) (fun c_37 => ?_)
        · skip
          refine lv_iinc (v := (nI (i + 1)) + 1) (lv' := [(5, .int ((nI (i + 1)) + 1)), (4, .int (ho_ (hs_ n B))), (3, .int (il_ (hs_ n B))), (2, .ref (g 10)), (0, .ref (g 1)), (1, .int (nI n))]) hx hb dX2_ringBehind_52 hl (k := 0) rfl (by first | rfl | decide) (by decide) rfl (fun ls hl => ?_)
          refine lv_goto (tgt := 20) hx hb dX2_ringBehind_55 (by decide) ?_
          exact ih_20 (i + 1) ((nI (i + 1)) + 1) (hb_ False (hs_ i (hs_ n B))) (by first | rfl | exact nI_1 _) (rfl) (by omega) (by rw [rg_s (by omega), if_neg (fun q => by first | exact c_37 q.1 | exact c_46 q.2)] at hre; exact hre) (by omega) _ _ hP hD hS ls (lv_sub hl [0, 1, 2, 3, 4, 5] rfl)
        · skip
          refine lv_aload_n hx hb dX2_ringBehind_40 rfl (lv_at hl 3 rfl) ?_
          refine va_getN (ci := 0) (C := RX0) (T := TX0) (N := 11) hx hb hts hinX0 hown hK.1 hP 7 rfl rfl 9 (by decide) (va_Nw.use rfl (hK.2 _ (List.mem_of_getElem? (i := 19) rfl))) (fun _ h9 => h9) rfl dX2_ringBehind_41 ?_
          refine lv_iload hx hb dX2_ringBehind_44 (lv_at hl 1 rfl) ?_
          refine lv_icmp_ne (tgt := 52) hx hb dX2_ringBehind_46 (by decide) (fun c_46 => ?_) (fun c_46 => ?_)
          · skip
            refine lv_iinc (v := (nI (i + 1)) + 1) (lv' := [(5, .int ((nI (i + 1)) + 1)), (4, .int (ho_ (hs_ n B))), (3, .int (il_ (hs_ n B))), (2, .ref (g 10)), (0, .ref (g 1)), (1, .int (nI n))]) hx hb dX2_ringBehind_52 hl (k := 0) rfl (by first | rfl | decide) (by decide) rfl (fun ls hl => ?_)
            refine lv_goto (tgt := 20) hx hb dX2_ringBehind_55 (by decide) ?_
            exact ih_20 (i + 1) ((nI (i + 1)) + 1) (hb_ False (hs_ i (hs_ n B))) (by first | rfl | exact nI_1 _) (rfl) (by omega) (by rw [rg_s (by omega), if_neg (fun q => by first | exact c_37 q.1 | exact c_46 q.2)] at hre; exact hre) (by omega) _ _ hP hD hS ls (lv_sub hl [0, 1, 2, 3, 4, 5] rfl)
          · skip
            refine lv_iload hx hb dX2_ringBehind_49 (lv_at hl 0 rfl) ?_
            refine rMi hx hb hr hlk hS (hb_ False (hs_ i (hs_ n B))) hP ?_ dX2_ringBehind_51
            rw [rg_s (by omega), if_pos ⟨c_37, c_46⟩] at hre; rw [← hre]; rfl
  exact lp_20 (48 + 1) 0 1 (hs_ n B) (rfl) (rfl) (by omega) (rfl) (by omega) _ _ hP hD hS ls (lv_sub hl [0, 1, 2, 3, 4, 5] rfl)
