set_option maxHeartbeats 4000000 in
set_option maxRecDepth 100000 in
theorem k_m_why (l : Launch) (D : va_G) (a : Nat → Nat) (kI kZ : ClassId) (F : Nat → Nat → Int32) (hI : rm_I F) (sz : Nat) : rl_Ci (S := Nat → Nat → Int32) l ⟨"RightsLimitModel", "why", "()I"⟩ (Cond.code ⟨"RightsLimitModel", "why", "()I"⟩ prog_7_method_16_code 1 (some .int) :: rl_G) { frames := 0, cells := 0, slots := 0, locals := 0 } D rl_cl (rl_tys kI kZ) [] [.ref (a 0)] (rm_w a kI kZ F) sz (fun (r : Int32) (F' : Nat → Nat → Int32) => rm_R F' ∧ ((F' 27 2).toInt = (F 27 2).toInt ∧ (F' 27 3).toInt = (F 27 3).toInt ∧ (F' 27 4).toInt = (F 27 4).toInt ∧ (F' 27 5).toInt = (F 27 5).toInt)) (fun F' => rm_w a kI kZ F') 0 0 := by
  refine rl_meti (cc := prog_7_method_16_code) (maxL := 1) (ret := (some .int)) (by decide) rfl (Nat.le_of_ble_eq_true rfl) ?_
  intro p e s m below meth c A ls hx hb hr hml hown hts hlocks hnm hP hK hD hS hA hN hl
  have hown : s.vm.findClass "RightsLimitModel" = some m.cls := hown
  have hG : ∀ x ∈ rl_G, x.before _ s = true := fun x h => hts x (List.mem_cons_of_mem _ h)
  have hl : lv_has ls 1 [(0, .ref (a 0))] := hl
  obtain ⟨hcnt, hR⟩ := id hI
  refine lv_aload_n hx hb d_m_why_0 rfl (lv_at hl 0 rfl) ?_
  refine lv_iconst (v := 0) hx hb d_m_why_1 (by decide) ?_
  refine va_put (D := D) (ci := 5) (v := .int 0) (ty := .int) (C := "RightsLimitModel") (T := fT_m) (N := 33) hx hb hG fi_m fy_m fo_m fn_m hown hK hP hD hS 0 rfl rfl 0 (by decide) (hG _ wd_483) (fun _ h9 => h9) rfl (by decide +kernel) rfl rfl (Nat.le_of_ble_eq_true rfl) d_m_why_2 (fun H locs hP hD hS => ?_)
  obtain ⟨F1, eF1⟩ : ∃ G, G = rl_st F 27 0 0 := ⟨_, rfl⟩
  have hP : va_P D rl_cl (rm_w a kI kZ F1) H := by rw [eF1]; exact hP
  have hD : va_D A (rm_w a kI kZ F1) := by rw [eF1]; exact hD
  obtain ⟨tF1, hRF1⟩ := rm_putS eF1 (by decide) (by decide) (by decide) (by decide) hR
  refine lv_aload_n hx hb d_m_why_5 rfl (lv_at hl 0 rfl) ?_
  refine va_get (D := D) (ci := 5) (v := .int (F1 27 6)) (C := "RightsLimitModel") (T := fT_m) (N := 33) hx hb hG fi_m hown hK hP 0 rfl rfl 32 (by decide) (hG _ wd_515) (fun _ h9 => h9) rfl d_m_why_6 ?_
  exact W.iret (v := (F1 27 6)) hx hb hr (fun t ht hW => ⟨⟨(F1 27 6), F1, rfl, ⟨hRF1, (show (F1 27 2).toInt = (F 27 2).toInt ∧ (F1 27 3).toInt = (F 27 3).toInt ∧ (F1 27 4).toInt = (F 27 4).toInt ∧ (F1 27 5).toInt = (F 27 5).toInt by omega)⟩, ⟨by rw [ht]; exact hP, hD⟩⟩, hS.F ht⟩) hS.2.2 d_m_why_9
set_option maxHeartbeats 4000000 in
set_option maxRecDepth 100000 in
theorem k_m_give (l : Launch) (D : va_G) (a : Nat → Nat) (kI kZ : ClassId) (F : Nat → Nat → Int32) (jn jg jb : Int32) (hI : rm_I F) (sz : Nat) : rl_Ci (S := Nat → Nat → Int32) l ⟨"RightsLimitModel", "give", "(IIZ)I"⟩ (Cond.code ⟨"RightsLimitModel", "give", "(IIZ)I"⟩ prog_7_method_17_code 4 (some .int) :: rl_G) { frames := 1, cells := 0, slots := 0, locals := 22 } D rl_cl (rl_tys kI kZ) [] [.ref (a 0), .int jn, .int jg, .int jb] (rm_w a kI kZ F) sz (fun (r : Int32) (F' : Nat → Nat → Int32) => rm_R F' ∧ (((((0 ≤ jn.toInt ∧ jn.toInt ≤ 99) ∧ (1 ≤ jg.toInt ∧ jg.toInt ≤ 9)) ∧ r.toInt = 1) ∨ (¬ ((0 ≤ jn.toInt ∧ jn.toInt ≤ 99) ∧ (1 ≤ jg.toInt ∧ jg.toInt ≤ 9)) ∧ r.toInt = -2)) ∧ (F' 27 2).toInt = (F 27 2).toInt ∧ (F' 27 3).toInt = (F 27 3).toInt ∧ (F' 27 4).toInt = (F 27 4).toInt ∧ (F' 27 5).toInt = (F 27 5).toInt)) (fun F' => rm_w a kI kZ F') 0 0 := by
  refine rl_meti (cc := prog_7_method_17_code) (maxL := 4) (ret := (some .int)) (by decide) rfl (Nat.le_of_ble_eq_true rfl) ?_
  intro p e s m below meth c A ls hx hb hr hml hown hts hlocks hnm hP hK hD hS hA hN hl
  have hown : s.vm.findClass "RightsLimitModel" = some m.cls := hown
  have hG : ∀ x ∈ rl_G, x.before _ s = true := fun x h => hts x (List.mem_cons_of_mem _ h)
  have hl : lv_has ls 4 [(0, .ref (a 0)), (1, .int jn), (2, .int jg), (3, .int jb)] := hl
  obtain ⟨hcnt, hR⟩ := id hI
  refine lv_aload_n hx hb d_m_give_0 rfl (lv_at hl 0 rfl) ?_
  refine lv_iconst (v := 0) hx hb d_m_give_1 (by decide) ?_
  refine va_put (D := D) (ci := 5) (v := .int 0) (ty := .int) (C := "RightsLimitModel") (T := fT_m) (N := 33) hx hb hG fi_m fy_m fo_m fn_m hown hK hP hD hS 0 rfl rfl 0 (by decide) (hG _ wd_483) (fun _ h9 => h9) rfl (by decide +kernel) rfl rfl (Nat.le_of_ble_eq_true rfl) d_m_give_2 (fun H locs hP hD hS => ?_)
  obtain ⟨F1, eF1⟩ : ∃ G, G = rl_st F 27 0 0 := ⟨_, rfl⟩
  have hP : va_P D rl_cl (rm_w a kI kZ F1) H := by rw [eF1]; exact hP
  have hD : va_D A (rm_w a kI kZ F1) := by rw [eF1]; exact hD
  obtain ⟨tF1, hRF1⟩ := rm_putS eF1 (by decide) (by decide) (by decide) (by decide) hR
  refine lv_iload_n hx hb d_m_give_5 rfl (lv_at hl 1 rfl) ?_
  refine lv_iconst (v := 0) hx hb d_m_give_6 (by decide) ?_
  refine lv_bipush (v := 99) hx hb d_m_give_7 (by decide) ?_
  refine rl_callr hS (va_runS (As := [.int jn, .int 0, .int 99]) (rest := []) ⟨hx, hb, hml, hown, hG⟩ (k_m_in l D a kI kZ jn 0 99 _) (cwS 3 hG (rl_gS wd_587 wd_588 wd_19 wd_589) rfl rfl rfl (by decide +kernel) ⟨Nat.le_of_ble_eq_true rfl, Nat.le_of_ble_eq_true rfl⟩) (rl_BR.pre rl_nw0 rl_P0 hK hN) rfl rfl hl.1 rfl (lv_room (Nat.le_of_ble_eq_true rfl)) d_m_give_9 ⟨Nat.le_of_ble_eq_true rfl, Nat.le_of_ble_eq_true rfl⟩) (fun r2 locs hw hS => ?_)
  try simp only [rl_n0, rl_n99] at hw
  rcases hw with ⟨rfl, h3⟩ | ⟨rfl, h3⟩
  · refine lv_if_eq (tgt := 25) hx hb d_m_give_12 (by decide) (fun c9 => absurd c9 (by decide)) (fun _ => ?_)
    refine lv_iload_n hx hb d_m_give_15 rfl (lv_at hl 2 rfl) ?_
    refine lv_iconst (v := 1) hx hb d_m_give_16 (by decide) ?_
    refine lv_bipush (v := 9) hx hb d_m_give_17 (by decide) ?_
    refine rl_callr hS (va_runS (As := [.int jg, .int 1, .int 9]) (rest := []) ⟨hx, hb, hml, hown, hG⟩ (k_m_in l D a kI kZ jg 1 9 _) (cwS 3 hG (rl_gS wd_587 wd_588 wd_19 wd_589) rfl rfl rfl (by decide +kernel) ⟨Nat.le_of_ble_eq_true rfl, Nat.le_of_ble_eq_true rfl⟩) (rl_BR.pre rl_nw0 rl_P0 hK hN) rfl rfl hl.1 rfl (lv_room (Nat.le_of_ble_eq_true rfl)) d_m_give_19 ⟨Nat.le_of_ble_eq_true rfl, Nat.le_of_ble_eq_true rfl⟩) (fun r4 locs hw hS => ?_)
    try simp only [rl_n1, rl_n9] at hw
    rcases hw with ⟨rfl, h5⟩ | ⟨rfl, h5⟩
    · refine lv_if_ne (tgt := 28) hx hb d_m_give_22 (by decide) (fun _ => ?_) (fun c9 => absurd c9 (by decide))
      refine lv_aload_n hx hb d_m_give_28 rfl (lv_at hl 0 rfl) ?_
      refine va_get (D := D) (ci := 5) (v := .ref (a 6)) (C := "RightsLimitModel") (T := fT_m) (N := 33) hx hb hG fi_m hown hK hP 0 rfl rfl 8 (by decide) (hG _ wd_491) (fun _ h9 => h9) rfl d_m_give_29 ?_
      refine lv_bipush (v := 10) hx hb d_m_give_32 (by decide) ?_
      refine lv_iload_n hx hb d_m_give_34 rfl (lv_at hl 1 rfl) ?_
      refine lv_imul hx hb d_m_give_35 ?_
      refine lv_topi (fun v6 ev6 => ?_)
      have iv6 : v6.toInt = 10 * jn.toInt := by rw [ev6]; exact rl_mulk (by decide) (by omega) (by omega)
      refine lv_iload_n hx hb d_m_give_36 rfl (lv_at hl 2 rfl) ?_
      refine lv_iadd hx hb d_m_give_37 ?_
      refine lv_topi (fun v7 ev7 => ?_)
      have iv7 : v7.toInt = v6.toInt + jg.toInt := by rw [ev7]; exact rl_addv (by omega) (by omega)
      refine lv_iload_n hx hb d_m_give_38 rfl (lv_at hl 3 rfl) ?_
      refine va_zast hx hb hK hP hD hS 6 1 rfl rfl (rl_in (n := 1000) (by omega) (by omega)) d_m_give_39 (fun H locs hP hD hS => ?_)
      obtain ⟨F8, eF8⟩ : ∃ G, G = rl_st F1 5 v7.toNatClampNeg (vp_nar .boolean jb) := ⟨_, rfl⟩
      have hP : va_P D rl_cl (rm_w a kI kZ F8) H := by rw [eF8]; exact hP
      have hD : va_D A (rm_w a kI kZ F8) := by rw [eF8]; exact hD
      obtain ⟨tF8, hRF8⟩ := rm_keep eF8 (by decide) (by decide) (by decide) hRF1
      refine lv_iconst (v := 1) hx hb d_m_give_40 (by decide) ?_
      exact W.iret (v := 1) hx hb hr (fun t ht hW => ⟨⟨1, F8, rfl, ⟨hRF8, (show ((((0 ≤ jn.toInt ∧ jn.toInt ≤ 99) ∧ (1 ≤ jg.toInt ∧ jg.toInt ≤ 9)) ∧ (1 : Int32).toInt = 1) ∨ (¬ ((0 ≤ jn.toInt ∧ jn.toInt ≤ 99) ∧ (1 ≤ jg.toInt ∧ jg.toInt ≤ 9)) ∧ (1 : Int32).toInt = -2)) ∧ (F8 27 2).toInt = (F 27 2).toInt ∧ (F8 27 3).toInt = (F 27 3).toInt ∧ (F8 27 4).toInt = (F 27 4).toInt ∧ (F8 27 5).toInt = (F 27 5).toInt by have q9 := rl_n1; omega)⟩, ⟨by rw [ht]; exact hP, hD⟩⟩, hS.F ht⟩) hS.2.2 d_m_give_41
    · refine lv_if_ne (tgt := 28) hx hb d_m_give_22 (by decide) (fun c9 => absurd c9 (by decide)) (fun _ => ?_)
      refine lv_bipush (v := (-2)) hx hb d_m_give_25 (by decide) ?_
      exact W.iret (v := (-2)) hx hb hr (fun t ht hW => ⟨⟨(-2), F1, rfl, ⟨hRF1, (show ((((0 ≤ jn.toInt ∧ jn.toInt ≤ 99) ∧ (1 ≤ jg.toInt ∧ jg.toInt ≤ 9)) ∧ ((-2) : Int32).toInt = 1) ∨ (¬ ((0 ≤ jn.toInt ∧ jn.toInt ≤ 99) ∧ (1 ≤ jg.toInt ∧ jg.toInt ≤ 9)) ∧ ((-2) : Int32).toInt = -2)) ∧ (F1 27 2).toInt = (F 27 2).toInt ∧ (F1 27 3).toInt = (F 27 3).toInt ∧ (F1 27 4).toInt = (F 27 4).toInt ∧ (F1 27 5).toInt = (F 27 5).toInt by have q9 := rl_nm2; omega)⟩, ⟨by rw [ht]; exact hP, hD⟩⟩, hS.F ht⟩) hS.2.2 d_m_give_27
  · refine lv_if_eq (tgt := 25) hx hb d_m_give_12 (by decide) (fun _ => ?_) (fun c9 => absurd c9 (by decide))
    refine lv_bipush (v := (-2)) hx hb d_m_give_25 (by decide) ?_
    exact W.iret (v := (-2)) hx hb hr (fun t ht hW => ⟨⟨(-2), F1, rfl, ⟨hRF1, (show ((((0 ≤ jn.toInt ∧ jn.toInt ≤ 99) ∧ (1 ≤ jg.toInt ∧ jg.toInt ≤ 9)) ∧ ((-2) : Int32).toInt = 1) ∨ (¬ ((0 ≤ jn.toInt ∧ jn.toInt ≤ 99) ∧ (1 ≤ jg.toInt ∧ jg.toInt ≤ 9)) ∧ ((-2) : Int32).toInt = -2)) ∧ (F1 27 2).toInt = (F 27 2).toInt ∧ (F1 27 3).toInt = (F 27 3).toInt ∧ (F1 27 4).toInt = (F 27 4).toInt ∧ (F1 27 5).toInt = (F 27 5).toInt by have q9 := rl_nm2; omega)⟩, ⟨by rw [ht]; exact hP, hD⟩⟩, hS.F ht⟩) hS.2.2 d_m_give_27
set_option maxHeartbeats 4000000 in
set_option maxRecDepth 100000 in
theorem k_m_right (l : Launch) (D : va_G) (a : Nat → Nat) (kI kZ : ClassId) (F : Nat → Nat → Int32) (jt jg : Int32) (hI : rm_I F) (sz : Nat) : rl_Ci (S := Nat → Nat → Int32) l ⟨"RightsLimitModel", "right", "(II)I"⟩ (Cond.code ⟨"RightsLimitModel", "right", "(II)I"⟩ prog_7_method_18_code 3 (some .int) :: rl_G) { frames := 2, cells := 0, slots := 0, locals := 43 } D rl_cl (rl_tys kI kZ) [] [.ref (a 0), .int jt, .int jg] (rm_w a kI kZ F) sz (fun (r : Int32) (F' : Nat → Nat → Int32) => rm_R F' ∧ ((((0 ≤ jt.toInt ∧ jt.toInt < (F 27 2).toInt) ∧ (0 ≤ jg.toInt ∧ jg.toInt ≤ 9) ∧ r.toInt = 1) ∨ ((0 ≤ jt.toInt ∧ jt.toInt < (F 27 2).toInt) ∧ ¬ (0 ≤ jg.toInt ∧ jg.toInt ≤ 9) ∧ r.toInt = -2) ∨ (¬ (0 ≤ jt.toInt ∧ jt.toInt < (F 27 2).toInt) ∧ r.toInt = -1)) ∧ (F' 27 2).toInt = (F 27 2).toInt ∧ (F' 27 3).toInt = (F 27 3).toInt ∧ (F' 27 4).toInt = (F 27 4).toInt ∧ (F' 27 5).toInt = (F 27 5).toInt)) (fun F' => rm_w a kI kZ F') 0 0 := by
  refine rl_meti (cc := prog_7_method_18_code) (maxL := 3) (ret := (some .int)) (by decide) rfl (Nat.le_of_ble_eq_true rfl) ?_
  intro p e s m below meth c A ls hx hb hr hml hown hts hlocks hnm hP hK hD hS hA hN hl
  have hown : s.vm.findClass "RightsLimitModel" = some m.cls := hown
  have hG : ∀ x ∈ rl_G, x.before _ s = true := fun x h => hts x (List.mem_cons_of_mem _ h)
  have hl : lv_has ls 3 [(0, .ref (a 0)), (1, .int jt), (2, .int jg)] := hl
  obtain ⟨hcnt, hR⟩ := id hI
  refine lv_aload_n hx hb d_m_right_0 rfl (lv_at hl 0 rfl) ?_
  refine lv_iconst (v := 0) hx hb d_m_right_1 (by decide) ?_
  refine va_put (D := D) (ci := 5) (v := .int 0) (ty := .int) (C := "RightsLimitModel") (T := fT_m) (N := 33) hx hb hG fi_m fy_m fo_m fn_m hown hK hP hD hS 0 rfl rfl 0 (by decide) (hG _ wd_483) (fun _ h9 => h9) rfl (by decide +kernel) rfl rfl (Nat.le_of_ble_eq_true rfl) d_m_right_2 (fun H locs hP hD hS => ?_)
  obtain ⟨F1, eF1⟩ : ∃ G, G = rl_st F 27 0 0 := ⟨_, rfl⟩
  have hP : va_P D rl_cl (rm_w a kI kZ F1) H := by rw [eF1]; exact hP
  have hD : va_D A (rm_w a kI kZ F1) := by rw [eF1]; exact hD
  obtain ⟨tF1, hRF1⟩ := rm_putS eF1 (by decide) (by decide) (by decide) (by decide) hR
  refine lv_aload_n hx hb d_m_right_5 rfl (lv_at hl 0 rfl) ?_
  refine lv_iload_n hx hb d_m_right_6 rfl (lv_at hl 1 rfl) ?_
  have hpre := rl_BR.pre (av := .ref (a 0) :: [.int jt]) rl_nw0 hP hK hN
  refine rl_callr hS (va_runV (As := [.int jt]) (rest := []) ⟨hx, hb, hml, hown, hG⟩ (k_m_isTitle l D a kI kZ F1 jt ⟨by omega, hRF1⟩ _) (cwV 1 hG (rl_gV wd_594 wd_596 wd_6 wd_19 wd_597) rfl rfl rfl (by decide +kernel) ⟨Nat.le_of_ble_eq_true rfl, Nat.le_of_ble_eq_true rfl⟩) ⟨hpre.1, (va_recv hK hP (ci := 5) (q0 := 0) rfl rfl), hpre.2⟩ rfl rfl hl.1 rfl (lv_room (Nat.le_of_ble_eq_true rfl)) d_m_right_7 ⟨Nat.le_of_ble_eq_true rfl, Nat.le_of_ble_eq_true rfl⟩) (fun r2 locs hw hS => ?_)
  rcases hw with ⟨rfl, h3⟩ | ⟨rfl, h3⟩
  · refine lv_if_ne (tgt := 15) hx hb d_m_right_10 (by decide) (fun _ => ?_) (fun c9 => absurd c9 (by decide))
    refine lv_iload_n hx hb d_m_right_15 rfl (lv_at hl 2 rfl) ?_
    refine lv_iconst (v := 0) hx hb d_m_right_16 (by decide) ?_
    refine lv_bipush (v := 9) hx hb d_m_right_17 (by decide) ?_
    refine rl_callr hS (va_runS (As := [.int jg, .int 0, .int 9]) (rest := []) ⟨hx, hb, hml, hown, hG⟩ (k_m_in l D a kI kZ jg 0 9 _) (cwS 3 hG (rl_gS wd_587 wd_588 wd_19 wd_589) rfl rfl rfl (by decide +kernel) ⟨Nat.le_of_ble_eq_true rfl, Nat.le_of_ble_eq_true rfl⟩) (rl_BR.pre rl_nw0 rl_P0 hK hN) rfl rfl hl.1 rfl (lv_room (Nat.le_of_ble_eq_true rfl)) d_m_right_19 ⟨Nat.le_of_ble_eq_true rfl, Nat.le_of_ble_eq_true rfl⟩) (fun r4 locs hw hS => ?_)
    try simp only [rl_n0, rl_n9] at hw
    rcases hw with ⟨rfl, h5⟩ | ⟨rfl, h5⟩
    · refine lv_if_ne (tgt := 28) hx hb d_m_right_22 (by decide) (fun _ => ?_) (fun c9 => absurd c9 (by decide))
      refine lv_aload_n hx hb d_m_right_28 rfl (lv_at hl 0 rfl) ?_
      refine va_get (D := D) (ci := 5) (v := .ref (a 3)) (C := "RightsLimitModel") (T := fT_m) (N := 33) hx hb hG fi_m hown hK hP 0 rfl rfl 5 (by decide) (hG _ wd_488) (fun _ h9 => h9) rfl d_m_right_29 ?_
      refine lv_iload_n hx hb d_m_right_32 rfl (lv_at hl 1 rfl) ?_
      refine lv_iload_n hx hb d_m_right_33 rfl (lv_at hl 2 rfl) ?_
      refine va_iast hx hb hK hP hD hS 3 0 rfl rfl (rl_in (n := 50) (by omega) (by omega)) d_m_right_34 (fun H locs hP hD hS => ?_)
      obtain ⟨F6, eF6⟩ : ∃ G, G = rl_st F1 2 jt.toNatClampNeg jg := ⟨_, rfl⟩
      have hP : va_P D rl_cl (rm_w a kI kZ F6) H := by rw [eF6]; exact hP
      have hD : va_D A (rm_w a kI kZ F6) := by rw [eF6]; exact hD
      obtain ⟨tF6, hRF6⟩ := rm_keep2 eF6 (⟨by omega, by omega⟩) hRF1
      refine lv_iconst (v := 1) hx hb d_m_right_35 (by decide) ?_
      exact W.iret (v := 1) hx hb hr (fun t ht hW => ⟨⟨1, F6, rfl, ⟨hRF6, (show (((0 ≤ jt.toInt ∧ jt.toInt < (F 27 2).toInt) ∧ (0 ≤ jg.toInt ∧ jg.toInt ≤ 9) ∧ (1 : Int32).toInt = 1) ∨ ((0 ≤ jt.toInt ∧ jt.toInt < (F 27 2).toInt) ∧ ¬ (0 ≤ jg.toInt ∧ jg.toInt ≤ 9) ∧ (1 : Int32).toInt = -2) ∨ (¬ (0 ≤ jt.toInt ∧ jt.toInt < (F 27 2).toInt) ∧ (1 : Int32).toInt = -1)) ∧ (F6 27 2).toInt = (F 27 2).toInt ∧ (F6 27 3).toInt = (F 27 3).toInt ∧ (F6 27 4).toInt = (F 27 4).toInt ∧ (F6 27 5).toInt = (F 27 5).toInt by have q9 := rl_n1; omega)⟩, ⟨by rw [ht]; exact hP, hD⟩⟩, hS.F ht⟩) hS.2.2 d_m_right_36
    · refine lv_if_ne (tgt := 28) hx hb d_m_right_22 (by decide) (fun c9 => absurd c9 (by decide)) (fun _ => ?_)
      refine lv_bipush (v := (-2)) hx hb d_m_right_25 (by decide) ?_
      exact W.iret (v := (-2)) hx hb hr (fun t ht hW => ⟨⟨(-2), F1, rfl, ⟨hRF1, (show (((0 ≤ jt.toInt ∧ jt.toInt < (F 27 2).toInt) ∧ (0 ≤ jg.toInt ∧ jg.toInt ≤ 9) ∧ ((-2) : Int32).toInt = 1) ∨ ((0 ≤ jt.toInt ∧ jt.toInt < (F 27 2).toInt) ∧ ¬ (0 ≤ jg.toInt ∧ jg.toInt ≤ 9) ∧ ((-2) : Int32).toInt = -2) ∨ (¬ (0 ≤ jt.toInt ∧ jt.toInt < (F 27 2).toInt) ∧ ((-2) : Int32).toInt = -1)) ∧ (F1 27 2).toInt = (F 27 2).toInt ∧ (F1 27 3).toInt = (F 27 3).toInt ∧ (F1 27 4).toInt = (F 27 4).toInt ∧ (F1 27 5).toInt = (F 27 5).toInt by have q9 := rl_nm2; omega)⟩, ⟨by rw [ht]; exact hP, hD⟩⟩, hS.F ht⟩) hS.2.2 d_m_right_27
  · refine lv_if_ne (tgt := 15) hx hb d_m_right_10 (by decide) (fun c9 => absurd c9 (by decide)) (fun _ => ?_)
    refine lv_iconst (v := (-1)) hx hb d_m_right_13 (by decide) ?_
    exact W.iret (v := (-1)) hx hb hr (fun t ht hW => ⟨⟨(-1), F1, rfl, ⟨hRF1, (show (((0 ≤ jt.toInt ∧ jt.toInt < (F 27 2).toInt) ∧ (0 ≤ jg.toInt ∧ jg.toInt ≤ 9) ∧ ((-1) : Int32).toInt = 1) ∨ ((0 ≤ jt.toInt ∧ jt.toInt < (F 27 2).toInt) ∧ ¬ (0 ≤ jg.toInt ∧ jg.toInt ≤ 9) ∧ ((-1) : Int32).toInt = -2) ∨ (¬ (0 ≤ jt.toInt ∧ jt.toInt < (F 27 2).toInt) ∧ ((-1) : Int32).toInt = -1)) ∧ (F1 27 2).toInt = (F 27 2).toInt ∧ (F1 27 3).toInt = (F 27 3).toInt ∧ (F1 27 4).toInt = (F 27 4).toInt ∧ (F1 27 5).toInt = (F 27 5).toInt by have q9 := rl_nm1; omega)⟩, ⟨by rw [ht]; exact hP, hD⟩⟩, hS.F ht⟩) hS.2.2 d_m_right_14
set_option maxHeartbeats 4000000 in
set_option maxRecDepth 100000 in
theorem k_m_waive (l : Launch) (D : va_G) (a : Nat → Nat) (kI kZ : ClassId) (F : Nat → Nat → Int32) (jt jn : Int32) (hI : rm_I F) (sz : Nat) : rl_Ci (S := Nat → Nat → Int32) l ⟨"RightsLimitModel", "waive", "(II)I"⟩ (Cond.code ⟨"RightsLimitModel", "waive", "(II)I"⟩ prog_7_method_19_code 3 (some .int) :: rl_G) { frames := 2, cells := 0, slots := 0, locals := 43 } D rl_cl (rl_tys kI kZ) [] [.ref (a 0), .int jt, .int jn] (rm_w a kI kZ F) sz (fun (r : Int32) (F' : Nat → Nat → Int32) => rm_R F' ∧ ((F' 27 2).toInt = (F 27 2).toInt ∧ (F' 27 3).toInt = (F 27 3).toInt ∧ (F' 27 4).toInt = (F 27 4).toInt ∧ 0 ≤ (F' 27 5).toInt ∧ (F' 27 5).toInt ≤ 300)) (fun F' => rm_w a kI kZ F') 0 0 := by
  refine rl_meti (cc := prog_7_method_19_code) (maxL := 3) (ret := (some .int)) (by decide) rfl (Nat.le_of_ble_eq_true rfl) ?_
  intro p e s m below meth c A ls hx hb hr hml hown hts hlocks hnm hP hK hD hS hA hN hl
  have hown : s.vm.findClass "RightsLimitModel" = some m.cls := hown
  have hG : ∀ x ∈ rl_G, x.before _ s = true := fun x h => hts x (List.mem_cons_of_mem _ h)
  have hl : lv_has ls 3 [(0, .ref (a 0)), (1, .int jt), (2, .int jn)] := hl
  obtain ⟨hcnt, hR⟩ := id hI
  refine lv_aload_n hx hb d_m_waive_0 rfl (lv_at hl 0 rfl) ?_
  refine lv_iconst (v := 0) hx hb d_m_waive_1 (by decide) ?_
  refine va_put (D := D) (ci := 5) (v := .int 0) (ty := .int) (C := "RightsLimitModel") (T := fT_m) (N := 33) hx hb hG fi_m fy_m fo_m fn_m hown hK hP hD hS 0 rfl rfl 0 (by decide) (hG _ wd_483) (fun _ h9 => h9) rfl (by decide +kernel) rfl rfl (Nat.le_of_ble_eq_true rfl) d_m_waive_2 (fun H locs hP hD hS => ?_)
  obtain ⟨F1, eF1⟩ : ∃ G, G = rl_st F 27 0 0 := ⟨_, rfl⟩
  have hP : va_P D rl_cl (rm_w a kI kZ F1) H := by rw [eF1]; exact hP
  have hD : va_D A (rm_w a kI kZ F1) := by rw [eF1]; exact hD
  obtain ⟨tF1, hRF1⟩ := rm_putS eF1 (by decide) (by decide) (by decide) (by decide) hR
  refine lv_aload_n hx hb d_m_waive_5 rfl (lv_at hl 0 rfl) ?_
  refine lv_iload_n hx hb d_m_waive_6 rfl (lv_at hl 1 rfl) ?_
  have hpre := rl_BR.pre (av := .ref (a 0) :: [.int jt]) rl_nw0 hP hK hN
  refine rl_callr hS (va_runV (As := [.int jt]) (rest := []) ⟨hx, hb, hml, hown, hG⟩ (k_m_isTitle l D a kI kZ F1 jt ⟨by omega, hRF1⟩ _) (cwV 1 hG (rl_gV wd_594 wd_596 wd_6 wd_19 wd_597) rfl rfl rfl (by decide +kernel) ⟨Nat.le_of_ble_eq_true rfl, Nat.le_of_ble_eq_true rfl⟩) ⟨hpre.1, (va_recv hK hP (ci := 5) (q0 := 0) rfl rfl), hpre.2⟩ rfl rfl hl.1 rfl (lv_room (Nat.le_of_ble_eq_true rfl)) d_m_waive_7 ⟨Nat.le_of_ble_eq_true rfl, Nat.le_of_ble_eq_true rfl⟩) (fun r2 locs hw hS => ?_)
  rcases hw with ⟨rfl, h3⟩ | ⟨rfl, h3⟩
  · refine lv_if_ne (tgt := 15) hx hb d_m_waive_10 (by decide) (fun _ => ?_) (fun c9 => absurd c9 (by decide))
    refine lv_iload_n hx hb d_m_waive_15 rfl (lv_at hl 2 rfl) ?_
    refine lv_iconst (v := 0) hx hb d_m_waive_16 (by decide) ?_
    refine lv_bipush (v := 99) hx hb d_m_waive_17 (by decide) ?_
    refine rl_callr hS (va_runS (As := [.int jn, .int 0, .int 99]) (rest := []) ⟨hx, hb, hml, hown, hG⟩ (k_m_in l D a kI kZ jn 0 99 _) (cwS 3 hG (rl_gS wd_587 wd_588 wd_19 wd_589) rfl rfl rfl (by decide +kernel) ⟨Nat.le_of_ble_eq_true rfl, Nat.le_of_ble_eq_true rfl⟩) (rl_BR.pre rl_nw0 rl_P0 hK hN) rfl rfl hl.1 rfl (lv_room (Nat.le_of_ble_eq_true rfl)) d_m_waive_19 ⟨Nat.le_of_ble_eq_true rfl, Nat.le_of_ble_eq_true rfl⟩) (fun r4 locs hw hS => ?_)
    try simp only [rl_n0, rl_n99] at hw
    rcases hw with ⟨rfl, h5⟩ | ⟨rfl, h5⟩
    · refine lv_if_ne (tgt := 28) hx hb d_m_waive_22 (by decide) (fun _ => ?_) (fun c9 => absurd c9 (by decide))
      refine lv_aload_n hx hb d_m_waive_28 rfl (lv_at hl 0 rfl) ?_
      refine va_get (D := D) (ci := 5) (v := .ref (a 3)) (C := "RightsLimitModel") (T := fT_m) (N := 33) hx hb hG fi_m hown hK hP 0 rfl rfl 5 (by decide) (hG _ wd_488) (fun _ h9 => h9) rfl d_m_waive_29 ?_
      refine lv_iload_n hx hb d_m_waive_32 rfl (lv_at hl 1 rfl) ?_
      refine va_iald hx hb hK hP 3 0 rfl rfl (rl_in (n := 50) (by omega) (by omega)) d_m_waive_33 ?_
      refine lv_topi (fun v6 ev6 => ?_)
      have iv6 : 0 ≤ v6.toInt ∧ v6.toInt < 10 := by rw [ev6]; exact hRF1.2 _
      refine lv_if_eq (tgt := 56) hx hb d_m_waive_34 (by decide) (fun c7 => ?_) (fun c7 => ?_)
      · have ic7 := rl_ieq c7
        simp only [rl_n0] at ic7
        refine lv_bipush (v := (-3)) hx hb d_m_waive_56 (by decide) ?_
        exact W.iret (v := (-3)) hx hb hr (fun t ht hW => ⟨⟨(-3), F1, rfl, ⟨hRF1, (show (F1 27 2).toInt = (F 27 2).toInt ∧ (F1 27 3).toInt = (F 27 3).toInt ∧ (F1 27 4).toInt = (F 27 4).toInt ∧ 0 ≤ (F1 27 5).toInt ∧ (F1 27 5).toInt ≤ 300 by have q9 := rl_nm3; omega)⟩, ⟨by rw [ht]; exact hP, hD⟩⟩, hS.F ht⟩) hS.2.2 d_m_waive_58
      · have ic7 := rl_ine c7
        simp only [rl_n0] at ic7
        refine lv_aload_n hx hb d_m_waive_37 rfl (lv_at hl 0 rfl) ?_
        refine va_get (D := D) (ci := 5) (v := .ref (a 6)) (C := "RightsLimitModel") (T := fT_m) (N := 33) hx hb hG fi_m hown hK hP 0 rfl rfl 8 (by decide) (hG _ wd_491) (fun _ h9 => h9) rfl d_m_waive_38 ?_
        refine lv_bipush (v := 10) hx hb d_m_waive_41 (by decide) ?_
        refine lv_iload_n hx hb d_m_waive_43 rfl (lv_at hl 2 rfl) ?_
        refine lv_imul hx hb d_m_waive_44 ?_
        refine lv_topi (fun v8 ev8 => ?_)
        have iv8 : v8.toInt = 10 * jn.toInt := by rw [ev8]; exact rl_mulk (by decide) (by omega) (by omega)
        refine lv_aload_n hx hb d_m_waive_45 rfl (lv_at hl 0 rfl) ?_
        refine va_get (D := D) (ci := 5) (v := .ref (a 3)) (C := "RightsLimitModel") (T := fT_m) (N := 33) hx hb hG fi_m hown hK hP 0 rfl rfl 5 (by decide) (hG _ wd_488) (fun _ h9 => h9) rfl d_m_waive_46 ?_
        refine lv_iload_n hx hb d_m_waive_49 rfl (lv_at hl 1 rfl) ?_
        refine va_iald hx hb hK hP 3 0 rfl rfl (rl_in (n := 50) (by omega) (by omega)) d_m_waive_50 ?_
        refine lv_topi (fun v9 ev9 => ?_)
        have iv9 : 0 ≤ v9.toInt ∧ v9.toInt < 10 := by rw [ev9]; exact hRF1.2 _
        refine lv_iadd hx hb d_m_waive_51 ?_
        refine lv_topi (fun v10 ev10 => ?_)
        have iv10 : v10.toInt = v8.toInt + v9.toInt := by rw [ev10]; exact rl_addv (by omega) (by omega)
        refine va_zald hx hb hK hP 6 1 rfl rfl (rl_in (n := 1000) (by omega) (by omega)) d_m_waive_52 ?_
        refine lv_topi (fun v11 ev11 => ?_)
        refine lv_if_ne (tgt := 59) hx hb d_m_waive_53 (by decide) (fun c12 => ?_) (fun c12 => ?_)
        · have ic12 := rl_ine c12
          simp only [rl_n0] at ic12
          refine lv_aload_n hx hb d_m_waive_59 rfl (lv_at hl 0 rfl) ?_
          refine va_get (D := D) (ci := 5) (v := .ref (a 4)) (C := "RightsLimitModel") (T := fT_m) (N := 33) hx hb hG fi_m hown hK hP 0 rfl rfl 6 (by decide) (hG _ wd_489) (fun _ h9 => h9) rfl d_m_waive_60 ?_
          refine lv_iload_n hx hb d_m_waive_63 rfl (lv_at hl 1 rfl) ?_
          refine va_iald hx hb hK hP 4 0 rfl rfl (rl_in (n := 50) (by omega) (by omega)) d_m_waive_64 ?_
          refine lv_topi (fun v13 ev13 => ?_)
          refine lv_bipush (v := 20) hx hb d_m_waive_65 (by decide) ?_
          refine lv_icmp_ne (tgt := 73) hx hb d_m_waive_67 (by decide) (fun c14 => ?_) (fun c14 => ?_)
          · have ic14 := rl_ine c14
            simp only [rl_n20] at ic14
            refine lv_aload_n hx hb d_m_waive_73 rfl (lv_at hl 0 rfl) ?_
            refine va_get (D := D) (ci := 5) (v := .ref (a 4)) (C := "RightsLimitModel") (T := fT_m) (N := 33) hx hb hG fi_m hown hK hP 0 rfl rfl 6 (by decide) (hG _ wd_489) (fun _ h9 => h9) rfl d_m_waive_74 ?_
            refine lv_iload_n hx hb d_m_waive_77 rfl (lv_at hl 1 rfl) ?_
            refine lv_dup2_11 hx hb d_m_waive_78 rfl rfl ?_
            refine va_iald hx hb hK hP 4 0 rfl rfl (rl_in (n := 50) (by omega) (by omega)) d_m_waive_79 ?_
            refine lv_topi (fun v15 ev15 => ?_)
            refine lv_iconst (v := 1) hx hb d_m_waive_80 (by decide) ?_
            refine lv_iadd hx hb d_m_waive_81 ?_
            refine lv_topi (fun v16 ev16 => ?_)
            refine va_iast hx hb hK hP hD hS 4 0 rfl rfl (rl_in (n := 50) (by omega) (by omega)) d_m_waive_82 (fun H locs hP hD hS => ?_)
            obtain ⟨F17, eF17⟩ : ∃ G, G = rl_st F1 3 jt.toNatClampNeg v16 := ⟨_, rfl⟩
            have hP : va_P D rl_cl (rm_w a kI kZ F17) H := by rw [eF17]; exact hP
            have hD : va_D A (rm_w a kI kZ F17) := by rw [eF17]; exact hD
            obtain ⟨tF17, hRF17⟩ := rm_keep eF17 (by decide) (by decide) (by decide) hRF1
            refine lv_aload_n hx hb d_m_waive_83 rfl (lv_at hl 0 rfl) ?_
            refine va_get (D := D) (ci := 5) (v := .ref (a 4)) (C := "RightsLimitModel") (T := fT_m) (N := 33) hx hb hG fi_m hown hK hP 0 rfl rfl 6 (by decide) (hG _ wd_489) (fun _ h9 => h9) rfl d_m_waive_84 ?_
            refine lv_iload_n hx hb d_m_waive_87 rfl (lv_at hl 1 rfl) ?_
            refine va_iald hx hb hK hP 4 0 rfl rfl (rl_in (n := 50) (by omega) (by omega)) d_m_waive_88 ?_
            refine lv_topi (fun v18 ev18 => ?_)
            exact W.iret (v := v18) hx hb hr (fun t ht hW => ⟨⟨v18, F17, rfl, ⟨hRF17, (show (F17 27 2).toInt = (F 27 2).toInt ∧ (F17 27 3).toInt = (F 27 3).toInt ∧ (F17 27 4).toInt = (F 27 4).toInt ∧ 0 ≤ (F17 27 5).toInt ∧ (F17 27 5).toInt ≤ 300 by omega)⟩, ⟨by rw [ht]; exact hP, hD⟩⟩, hS.F ht⟩) hS.2.2 d_m_waive_89
          · have ic14 := rl_ieq c14
            simp only [rl_n20] at ic14
            refine lv_bipush (v := (-4)) hx hb d_m_waive_70 (by decide) ?_
            exact W.iret (v := (-4)) hx hb hr (fun t ht hW => ⟨⟨(-4), F1, rfl, ⟨hRF1, (show (F1 27 2).toInt = (F 27 2).toInt ∧ (F1 27 3).toInt = (F 27 3).toInt ∧ (F1 27 4).toInt = (F 27 4).toInt ∧ 0 ≤ (F1 27 5).toInt ∧ (F1 27 5).toInt ≤ 300 by have q9 := rl_nm4; omega)⟩, ⟨by rw [ht]; exact hP, hD⟩⟩, hS.F ht⟩) hS.2.2 d_m_waive_72
        · have ic12 := rl_ieq c12
          simp only [rl_n0] at ic12
          refine lv_bipush (v := (-3)) hx hb d_m_waive_56 (by decide) ?_
          exact W.iret (v := (-3)) hx hb hr (fun t ht hW => ⟨⟨(-3), F1, rfl, ⟨hRF1, (show (F1 27 2).toInt = (F 27 2).toInt ∧ (F1 27 3).toInt = (F 27 3).toInt ∧ (F1 27 4).toInt = (F 27 4).toInt ∧ 0 ≤ (F1 27 5).toInt ∧ (F1 27 5).toInt ≤ 300 by have q9 := rl_nm3; omega)⟩, ⟨by rw [ht]; exact hP, hD⟩⟩, hS.F ht⟩) hS.2.2 d_m_waive_58
    · refine lv_if_ne (tgt := 28) hx hb d_m_waive_22 (by decide) (fun c9 => absurd c9 (by decide)) (fun _ => ?_)
      refine lv_bipush (v := (-2)) hx hb d_m_waive_25 (by decide) ?_
      exact W.iret (v := (-2)) hx hb hr (fun t ht hW => ⟨⟨(-2), F1, rfl, ⟨hRF1, (show (F1 27 2).toInt = (F 27 2).toInt ∧ (F1 27 3).toInt = (F 27 3).toInt ∧ (F1 27 4).toInt = (F 27 4).toInt ∧ 0 ≤ (F1 27 5).toInt ∧ (F1 27 5).toInt ≤ 300 by have q9 := rl_nm2; omega)⟩, ⟨by rw [ht]; exact hP, hD⟩⟩, hS.F ht⟩) hS.2.2 d_m_waive_27
  · refine lv_if_ne (tgt := 15) hx hb d_m_waive_10 (by decide) (fun c9 => absurd c9 (by decide)) (fun _ => ?_)
    refine lv_iconst (v := (-1)) hx hb d_m_waive_13 (by decide) ?_
    exact W.iret (v := (-1)) hx hb hr (fun t ht hW => ⟨⟨(-1), F1, rfl, ⟨hRF1, (show (F1 27 2).toInt = (F 27 2).toInt ∧ (F1 27 3).toInt = (F 27 3).toInt ∧ (F1 27 4).toInt = (F 27 4).toInt ∧ 0 ≤ (F1 27 5).toInt ∧ (F1 27 5).toInt ≤ 300 by have q9 := rl_nm1; omega)⟩, ⟨by rw [ht]; exact hP, hD⟩⟩, hS.F ht⟩) hS.2.2 d_m_waive_14
set_option maxHeartbeats 4000000 in
set_option maxRecDepth 100000 in
theorem k_m_renew (l : Launch) (D : va_G) (a : Nat → Nat) (kI kZ : ClassId) (F : Nat → Nat → Int32) (jn jt : Int32) (hI : rm_I F) (sz : Nat) : rl_Ci (S := Nat → Nat → Int32) l ⟨"RightsLimitModel", "renew", "(II)I"⟩ (Cond.code ⟨"RightsLimitModel", "renew", "(II)I"⟩ prog_7_method_20_code 3 (some .int) :: rl_G) { frames := 2, cells := 0, slots := 0, locals := 43 } D rl_cl (rl_tys kI kZ) [] [.ref (a 0), .int jn, .int jt] (rm_w a kI kZ F) sz (fun (r : Int32) (F' : Nat → Nat → Int32) => rm_R F' ∧ ((F' 27 2).toInt = (F 27 2).toInt ∧ (F' 27 3).toInt = (F 27 3).toInt ∧ (F' 27 4).toInt = (F 27 4).toInt ∧ 0 ≤ (F' 27 5).toInt ∧ (F' 27 5).toInt ≤ 300)) (fun F' => rm_w a kI kZ F') 0 0 := by
  refine rl_meti (cc := prog_7_method_20_code) (maxL := 3) (ret := (some .int)) (by decide) rfl (Nat.le_of_ble_eq_true rfl) ?_
  intro p e s m below meth c A ls hx hb hr hml hown hts hlocks hnm hP hK hD hS hA hN hl
  have hown : s.vm.findClass "RightsLimitModel" = some m.cls := hown
  have hG : ∀ x ∈ rl_G, x.before _ s = true := fun x h => hts x (List.mem_cons_of_mem _ h)
  have hl : lv_has ls 3 [(0, .ref (a 0)), (1, .int jn), (2, .int jt)] := hl
  obtain ⟨hcnt, hR⟩ := id hI
  refine lv_aload_n hx hb d_m_renew_0 rfl (lv_at hl 0 rfl) ?_
  refine lv_iconst (v := 0) hx hb d_m_renew_1 (by decide) ?_
  refine va_put (D := D) (ci := 5) (v := .int 0) (ty := .int) (C := "RightsLimitModel") (T := fT_m) (N := 33) hx hb hG fi_m fy_m fo_m fn_m hown hK hP hD hS 0 rfl rfl 0 (by decide) (hG _ wd_483) (fun _ h9 => h9) rfl (by decide +kernel) rfl rfl (Nat.le_of_ble_eq_true rfl) d_m_renew_2 (fun H locs hP hD hS => ?_)
  obtain ⟨F1, eF1⟩ : ∃ G, G = rl_st F 27 0 0 := ⟨_, rfl⟩
  have hP : va_P D rl_cl (rm_w a kI kZ F1) H := by rw [eF1]; exact hP
  have hD : va_D A (rm_w a kI kZ F1) := by rw [eF1]; exact hD
  obtain ⟨tF1, hRF1⟩ := rm_putS eF1 (by decide) (by decide) (by decide) (by decide) hR
  refine lv_iload_n hx hb d_m_renew_5 rfl (lv_at hl 1 rfl) ?_
  refine lv_iconst (v := 0) hx hb d_m_renew_6 (by decide) ?_
  refine lv_aload_n hx hb d_m_renew_7 rfl (lv_at hl 0 rfl) ?_
  refine va_get (D := D) (ci := 5) (v := .int (F1 27 5)) (C := "RightsLimitModel") (T := fT_m) (N := 33) hx hb hG fi_m hown hK hP 0 rfl rfl 20 (by decide) (hG _ wd_503) (fun _ h9 => h9) rfl d_m_renew_8 ?_
  refine lv_iconst (v := 1) hx hb d_m_renew_11 (by decide) ?_
  refine lv_isub hx hb d_m_renew_12 ?_
  refine lv_topi (fun v2 ev2 => ?_)
  have iv2 : v2.toInt = (F1 27 5).toInt - 1 := by rw [ev2]; exact rl_subk (by decide) (by omega) (by omega)
  refine rl_callr hS (va_runS (As := [.int jn, .int 0, .int v2]) (rest := []) ⟨hx, hb, hml, hown, hG⟩ (k_m_in l D a kI kZ jn 0 v2 _) (cwS 3 hG (rl_gS wd_587 wd_588 wd_19 wd_589) rfl rfl rfl (by decide +kernel) ⟨Nat.le_of_ble_eq_true rfl, Nat.le_of_ble_eq_true rfl⟩) (rl_BR.pre rl_nw0 rl_P0 hK hN) rfl rfl hl.1 rfl (lv_room (Nat.le_of_ble_eq_true rfl)) d_m_renew_13 ⟨Nat.le_of_ble_eq_true rfl, Nat.le_of_ble_eq_true rfl⟩) (fun r3 locs hw hS => ?_)
  try simp only [rl_n0] at hw
  rcases hw with ⟨rfl, h4⟩ | ⟨rfl, h4⟩
  · refine lv_if_ne (tgt := 21) hx hb d_m_renew_16 (by decide) (fun _ => ?_) (fun c9 => absurd c9 (by decide))
    refine lv_aload_n hx hb d_m_renew_21 rfl (lv_at hl 0 rfl) ?_
    refine lv_iload_n hx hb d_m_renew_22 rfl (lv_at hl 2 rfl) ?_
    have hpre := rl_BR.pre (av := .ref (a 0) :: [.int jt]) rl_nw0 hP hK hN
    refine rl_callr hS (va_runV (As := [.int jt]) (rest := []) ⟨hx, hb, hml, hown, hG⟩ (k_m_isNow l D a kI kZ F1 jt ⟨by omega, hRF1⟩ _) (cwV 1 hG (rl_gV wd_615 wd_617 wd_7 wd_19 wd_618) rfl rfl rfl (by decide +kernel) ⟨Nat.le_of_ble_eq_true rfl, Nat.le_of_ble_eq_true rfl⟩) ⟨hpre.1, (va_recv hK hP (ci := 5) (q0 := 0) rfl rfl), hpre.2⟩ rfl rfl hl.1 rfl (lv_room (Nat.le_of_ble_eq_true rfl)) d_m_renew_23 ⟨Nat.le_of_ble_eq_true rfl, Nat.le_of_ble_eq_true rfl⟩) (fun r5 locs hw hS => ?_)
    rcases hw with ⟨rfl, h6⟩ | ⟨rfl, h6⟩
    · refine lv_if_ne (tgt := 32) hx hb d_m_renew_26 (by decide) (fun _ => ?_) (fun c9 => absurd c9 (by decide))
      refine lv_aload_n hx hb d_m_renew_32 rfl (lv_at hl 0 rfl) ?_
      refine va_get (D := D) (ci := 5) (v := .ref (a 21)) (C := "RightsLimitModel") (T := fT_m) (N := 33) hx hb hG fi_m hown hK hP 0 rfl rfl 26 (by decide) (hG _ wd_509) (fun _ h9 => h9) rfl d_m_renew_33 ?_
      refine lv_iload_n hx hb d_m_renew_36 rfl (lv_at hl 1 rfl) ?_
      refine va_iald hx hb hK hP 21 0 rfl rfl (rl_in (n := 300) (by omega) (by omega)) d_m_renew_37 ?_
      refine lv_topi (fun v7 ev7 => ?_)
      refine lv_if_eq (tgt := 70) hx hb d_m_renew_38 (by decide) (fun c8 => ?_) (fun c8 => ?_)
      · have ic8 := rl_ieq c8
        simp only [rl_n0] at ic8
        refine lv_bipush (v := (-3)) hx hb d_m_renew_70 (by decide) ?_
        exact W.iret (v := (-3)) hx hb hr (fun t ht hW => ⟨⟨(-3), F1, rfl, ⟨hRF1, (show (F1 27 2).toInt = (F 27 2).toInt ∧ (F1 27 3).toInt = (F 27 3).toInt ∧ (F1 27 4).toInt = (F 27 4).toInt ∧ 0 ≤ (F1 27 5).toInt ∧ (F1 27 5).toInt ≤ 300 by have q9 := rl_nm3; omega)⟩, ⟨by rw [ht]; exact hP, hD⟩⟩, hS.F ht⟩) hS.2.2 d_m_renew_72
      · have ic8 := rl_ine c8
        simp only [rl_n0] at ic8
        refine lv_aload_n hx hb d_m_renew_41 rfl (lv_at hl 0 rfl) ?_
        refine va_get (D := D) (ci := 5) (v := .ref (a 25)) (C := "RightsLimitModel") (T := fT_m) (N := 33) hx hb hG fi_m hown hK hP 0 rfl rfl 30 (by decide) (hG _ wd_513) (fun _ h9 => h9) rfl d_m_renew_42 ?_
        refine lv_iload_n hx hb d_m_renew_45 rfl (lv_at hl 1 rfl) ?_
        refine va_iald hx hb hK hP 25 0 rfl rfl (rl_in (n := 300) (by omega) (by omega)) d_m_renew_46 ?_
        refine lv_topi (fun v9 ev9 => ?_)
        refine lv_iconst (v := 2) hx hb d_m_renew_47 (by decide) ?_
        refine lv_icmp_eq (tgt := 70) hx hb d_m_renew_48 (by decide) (fun c10 => ?_) (fun c10 => ?_)
        · have ic10 := rl_ieq c10
          simp only [rl_n2] at ic10
          refine lv_bipush (v := (-3)) hx hb d_m_renew_70 (by decide) ?_
          exact W.iret (v := (-3)) hx hb hr (fun t ht hW => ⟨⟨(-3), F1, rfl, ⟨hRF1, (show (F1 27 2).toInt = (F 27 2).toInt ∧ (F1 27 3).toInt = (F 27 3).toInt ∧ (F1 27 4).toInt = (F 27 4).toInt ∧ 0 ≤ (F1 27 5).toInt ∧ (F1 27 5).toInt ≤ 300 by have q9 := rl_nm3; omega)⟩, ⟨by rw [ht]; exact hP, hD⟩⟩, hS.F ht⟩) hS.2.2 d_m_renew_72
        · have ic10 := rl_ine c10
          simp only [rl_n2] at ic10
          refine lv_aload_n hx hb d_m_renew_51 rfl (lv_at hl 0 rfl) ?_
          refine va_get (D := D) (ci := 5) (v := .ref (a 26)) (C := "RightsLimitModel") (T := fT_m) (N := 33) hx hb hG fi_m hown hK hP 0 rfl rfl 31 (by decide) (hG _ wd_514) (fun _ h9 => h9) rfl d_m_renew_52 ?_
          refine lv_iload_n hx hb d_m_renew_55 rfl (lv_at hl 1 rfl) ?_
          refine va_iald hx hb hK hP 26 0 rfl rfl (rl_in (n := 300) (by omega) (by omega)) d_m_renew_56 ?_
          refine lv_topi (fun v11 ev11 => ?_)
          refine lv_if_ge (tgt := 70) hx hb d_m_renew_57 (by decide) (fun c12 => ?_) (fun c12 => ?_)
          · have ic12 := rl_ile c12
            simp only [rl_n0] at ic12
            refine lv_bipush (v := (-3)) hx hb d_m_renew_70 (by decide) ?_
            exact W.iret (v := (-3)) hx hb hr (fun t ht hW => ⟨⟨(-3), F1, rfl, ⟨hRF1, (show (F1 27 2).toInt = (F 27 2).toInt ∧ (F1 27 3).toInt = (F 27 3).toInt ∧ (F1 27 4).toInt = (F 27 4).toInt ∧ 0 ≤ (F1 27 5).toInt ∧ (F1 27 5).toInt ≤ 300 by have q9 := rl_nm3; omega)⟩, ⟨by rw [ht]; exact hP, hD⟩⟩, hS.F ht⟩) hS.2.2 d_m_renew_72
          · have ic12 := rl_inle c12
            simp only [rl_n0] at ic12
            refine lv_iload_n hx hb d_m_renew_60 rfl (lv_at hl 2 rfl) ?_
            refine lv_aload_n hx hb d_m_renew_61 rfl (lv_at hl 0 rfl) ?_
            refine va_get (D := D) (ci := 5) (v := .ref (a 24)) (C := "RightsLimitModel") (T := fT_m) (N := 33) hx hb hG fi_m hown hK hP 0 rfl rfl 29 (by decide) (hG _ wd_512) (fun _ h9 => h9) rfl d_m_renew_62 ?_
            refine lv_iload_n hx hb d_m_renew_65 rfl (lv_at hl 1 rfl) ?_
            refine va_iald hx hb hK hP 24 0 rfl rfl (rl_in (n := 300) (by omega) (by omega)) d_m_renew_66 ?_
            refine lv_topi (fun v13 ev13 => ?_)
            refine lv_icmp_lt (tgt := 73) hx hb d_m_renew_67 (by decide) (fun c14 => ?_) (fun c14 => ?_)
            · have ic14 := rl_ilt c14
              refine lv_aload_n hx hb d_m_renew_73 rfl (lv_at hl 0 rfl) ?_
              refine lv_iload_n hx hb d_m_renew_74 rfl (lv_at hl 2 rfl) ?_
              refine va_put (D := D) (ci := 5) (v := .int jt) (ty := .int) (C := "RightsLimitModel") (T := fT_m) (N := 33) hx hb hG fi_m fy_m fo_m fn_m hown hK hP hD hS 0 rfl rfl 1 (by decide) (hG _ wd_484) (fun _ h9 => h9) rfl (by decide +kernel) rfl rfl (Nat.le_of_ble_eq_true rfl) d_m_renew_75 (fun H locs hP hD hS => ?_)
              obtain ⟨F15, eF15⟩ : ∃ G, G = rl_st F1 27 1 jt := ⟨_, rfl⟩
              have hP : va_P D rl_cl (rm_w a kI kZ F15) H := by rw [eF15]; exact hP
              have hD : va_D A (rm_w a kI kZ F15) := by rw [eF15]; exact hD
              obtain ⟨tF15, hRF15⟩ := rm_putS eF15 (by decide) (by decide) (by decide) (by decide) hRF1
              refine lv_aload_n hx hb d_m_renew_78 rfl (lv_at hl 0 rfl) ?_
              refine va_get (D := D) (ci := 5) (v := .ref (a 25)) (C := "RightsLimitModel") (T := fT_m) (N := 33) hx hb hG fi_m hown hK hP 0 rfl rfl 30 (by decide) (hG _ wd_513) (fun _ h9 => h9) rfl d_m_renew_79 ?_
              refine lv_iload_n hx hb d_m_renew_82 rfl (lv_at hl 1 rfl) ?_
              refine lv_dup2_11 hx hb d_m_renew_83 rfl rfl ?_
              refine va_iald hx hb hK hP 25 0 rfl rfl (rl_in (n := 300) (by omega) (by omega)) d_m_renew_84 ?_
              refine lv_topi (fun v16 ev16 => ?_)
              refine lv_iconst (v := 1) hx hb d_m_renew_85 (by decide) ?_
              refine lv_iadd hx hb d_m_renew_86 ?_
              refine lv_topi (fun v17 ev17 => ?_)
              refine va_iast hx hb hK hP hD hS 25 0 rfl rfl (rl_in (n := 300) (by omega) (by omega)) d_m_renew_87 (fun H locs hP hD hS => ?_)
              obtain ⟨F18, eF18⟩ : ∃ G, G = rl_st F15 24 jn.toNatClampNeg v17 := ⟨_, rfl⟩
              have hP : va_P D rl_cl (rm_w a kI kZ F18) H := by rw [eF18]; exact hP
              have hD : va_D A (rm_w a kI kZ F18) := by rw [eF18]; exact hD
              obtain ⟨tF18, hRF18⟩ := rm_keep eF18 (by decide) (by decide) (by decide) hRF15
              refine lv_aload_n hx hb d_m_renew_88 rfl (lv_at hl 0 rfl) ?_
              refine va_get (D := D) (ci := 5) (v := .ref (a 24)) (C := "RightsLimitModel") (T := fT_m) (N := 33) hx hb hG fi_m hown hK hP 0 rfl rfl 29 (by decide) (hG _ wd_512) (fun _ h9 => h9) rfl d_m_renew_89 ?_
              refine lv_iload_n hx hb d_m_renew_92 rfl (lv_at hl 1 rfl) ?_
              refine lv_dup2_11 hx hb d_m_renew_93 rfl rfl ?_
              refine va_iald hx hb hK hP 24 0 rfl rfl (rl_in (n := 300) (by omega) (by omega)) d_m_renew_94 ?_
              refine lv_topi (fun v19 ev19 => ?_)
              refine lv_ldc (v := 2592000) hx hb hown (hG _ wd_636) d_m_renew_95 ?_
              refine lv_iadd hx hb d_m_renew_97 ?_
              refine lv_topi (fun v20 ev20 => ?_)
              refine va_iast hx hb hK hP hD hS 24 0 rfl rfl (rl_in (n := 300) (by omega) (by omega)) d_m_renew_98 (fun H locs hP hD hS => ?_)
              obtain ⟨F21, eF21⟩ : ∃ G, G = rl_st F18 23 jn.toNatClampNeg v20 := ⟨_, rfl⟩
              have hP : va_P D rl_cl (rm_w a kI kZ F21) H := by rw [eF21]; exact hP
              have hD : va_D A (rm_w a kI kZ F21) := by rw [eF21]; exact hD
              obtain ⟨tF21, hRF21⟩ := rm_keep eF21 (by decide) (by decide) (by decide) hRF18
              refine lv_aload_n hx hb d_m_renew_99 rfl (lv_at hl 0 rfl) ?_
              refine va_get (D := D) (ci := 5) (v := .ref (a 24)) (C := "RightsLimitModel") (T := fT_m) (N := 33) hx hb hG fi_m hown hK hP 0 rfl rfl 29 (by decide) (hG _ wd_512) (fun _ h9 => h9) rfl d_m_renew_100 ?_
              refine lv_iload_n hx hb d_m_renew_103 rfl (lv_at hl 1 rfl) ?_
              refine va_iald hx hb hK hP 24 0 rfl rfl (rl_in (n := 300) (by omega) (by omega)) d_m_renew_104 ?_
              refine lv_topi (fun v22 ev22 => ?_)
              exact W.iret (v := v22) hx hb hr (fun t ht hW => ⟨⟨v22, F21, rfl, ⟨hRF21, (show (F21 27 2).toInt = (F 27 2).toInt ∧ (F21 27 3).toInt = (F 27 3).toInt ∧ (F21 27 4).toInt = (F 27 4).toInt ∧ 0 ≤ (F21 27 5).toInt ∧ (F21 27 5).toInt ≤ 300 by omega)⟩, ⟨by rw [ht]; exact hP, hD⟩⟩, hS.F ht⟩) hS.2.2 d_m_renew_105
            · have ic14 := rl_inlt c14
              refine lv_bipush (v := (-3)) hx hb d_m_renew_70 (by decide) ?_
              exact W.iret (v := (-3)) hx hb hr (fun t ht hW => ⟨⟨(-3), F1, rfl, ⟨hRF1, (show (F1 27 2).toInt = (F 27 2).toInt ∧ (F1 27 3).toInt = (F 27 3).toInt ∧ (F1 27 4).toInt = (F 27 4).toInt ∧ 0 ≤ (F1 27 5).toInt ∧ (F1 27 5).toInt ≤ 300 by have q9 := rl_nm3; omega)⟩, ⟨by rw [ht]; exact hP, hD⟩⟩, hS.F ht⟩) hS.2.2 d_m_renew_72
    · refine lv_if_ne (tgt := 32) hx hb d_m_renew_26 (by decide) (fun c9 => absurd c9 (by decide)) (fun _ => ?_)
      refine lv_bipush (v := (-2)) hx hb d_m_renew_29 (by decide) ?_
      exact W.iret (v := (-2)) hx hb hr (fun t ht hW => ⟨⟨(-2), F1, rfl, ⟨hRF1, (show (F1 27 2).toInt = (F 27 2).toInt ∧ (F1 27 3).toInt = (F 27 3).toInt ∧ (F1 27 4).toInt = (F 27 4).toInt ∧ 0 ≤ (F1 27 5).toInt ∧ (F1 27 5).toInt ≤ 300 by have q9 := rl_nm2; omega)⟩, ⟨by rw [ht]; exact hP, hD⟩⟩, hS.F ht⟩) hS.2.2 d_m_renew_31
  · refine lv_if_ne (tgt := 21) hx hb d_m_renew_16 (by decide) (fun c9 => absurd c9 (by decide)) (fun _ => ?_)
    refine lv_iconst (v := (-1)) hx hb d_m_renew_19 (by decide) ?_
    exact W.iret (v := (-1)) hx hb hr (fun t ht hW => ⟨⟨(-1), F1, rfl, ⟨hRF1, (show (F1 27 2).toInt = (F 27 2).toInt ∧ (F1 27 3).toInt = (F 27 3).toInt ∧ (F1 27 4).toInt = (F 27 4).toInt ∧ 0 ≤ (F1 27 5).toInt ∧ (F1 27 5).toInt ≤ 300 by have q9 := rl_nm1; omega)⟩, ⟨by rw [ht]; exact hP, hD⟩⟩, hS.F ht⟩) hS.2.2 d_m_renew_20
set_option maxHeartbeats 4000000 in
set_option maxRecDepth 100000 in
theorem k_m_delete (l : Launch) (D : va_G) (a : Nat → Nat) (kI kZ : ClassId) (F : Nat → Nat → Int32) (jn jt : Int32) (hI : rm_I F) (sz : Nat) : rl_Ci (S := Nat → Nat → Int32) l ⟨"RightsLimitModel", "delete", "(II)I"⟩ (Cond.code ⟨"RightsLimitModel", "delete", "(II)I"⟩ prog_7_method_21_code 3 (some .int) :: rl_G) { frames := 2, cells := 0, slots := 0, locals := 43 } D rl_cl (rl_tys kI kZ) [] [.ref (a 0), .int jn, .int jt] (rm_w a kI kZ F) sz (fun (r : Int32) (F' : Nat → Nat → Int32) => rm_R F' ∧ ((F' 27 2).toInt = (F 27 2).toInt ∧ (F' 27 3).toInt = (F 27 3).toInt ∧ (F' 27 4).toInt = (F 27 4).toInt ∧ 0 ≤ (F' 27 5).toInt ∧ (F' 27 5).toInt ≤ 300)) (fun F' => rm_w a kI kZ F') 0 0 := by
  refine rl_meti (cc := prog_7_method_21_code) (maxL := 3) (ret := (some .int)) (by decide) rfl (Nat.le_of_ble_eq_true rfl) ?_
  intro p e s m below meth c A ls hx hb hr hml hown hts hlocks hnm hP hK hD hS hA hN hl
  have hown : s.vm.findClass "RightsLimitModel" = some m.cls := hown
  have hG : ∀ x ∈ rl_G, x.before _ s = true := fun x h => hts x (List.mem_cons_of_mem _ h)
  have hl : lv_has ls 3 [(0, .ref (a 0)), (1, .int jn), (2, .int jt)] := hl
  obtain ⟨hcnt, hR⟩ := id hI
  refine lv_aload_n hx hb d_m_delete_0 rfl (lv_at hl 0 rfl) ?_
  refine lv_iconst (v := 0) hx hb d_m_delete_1 (by decide) ?_
  refine va_put (D := D) (ci := 5) (v := .int 0) (ty := .int) (C := "RightsLimitModel") (T := fT_m) (N := 33) hx hb hG fi_m fy_m fo_m fn_m hown hK hP hD hS 0 rfl rfl 0 (by decide) (hG _ wd_483) (fun _ h9 => h9) rfl (by decide +kernel) rfl rfl (Nat.le_of_ble_eq_true rfl) d_m_delete_2 (fun H locs hP hD hS => ?_)
  obtain ⟨F1, eF1⟩ : ∃ G, G = rl_st F 27 0 0 := ⟨_, rfl⟩
  have hP : va_P D rl_cl (rm_w a kI kZ F1) H := by rw [eF1]; exact hP
  have hD : va_D A (rm_w a kI kZ F1) := by rw [eF1]; exact hD
  obtain ⟨tF1, hRF1⟩ := rm_putS eF1 (by decide) (by decide) (by decide) (by decide) hR
  refine lv_iload_n hx hb d_m_delete_5 rfl (lv_at hl 1 rfl) ?_
  refine lv_iconst (v := 0) hx hb d_m_delete_6 (by decide) ?_
  refine lv_aload_n hx hb d_m_delete_7 rfl (lv_at hl 0 rfl) ?_
  refine va_get (D := D) (ci := 5) (v := .int (F1 27 5)) (C := "RightsLimitModel") (T := fT_m) (N := 33) hx hb hG fi_m hown hK hP 0 rfl rfl 20 (by decide) (hG _ wd_503) (fun _ h9 => h9) rfl d_m_delete_8 ?_
  refine lv_iconst (v := 1) hx hb d_m_delete_11 (by decide) ?_
  refine lv_isub hx hb d_m_delete_12 ?_
  refine lv_topi (fun v2 ev2 => ?_)
  have iv2 : v2.toInt = (F1 27 5).toInt - 1 := by rw [ev2]; exact rl_subk (by decide) (by omega) (by omega)
  refine rl_callr hS (va_runS (As := [.int jn, .int 0, .int v2]) (rest := []) ⟨hx, hb, hml, hown, hG⟩ (k_m_in l D a kI kZ jn 0 v2 _) (cwS 3 hG (rl_gS wd_587 wd_588 wd_19 wd_589) rfl rfl rfl (by decide +kernel) ⟨Nat.le_of_ble_eq_true rfl, Nat.le_of_ble_eq_true rfl⟩) (rl_BR.pre rl_nw0 rl_P0 hK hN) rfl rfl hl.1 rfl (lv_room (Nat.le_of_ble_eq_true rfl)) d_m_delete_13 ⟨Nat.le_of_ble_eq_true rfl, Nat.le_of_ble_eq_true rfl⟩) (fun r3 locs hw hS => ?_)
  try simp only [rl_n0] at hw
  rcases hw with ⟨rfl, h4⟩ | ⟨rfl, h4⟩
  · refine lv_if_ne (tgt := 21) hx hb d_m_delete_16 (by decide) (fun _ => ?_) (fun c9 => absurd c9 (by decide))
    refine lv_aload_n hx hb d_m_delete_21 rfl (lv_at hl 0 rfl) ?_
    refine lv_iload_n hx hb d_m_delete_22 rfl (lv_at hl 2 rfl) ?_
    have hpre := rl_BR.pre (av := .ref (a 0) :: [.int jt]) rl_nw0 hP hK hN
    refine rl_callr hS (va_runV (As := [.int jt]) (rest := []) ⟨hx, hb, hml, hown, hG⟩ (k_m_isNow l D a kI kZ F1 jt ⟨by omega, hRF1⟩ _) (cwV 1 hG (rl_gV wd_615 wd_617 wd_7 wd_19 wd_618) rfl rfl rfl (by decide +kernel) ⟨Nat.le_of_ble_eq_true rfl, Nat.le_of_ble_eq_true rfl⟩) ⟨hpre.1, (va_recv hK hP (ci := 5) (q0 := 0) rfl rfl), hpre.2⟩ rfl rfl hl.1 rfl (lv_room (Nat.le_of_ble_eq_true rfl)) d_m_delete_23 ⟨Nat.le_of_ble_eq_true rfl, Nat.le_of_ble_eq_true rfl⟩) (fun r5 locs hw hS => ?_)
    rcases hw with ⟨rfl, h6⟩ | ⟨rfl, h6⟩
    · refine lv_if_ne (tgt := 32) hx hb d_m_delete_26 (by decide) (fun _ => ?_) (fun c9 => absurd c9 (by decide))
      refine lv_aload_n hx hb d_m_delete_32 rfl (lv_at hl 0 rfl) ?_
      refine va_get (D := D) (ci := 5) (v := .ref (a 21)) (C := "RightsLimitModel") (T := fT_m) (N := 33) hx hb hG fi_m hown hK hP 0 rfl rfl 26 (by decide) (hG _ wd_509) (fun _ h9 => h9) rfl d_m_delete_33 ?_
      refine lv_iload_n hx hb d_m_delete_36 rfl (lv_at hl 1 rfl) ?_
      refine va_iald hx hb hK hP 21 0 rfl rfl (rl_in (n := 300) (by omega) (by omega)) d_m_delete_37 ?_
      refine lv_topi (fun v7 ev7 => ?_)
      refine lv_if_eq (tgt := 50) hx hb d_m_delete_38 (by decide) (fun c8 => ?_) (fun c8 => ?_)
      · have ic8 := rl_ieq c8
        simp only [rl_n0] at ic8
        refine lv_bipush (v := (-3)) hx hb d_m_delete_50 (by decide) ?_
        exact W.iret (v := (-3)) hx hb hr (fun t ht hW => ⟨⟨(-3), F1, rfl, ⟨hRF1, (show (F1 27 2).toInt = (F 27 2).toInt ∧ (F1 27 3).toInt = (F 27 3).toInt ∧ (F1 27 4).toInt = (F 27 4).toInt ∧ 0 ≤ (F1 27 5).toInt ∧ (F1 27 5).toInt ≤ 300 by have q9 := rl_nm3; omega)⟩, ⟨by rw [ht]; exact hP, hD⟩⟩, hS.F ht⟩) hS.2.2 d_m_delete_52
      · have ic8 := rl_ine c8
        simp only [rl_n0] at ic8
        refine lv_aload_n hx hb d_m_delete_41 rfl (lv_at hl 0 rfl) ?_
        refine va_get (D := D) (ci := 5) (v := .ref (a 26)) (C := "RightsLimitModel") (T := fT_m) (N := 33) hx hb hG fi_m hown hK hP 0 rfl rfl 31 (by decide) (hG _ wd_514) (fun _ h9 => h9) rfl d_m_delete_42 ?_
        refine lv_iload_n hx hb d_m_delete_45 rfl (lv_at hl 1 rfl) ?_
        refine va_iald hx hb hK hP 26 0 rfl rfl (rl_in (n := 300) (by omega) (by omega)) d_m_delete_46 ?_
        refine lv_topi (fun v9 ev9 => ?_)
        refine lv_if_lt (tgt := 53) hx hb d_m_delete_47 (by decide) (fun c10 => ?_) (fun c10 => ?_)
        · have ic10 := rl_ilt c10
          simp only [rl_n0] at ic10
          refine lv_aload_n hx hb d_m_delete_53 rfl (lv_at hl 0 rfl) ?_
          refine lv_iload_n hx hb d_m_delete_54 rfl (lv_at hl 2 rfl) ?_
          refine va_put (D := D) (ci := 5) (v := .int jt) (ty := .int) (C := "RightsLimitModel") (T := fT_m) (N := 33) hx hb hG fi_m fy_m fo_m fn_m hown hK hP hD hS 0 rfl rfl 1 (by decide) (hG _ wd_484) (fun _ h9 => h9) rfl (by decide +kernel) rfl rfl (Nat.le_of_ble_eq_true rfl) d_m_delete_55 (fun H locs hP hD hS => ?_)
          obtain ⟨F11, eF11⟩ : ∃ G, G = rl_st F1 27 1 jt := ⟨_, rfl⟩
          have hP : va_P D rl_cl (rm_w a kI kZ F11) H := by rw [eF11]; exact hP
          have hD : va_D A (rm_w a kI kZ F11) := by rw [eF11]; exact hD
          obtain ⟨tF11, hRF11⟩ := rm_putS eF11 (by decide) (by decide) (by decide) (by decide) hRF1
          refine lv_aload_n hx hb d_m_delete_58 rfl (lv_at hl 0 rfl) ?_
          refine va_get (D := D) (ci := 5) (v := .ref (a 26)) (C := "RightsLimitModel") (T := fT_m) (N := 33) hx hb hG fi_m hown hK hP 0 rfl rfl 31 (by decide) (hG _ wd_514) (fun _ h9 => h9) rfl d_m_delete_59 ?_
          refine lv_iload_n hx hb d_m_delete_62 rfl (lv_at hl 1 rfl) ?_
          refine lv_iload_n hx hb d_m_delete_63 rfl (lv_at hl 2 rfl) ?_
          refine va_iast hx hb hK hP hD hS 26 0 rfl rfl (rl_in (n := 300) (by omega) (by omega)) d_m_delete_64 (fun H locs hP hD hS => ?_)
          obtain ⟨F12, eF12⟩ : ∃ G, G = rl_st F11 25 jn.toNatClampNeg jt := ⟨_, rfl⟩
          have hP : va_P D rl_cl (rm_w a kI kZ F12) H := by rw [eF12]; exact hP
          have hD : va_D A (rm_w a kI kZ F12) := by rw [eF12]; exact hD
          obtain ⟨tF12, hRF12⟩ := rm_keep eF12 (by decide) (by decide) (by decide) hRF11
          refine lv_iload_n hx hb d_m_delete_65 rfl (lv_at hl 2 rfl) ?_
          refine lv_aload_n hx hb d_m_delete_66 rfl (lv_at hl 0 rfl) ?_
          refine va_get (D := D) (ci := 5) (v := .ref (a 24)) (C := "RightsLimitModel") (T := fT_m) (N := 33) hx hb hG fi_m hown hK hP 0 rfl rfl 29 (by decide) (hG _ wd_512) (fun _ h9 => h9) rfl d_m_delete_67 ?_
          refine lv_iload_n hx hb d_m_delete_70 rfl (lv_at hl 1 rfl) ?_
          refine va_iald hx hb hK hP 24 0 rfl rfl (rl_in (n := 300) (by omega) (by omega)) d_m_delete_71 ?_
          refine lv_topi (fun v13 ev13 => ?_)
          refine lv_icmp_lt (tgt := 79) hx hb d_m_delete_72 (by decide) (fun c14 => ?_) (fun c14 => ?_)
          · have ic14 := rl_ilt c14
            refine lv_iconst (v := 1) hx hb d_m_delete_79 (by decide) ?_
            exact W.iret (v := 1) hx hb hr (fun t ht hW => ⟨⟨1, F12, rfl, ⟨hRF12, (show (F12 27 2).toInt = (F 27 2).toInt ∧ (F12 27 3).toInt = (F 27 3).toInt ∧ (F12 27 4).toInt = (F 27 4).toInt ∧ 0 ≤ (F12 27 5).toInt ∧ (F12 27 5).toInt ≤ 300 by have q9 := rl_n1; omega)⟩, ⟨by rw [ht]; exact hP, hD⟩⟩, hS.F ht⟩) hS.2.2 d_m_delete_80
          · have ic14 := rl_inlt c14
            refine lv_iconst (v := 0) hx hb d_m_delete_75 (by decide) ?_
            refine lv_goto (tgt := 80) hx hb d_m_delete_76 (by decide) ?_
            exact W.iret (v := 0) hx hb hr (fun t ht hW => ⟨⟨0, F12, rfl, ⟨hRF12, (show (F12 27 2).toInt = (F 27 2).toInt ∧ (F12 27 3).toInt = (F 27 3).toInt ∧ (F12 27 4).toInt = (F 27 4).toInt ∧ 0 ≤ (F12 27 5).toInt ∧ (F12 27 5).toInt ≤ 300 by have q9 := rl_n0; omega)⟩, ⟨by rw [ht]; exact hP, hD⟩⟩, hS.F ht⟩) hS.2.2 d_m_delete_80
        · have ic10 := rl_inlt c10
          simp only [rl_n0] at ic10
          refine lv_bipush (v := (-3)) hx hb d_m_delete_50 (by decide) ?_
          exact W.iret (v := (-3)) hx hb hr (fun t ht hW => ⟨⟨(-3), F1, rfl, ⟨hRF1, (show (F1 27 2).toInt = (F 27 2).toInt ∧ (F1 27 3).toInt = (F 27 3).toInt ∧ (F1 27 4).toInt = (F 27 4).toInt ∧ 0 ≤ (F1 27 5).toInt ∧ (F1 27 5).toInt ≤ 300 by have q9 := rl_nm3; omega)⟩, ⟨by rw [ht]; exact hP, hD⟩⟩, hS.F ht⟩) hS.2.2 d_m_delete_52
    · refine lv_if_ne (tgt := 32) hx hb d_m_delete_26 (by decide) (fun c9 => absurd c9 (by decide)) (fun _ => ?_)
      refine lv_bipush (v := (-2)) hx hb d_m_delete_29 (by decide) ?_
      exact W.iret (v := (-2)) hx hb hr (fun t ht hW => ⟨⟨(-2), F1, rfl, ⟨hRF1, (show (F1 27 2).toInt = (F 27 2).toInt ∧ (F1 27 3).toInt = (F 27 3).toInt ∧ (F1 27 4).toInt = (F 27 4).toInt ∧ 0 ≤ (F1 27 5).toInt ∧ (F1 27 5).toInt ≤ 300 by have q9 := rl_nm2; omega)⟩, ⟨by rw [ht]; exact hP, hD⟩⟩, hS.F ht⟩) hS.2.2 d_m_delete_31
  · refine lv_if_ne (tgt := 21) hx hb d_m_delete_16 (by decide) (fun c9 => absurd c9 (by decide)) (fun _ => ?_)
    refine lv_iconst (v := (-1)) hx hb d_m_delete_19 (by decide) ?_
    exact W.iret (v := (-1)) hx hb hr (fun t ht hW => ⟨⟨(-1), F1, rfl, ⟨hRF1, (show (F1 27 2).toInt = (F 27 2).toInt ∧ (F1 27 3).toInt = (F 27 3).toInt ∧ (F1 27 4).toInt = (F 27 4).toInt ∧ 0 ≤ (F1 27 5).toInt ∧ (F1 27 5).toInt ≤ 300 by have q9 := rl_nm1; omega)⟩, ⟨by rw [ht]; exact hP, hD⟩⟩, hS.F ht⟩) hS.2.2 d_m_delete_20
set_option maxHeartbeats 4000000 in
set_option maxRecDepth 100000 in
theorem k_m_counted (l : Launch) (D : va_G) (a : Nat → Nat) (kI kZ : ClassId) (F : Nat → Nat → Int32) (jt jk jd ju : Int32) (hI : rm_I F) (sz : Nat) : rl_Ci (S := Nat → Nat → Int32) l ⟨"RightsLimitModel", "counted", "(IIII)I"⟩ (Cond.code ⟨"RightsLimitModel", "counted", "(IIII)I"⟩ prog_7_method_22_code 5 (some .int) :: rl_G) { frames := 2, cells := 0, slots := 0, locals := 43 } D rl_cl (rl_tys kI kZ) [] [.ref (a 0), .int jt, .int jk, .int jd, .int ju] (rm_w a kI kZ F) sz (fun (r : Int32) (F' : Nat → Nat → Int32) => rm_R F' ∧ ((F' 27 2).toInt = (F 27 2).toInt ∧ (F' 27 3).toInt = (F 27 3).toInt ∧ (F' 27 4).toInt = (F 27 4).toInt ∧ (F' 27 5).toInt = (F 27 5).toInt)) (fun F' => rm_w a kI kZ F') 0 0 := by
  refine rl_meti (cc := prog_7_method_22_code) (maxL := 5) (ret := (some .int)) (by decide) rfl (Nat.le_of_ble_eq_true rfl) ?_
  intro p e s m below meth c A ls hx hb hr hml hown hts hlocks hnm hP hK hD hS hA hN hl
  have hown : s.vm.findClass "RightsLimitModel" = some m.cls := hown
  have hG : ∀ x ∈ rl_G, x.before _ s = true := fun x h => hts x (List.mem_cons_of_mem _ h)
  have hl : lv_has ls 5 [(0, .ref (a 0)), (1, .int jt), (2, .int jk), (3, .int jd), (4, .int ju)] := hl
  obtain ⟨hcnt, hR⟩ := id hI
  refine lv_aload_n hx hb d_m_counted_0 rfl (lv_at hl 0 rfl) ?_
  refine lv_iconst (v := 0) hx hb d_m_counted_1 (by decide) ?_
  refine va_put (D := D) (ci := 5) (v := .int 0) (ty := .int) (C := "RightsLimitModel") (T := fT_m) (N := 33) hx hb hG fi_m fy_m fo_m fn_m hown hK hP hD hS 0 rfl rfl 0 (by decide) (hG _ wd_483) (fun _ h9 => h9) rfl (by decide +kernel) rfl rfl (Nat.le_of_ble_eq_true rfl) d_m_counted_2 (fun H locs hP hD hS => ?_)
  obtain ⟨F1, eF1⟩ : ∃ G, G = rl_st F 27 0 0 := ⟨_, rfl⟩
  have hP : va_P D rl_cl (rm_w a kI kZ F1) H := by rw [eF1]; exact hP
  have hD : va_D A (rm_w a kI kZ F1) := by rw [eF1]; exact hD
  obtain ⟨tF1, hRF1⟩ := rm_putS eF1 (by decide) (by decide) (by decide) (by decide) hR
  refine lv_aload_n hx hb d_m_counted_5 rfl (lv_at hl 0 rfl) ?_
  refine lv_iload_n hx hb d_m_counted_6 rfl (lv_at hl 1 rfl) ?_
  have hpre := rl_BR.pre (av := .ref (a 0) :: [.int jt]) rl_nw0 hP hK hN
  refine rl_callr hS (va_runV (As := [.int jt]) (rest := []) ⟨hx, hb, hml, hown, hG⟩ (k_m_isTitle l D a kI kZ F1 jt ⟨by omega, hRF1⟩ _) (cwV 1 hG (rl_gV wd_594 wd_596 wd_6 wd_19 wd_597) rfl rfl rfl (by decide +kernel) ⟨Nat.le_of_ble_eq_true rfl, Nat.le_of_ble_eq_true rfl⟩) ⟨hpre.1, (va_recv hK hP (ci := 5) (q0 := 0) rfl rfl), hpre.2⟩ rfl rfl hl.1 rfl (lv_room (Nat.le_of_ble_eq_true rfl)) d_m_counted_7 ⟨Nat.le_of_ble_eq_true rfl, Nat.le_of_ble_eq_true rfl⟩) (fun r2 locs hw hS => ?_)
  rcases hw with ⟨rfl, h3⟩ | ⟨rfl, h3⟩
  · refine lv_if_ne (tgt := 15) hx hb d_m_counted_10 (by decide) (fun _ => ?_) (fun c9 => absurd c9 (by decide))
    refine lv_iload_n hx hb d_m_counted_15 rfl (lv_at hl 2 rfl) ?_
    refine lv_iconst (v := 0) hx hb d_m_counted_16 (by decide) ?_
    refine lv_iconst (v := 1) hx hb d_m_counted_17 (by decide) ?_
    refine rl_callr hS (va_runS (As := [.int jk, .int 0, .int 1]) (rest := []) ⟨hx, hb, hml, hown, hG⟩ (k_m_in l D a kI kZ jk 0 1 _) (cwS 3 hG (rl_gS wd_587 wd_588 wd_19 wd_589) rfl rfl rfl (by decide +kernel) ⟨Nat.le_of_ble_eq_true rfl, Nat.le_of_ble_eq_true rfl⟩) (rl_BR.pre rl_nw0 rl_P0 hK hN) rfl rfl hl.1 rfl (lv_room (Nat.le_of_ble_eq_true rfl)) d_m_counted_18 ⟨Nat.le_of_ble_eq_true rfl, Nat.le_of_ble_eq_true rfl⟩) (fun r4 locs hw hS => ?_)
    try simp only [rl_n0, rl_n1] at hw
    rcases hw with ⟨rfl, h5⟩ | ⟨rfl, h5⟩
    · refine lv_if_eq (tgt := 46) hx hb d_m_counted_21 (by decide) (fun c9 => absurd c9 (by decide)) (fun _ => ?_)
      refine lv_iload_n hx hb d_m_counted_24 rfl (lv_at hl 3 rfl) ?_
      refine lv_iconst (v := 1) hx hb d_m_counted_25 (by decide) ?_
      refine lv_sipush (v := 5000) hx hb d_m_counted_26 (by decide) ?_
      refine rl_callr hS (va_runS (As := [.int jd, .int 1, .int 5000]) (rest := []) ⟨hx, hb, hml, hown, hG⟩ (k_m_in l D a kI kZ jd 1 5000 _) (cwS 3 hG (rl_gS wd_587 wd_588 wd_19 wd_589) rfl rfl rfl (by decide +kernel) ⟨Nat.le_of_ble_eq_true rfl, Nat.le_of_ble_eq_true rfl⟩) (rl_BR.pre rl_nw0 rl_P0 hK hN) rfl rfl hl.1 rfl (lv_room (Nat.le_of_ble_eq_true rfl)) d_m_counted_29 ⟨Nat.le_of_ble_eq_true rfl, Nat.le_of_ble_eq_true rfl⟩) (fun r6 locs hw hS => ?_)
      try simp only [rl_n1, rl_n5000] at hw
      rcases hw with ⟨rfl, h7⟩ | ⟨rfl, h7⟩
      · refine lv_if_eq (tgt := 46) hx hb d_m_counted_32 (by decide) (fun c9 => absurd c9 (by decide)) (fun _ => ?_)
        refine lv_iload hx hb d_m_counted_35 (lv_at hl 4 rfl) ?_
        refine lv_iconst (v := 0) hx hb d_m_counted_37 (by decide) ?_
        refine lv_ldc (v := 1000000000) hx hb hown (hG _ wd_606) d_m_counted_38 ?_
        refine rl_callr hS (va_runS (As := [.int ju, .int 0, .int 1000000000]) (rest := []) ⟨hx, hb, hml, hown, hG⟩ (k_m_in l D a kI kZ ju 0 1000000000 _) (cwS 3 hG (rl_gS wd_587 wd_588 wd_19 wd_589) rfl rfl rfl (by decide +kernel) ⟨Nat.le_of_ble_eq_true rfl, Nat.le_of_ble_eq_true rfl⟩) (rl_BR.pre rl_nw0 rl_P0 hK hN) rfl rfl hl.1 rfl (lv_room (Nat.le_of_ble_eq_true rfl)) d_m_counted_40 ⟨Nat.le_of_ble_eq_true rfl, Nat.le_of_ble_eq_true rfl⟩) (fun r8 locs hw hS => ?_)
        try simp only [rl_n0, rl_n1000000000] at hw
        rcases hw with ⟨rfl, h9⟩ | ⟨rfl, h9⟩
        · refine lv_if_ne (tgt := 49) hx hb d_m_counted_43 (by decide) (fun _ => ?_) (fun c9 => absurd c9 (by decide))
          refine lv_aload_n hx hb d_m_counted_49 rfl (lv_at hl 0 rfl) ?_
          refine lv_iload_n hx hb d_m_counted_50 rfl (lv_at hl 1 rfl) ?_
          refine lv_iload_n hx hb d_m_counted_51 rfl (lv_at hl 2 rfl) ?_
          refine lv_iload_n hx hb d_m_counted_52 rfl (lv_at hl 3 rfl) ?_
          refine lv_iload hx hb d_m_counted_53 (lv_at hl 4 rfl) ?_
          have hpre := rl_BR.pre (av := .ref (a 0) :: [.int jt, .int jk, .int jd, .int ju]) rl_nw0 hP hK hN
          refine rl_callr hS (va_runV (As := [.int jt, .int jk, .int jd, .int ju]) (rest := []) ⟨hx, hb, hml, hown, hG⟩ (k_m_count l D a kI kZ F1 jt jk jd ju ⟨by omega, hRF1⟩ _) (cwV 4 hG (rl_gV wd_631 wd_633 wd_11 wd_19 wd_634) rfl rfl rfl (by decide +kernel) ⟨Nat.le_of_ble_eq_true rfl, Nat.le_of_ble_eq_true rfl⟩) ⟨hpre.1, (va_recv hK hP (ci := 5) (q0 := 0) rfl rfl), hpre.2⟩ rfl rfl hl.1 rfl (lv_room (Nat.le_of_ble_eq_true rfl)) d_m_counted_55 ⟨Nat.le_of_ble_eq_true rfl, Nat.le_of_ble_eq_true rfl⟩) (fun r10 locs hw hS => ?_)
          have hwr10 := hw
          exact W.iret (v := r10) hx hb hr (fun t ht hW => ⟨⟨r10, F1, rfl, ⟨hRF1, (show (F1 27 2).toInt = (F 27 2).toInt ∧ (F1 27 3).toInt = (F 27 3).toInt ∧ (F1 27 4).toInt = (F 27 4).toInt ∧ (F1 27 5).toInt = (F 27 5).toInt by omega)⟩, ⟨by rw [ht]; exact hP, hD⟩⟩, hS.F ht⟩) hS.2.2 d_m_counted_58
        · refine lv_if_ne (tgt := 49) hx hb d_m_counted_43 (by decide) (fun c9 => absurd c9 (by decide)) (fun _ => ?_)
          refine lv_bipush (v := (-2)) hx hb d_m_counted_46 (by decide) ?_
          exact W.iret (v := (-2)) hx hb hr (fun t ht hW => ⟨⟨(-2), F1, rfl, ⟨hRF1, (show (F1 27 2).toInt = (F 27 2).toInt ∧ (F1 27 3).toInt = (F 27 3).toInt ∧ (F1 27 4).toInt = (F 27 4).toInt ∧ (F1 27 5).toInt = (F 27 5).toInt by have q9 := rl_nm2; omega)⟩, ⟨by rw [ht]; exact hP, hD⟩⟩, hS.F ht⟩) hS.2.2 d_m_counted_48
      · refine lv_if_eq (tgt := 46) hx hb d_m_counted_32 (by decide) (fun _ => ?_) (fun c9 => absurd c9 (by decide))
        refine lv_bipush (v := (-2)) hx hb d_m_counted_46 (by decide) ?_
        exact W.iret (v := (-2)) hx hb hr (fun t ht hW => ⟨⟨(-2), F1, rfl, ⟨hRF1, (show (F1 27 2).toInt = (F 27 2).toInt ∧ (F1 27 3).toInt = (F 27 3).toInt ∧ (F1 27 4).toInt = (F 27 4).toInt ∧ (F1 27 5).toInt = (F 27 5).toInt by have q9 := rl_nm2; omega)⟩, ⟨by rw [ht]; exact hP, hD⟩⟩, hS.F ht⟩) hS.2.2 d_m_counted_48
    · refine lv_if_eq (tgt := 46) hx hb d_m_counted_21 (by decide) (fun _ => ?_) (fun c9 => absurd c9 (by decide))
      refine lv_bipush (v := (-2)) hx hb d_m_counted_46 (by decide) ?_
      exact W.iret (v := (-2)) hx hb hr (fun t ht hW => ⟨⟨(-2), F1, rfl, ⟨hRF1, (show (F1 27 2).toInt = (F 27 2).toInt ∧ (F1 27 3).toInt = (F 27 3).toInt ∧ (F1 27 4).toInt = (F 27 4).toInt ∧ (F1 27 5).toInt = (F 27 5).toInt by have q9 := rl_nm2; omega)⟩, ⟨by rw [ht]; exact hP, hD⟩⟩, hS.F ht⟩) hS.2.2 d_m_counted_48
  · refine lv_if_ne (tgt := 15) hx hb d_m_counted_10 (by decide) (fun c9 => absurd c9 (by decide)) (fun _ => ?_)
    refine lv_iconst (v := (-1)) hx hb d_m_counted_13 (by decide) ?_
    exact W.iret (v := (-1)) hx hb hr (fun t ht hW => ⟨⟨(-1), F1, rfl, ⟨hRF1, (show (F1 27 2).toInt = (F 27 2).toInt ∧ (F1 27 3).toInt = (F 27 3).toInt ∧ (F1 27 4).toInt = (F 27 4).toInt ∧ (F1 27 5).toInt = (F 27 5).toInt by have q9 := rl_nm1; omega)⟩, ⟨by rw [ht]; exact hP, hD⟩⟩, hS.F ht⟩) hS.2.2 d_m_counted_14
set_option maxHeartbeats 4000000 in
set_option maxRecDepth 100000 in
theorem k_m_left (l : Launch) (D : va_G) (a : Nat → Nat) (kI kZ : ClassId) (F : Nat → Nat → Int32) (jn : Int32) (hI : rm_I F) (sz : Nat) : rl_Ci (S := Nat → Nat → Int32) l ⟨"RightsLimitModel", "left", "(I)I"⟩ (Cond.code ⟨"RightsLimitModel", "left", "(I)I"⟩ prog_7_method_25_code 2 (some .int) :: rl_G) { frames := 1, cells := 0, slots := 0, locals := 22 } D rl_cl (rl_tys kI kZ) [] [.ref (a 0), .int jn] (rm_w a kI kZ F) sz (fun (r : Int32) (F' : Nat → Nat → Int32) => rm_R F' ∧ ((F' 27 2).toInt = (F 27 2).toInt ∧ (F' 27 3).toInt = (F 27 3).toInt ∧ (F' 27 4).toInt = (F 27 4).toInt ∧ (F' 27 5).toInt = (F 27 5).toInt)) (fun F' => rm_w a kI kZ F') 0 0 := by
  refine rl_meti (cc := prog_7_method_25_code) (maxL := 2) (ret := (some .int)) (by decide) rfl (Nat.le_of_ble_eq_true rfl) ?_
  intro p e s m below meth c A ls hx hb hr hml hown hts hlocks hnm hP hK hD hS hA hN hl
  have hown : s.vm.findClass "RightsLimitModel" = some m.cls := hown
  have hG : ∀ x ∈ rl_G, x.before _ s = true := fun x h => hts x (List.mem_cons_of_mem _ h)
  have hl : lv_has ls 2 [(0, .ref (a 0)), (1, .int jn)] := hl
  obtain ⟨hcnt, hR⟩ := id hI
  refine lv_aload_n hx hb d_m_left_0 rfl (lv_at hl 0 rfl) ?_
  refine lv_iconst (v := 0) hx hb d_m_left_1 (by decide) ?_
  refine va_put (D := D) (ci := 5) (v := .int 0) (ty := .int) (C := "RightsLimitModel") (T := fT_m) (N := 33) hx hb hG fi_m fy_m fo_m fn_m hown hK hP hD hS 0 rfl rfl 0 (by decide) (hG _ wd_483) (fun _ h9 => h9) rfl (by decide +kernel) rfl rfl (Nat.le_of_ble_eq_true rfl) d_m_left_2 (fun H locs hP hD hS => ?_)
  obtain ⟨F1, eF1⟩ : ∃ G, G = rl_st F 27 0 0 := ⟨_, rfl⟩
  have hP : va_P D rl_cl (rm_w a kI kZ F1) H := by rw [eF1]; exact hP
  have hD : va_D A (rm_w a kI kZ F1) := by rw [eF1]; exact hD
  obtain ⟨tF1, hRF1⟩ := rm_putS eF1 (by decide) (by decide) (by decide) (by decide) hR
  refine lv_iload_n hx hb d_m_left_5 rfl (lv_at hl 1 rfl) ?_
  refine lv_iconst (v := 0) hx hb d_m_left_6 (by decide) ?_
  refine lv_aload_n hx hb d_m_left_7 rfl (lv_at hl 0 rfl) ?_
  refine va_get (D := D) (ci := 5) (v := .int (F1 27 4)) (C := "RightsLimitModel") (T := fT_m) (N := 33) hx hb hG fi_m hown hK hP 0 rfl rfl 14 (by decide) (hG _ wd_497) (fun _ h9 => h9) rfl d_m_left_8 ?_
  refine lv_iconst (v := 1) hx hb d_m_left_11 (by decide) ?_
  refine lv_isub hx hb d_m_left_12 ?_
  refine lv_topi (fun v2 ev2 => ?_)
  have iv2 : v2.toInt = (F1 27 4).toInt - 1 := by rw [ev2]; exact rl_subk (by decide) (by omega) (by omega)
  refine rl_callr hS (va_runS (As := [.int jn, .int 0, .int v2]) (rest := []) ⟨hx, hb, hml, hown, hG⟩ (k_m_in l D a kI kZ jn 0 v2 _) (cwS 3 hG (rl_gS wd_587 wd_588 wd_19 wd_589) rfl rfl rfl (by decide +kernel) ⟨Nat.le_of_ble_eq_true rfl, Nat.le_of_ble_eq_true rfl⟩) (rl_BR.pre rl_nw0 rl_P0 hK hN) rfl rfl hl.1 rfl (lv_room (Nat.le_of_ble_eq_true rfl)) d_m_left_13 ⟨Nat.le_of_ble_eq_true rfl, Nat.le_of_ble_eq_true rfl⟩) (fun r3 locs hw hS => ?_)
  try simp only [rl_n0] at hw
  rcases hw with ⟨rfl, h4⟩ | ⟨rfl, h4⟩
  · refine lv_if_eq (tgt := 28) hx hb d_m_left_16 (by decide) (fun c9 => absurd c9 (by decide)) (fun _ => ?_)
    refine lv_aload_n hx hb d_m_left_19 rfl (lv_at hl 0 rfl) ?_
    refine va_get (D := D) (ci := 5) (v := .ref (a 13)) (C := "RightsLimitModel") (T := fT_m) (N := 33) hx hb hG fi_m hown hK hP 0 rfl rfl 17 (by decide) (hG _ wd_500) (fun _ h9 => h9) rfl d_m_left_20 ?_
    refine lv_iload_n hx hb d_m_left_23 rfl (lv_at hl 1 rfl) ?_
    refine va_iald hx hb hK hP 13 0 rfl rfl (rl_in (n := 50) (by omega) (by omega)) d_m_left_24 ?_
    refine lv_topi (fun v5 ev5 => ?_)
    refine lv_goto (tgt := 29) hx hb d_m_left_25 (by decide) ?_
    exact W.iret (v := v5) hx hb hr (fun t ht hW => ⟨⟨v5, F1, rfl, ⟨hRF1, (show (F1 27 2).toInt = (F 27 2).toInt ∧ (F1 27 3).toInt = (F 27 3).toInt ∧ (F1 27 4).toInt = (F 27 4).toInt ∧ (F1 27 5).toInt = (F 27 5).toInt by omega)⟩, ⟨by rw [ht]; exact hP, hD⟩⟩, hS.F ht⟩) hS.2.2 d_m_left_29
  · refine lv_if_eq (tgt := 28) hx hb d_m_left_16 (by decide) (fun _ => ?_) (fun c9 => absurd c9 (by decide))
    refine lv_iconst (v := (-1)) hx hb d_m_left_28 (by decide) ?_
    exact W.iret (v := (-1)) hx hb hr (fun t ht hW => ⟨⟨(-1), F1, rfl, ⟨hRF1, (show (F1 27 2).toInt = (F 27 2).toInt ∧ (F1 27 3).toInt = (F 27 3).toInt ∧ (F1 27 4).toInt = (F 27 4).toInt ∧ (F1 27 5).toInt = (F 27 5).toInt by have q9 := rl_nm1; omega)⟩, ⟨by rw [ht]; exact hP, hD⟩⟩, hS.F ht⟩) hS.2.2 d_m_left_29
