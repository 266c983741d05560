set_option maxHeartbeats 4000000 in
set_option maxRecDepth 100000 in
theorem k_m_title (l : Launch) (D : va_G) (a : Nat → Nat) (kI kZ : ClassId) (F : Nat → Nat → Int32) (jp : Int32) (hI : rm_I F) (sz : Nat) : rl_Ci (S := Nat → Nat → Int32) l ⟨"RightsLimitModel", "title", "(I)I"⟩ (Cond.code ⟨"RightsLimitModel", "title", "(I)I"⟩ prog_7_method_6_code 2 (some .int) :: rl_G) { frames := 1, cells := 0, slots := 0, locals := 22 } D rl_cl (rl_tys kI kZ) [] [.ref (a 0), .int jp] (rm_w a kI kZ F) sz (fun (r : Int32) (F' : Nat → Nat → Int32) => rm_R F' ∧ (((0 ≤ jp.toInt ∧ jp.toInt ≤ 99) ∧ (F 27 2).toInt < 50 ∧ r.toInt = (F 27 2).toInt ∧ (F' 27 2).toInt = (F 27 2).toInt + 1 ∧ (F' 27 3).toInt = (F 27 3).toInt ∧ (F' 27 4).toInt = (F 27 4).toInt ∧ (F' 27 5).toInt = (F 27 5).toInt) ∨ ((0 ≤ jp.toInt ∧ jp.toInt ≤ 99) ∧ 50 ≤ (F 27 2).toInt ∧ r.toInt = -4 ∧ (F' 27 2).toInt = (F 27 2).toInt ∧ (F' 27 3).toInt = (F 27 3).toInt ∧ (F' 27 4).toInt = (F 27 4).toInt ∧ (F' 27 5).toInt = (F 27 5).toInt) ∨ (¬ (0 ≤ jp.toInt ∧ jp.toInt ≤ 99) ∧ r.toInt = -2 ∧ (F' 27 2).toInt = (F 27 2).toInt ∧ (F' 27 3).toInt = (F 27 3).toInt ∧ (F' 27 4).toInt = (F 27 4).toInt ∧ (F' 27 5).toInt = (F 27 5).toInt))) (fun F' => rm_w a kI kZ F') 0 0 := by
  refine rl_meti (cc := prog_7_method_6_code) (maxL := 2) (ret := (some .int)) (by decide) rfl (Nat.le_of_ble_eq_true rfl) ?_
  intro p e s m below meth c A ls hx hb hr hml hown hts hlocks hnm hP hK hD hS hA hN hl
  have hown : s.vm.findClass "RightsLimitModel" = some m.cls := hown
  have hG : ∀ x ∈ rl_G, x.before _ s = true := fun x h => hts x (List.mem_cons_of_mem _ h)
  have hl : lv_has ls 2 [(0, .ref (a 0)), (1, .int jp)] := hl
  obtain ⟨hcnt, hR⟩ := id hI
  refine lv_aload_n hx hb d_m_title_0 rfl (lv_at hl 0 rfl) ?_
  refine lv_iconst (v := 0) hx hb d_m_title_1 (by decide) ?_
  refine va_put (D := D) (ci := 5) (v := .int 0) (ty := .int) (C := "RightsLimitModel") (T := fT_m) (N := 33) hx hb hG fi_m fy_m fo_m fn_m hown hK hP hD hS 0 rfl rfl 0 (by decide) (hG _ wd_483) (fun _ h9 => h9) rfl (by decide +kernel) rfl rfl (Nat.le_of_ble_eq_true rfl) d_m_title_2 (fun H locs hP hD hS => ?_)
  obtain ⟨F1, eF1⟩ : ∃ G, G = rl_st F 27 0 0 := ⟨_, rfl⟩
  have hP : va_P D rl_cl (rm_w a kI kZ F1) H := by rw [eF1]; exact hP
  have hD : va_D A (rm_w a kI kZ F1) := by rw [eF1]; exact hD
  obtain ⟨tF1, hRF1⟩ := rm_putS eF1 (by decide) (by decide) (by decide) (by decide) hR
  refine lv_iload_n hx hb d_m_title_5 rfl (lv_at hl 1 rfl) ?_
  refine lv_iconst (v := 0) hx hb d_m_title_6 (by decide) ?_
  refine lv_bipush (v := 99) hx hb d_m_title_7 (by decide) ?_
  refine rl_callr hS (va_runS (As := [.int jp, .int 0, .int 99]) (rest := []) ⟨hx, hb, hml, hown, hG⟩ (k_m_in l D a kI kZ jp 0 99 _) (cwS 3 hG (rl_gS wd_587 wd_588 wd_19 wd_589) rfl rfl rfl (by decide +kernel) ⟨Nat.le_of_ble_eq_true rfl, Nat.le_of_ble_eq_true rfl⟩) (rl_BR.pre rl_nw0 rl_P0 hK hN) rfl rfl hl.1 rfl (lv_room (Nat.le_of_ble_eq_true rfl)) d_m_title_9 ⟨Nat.le_of_ble_eq_true rfl, Nat.le_of_ble_eq_true rfl⟩) (fun r2 locs hw hS => ?_)
  try simp only [rl_n0, rl_n99] at hw
  rcases hw with ⟨rfl, h3⟩ | ⟨rfl, h3⟩
  · refine lv_if_ne (tgt := 18) hx hb d_m_title_12 (by decide) (fun _ => ?_) (fun c9 => absurd c9 (by decide))
    refine lv_aload_n hx hb d_m_title_18 rfl (lv_at hl 0 rfl) ?_
    refine va_get (D := D) (ci := 5) (v := .int (F1 27 2)) (C := "RightsLimitModel") (T := fT_m) (N := 33) hx hb hG fi_m hown hK hP 0 rfl rfl 2 (by decide) (hG _ wd_485) (fun _ h9 => h9) rfl d_m_title_19 ?_
    refine lv_bipush (v := 50) hx hb d_m_title_22 (by decide) ?_
    refine lv_icmp_ne (tgt := 30) hx hb d_m_title_24 (by decide) (fun c4 => ?_) (fun c4 => ?_)
    · have ic4 := rl_ine c4
      simp only [rl_n50] at ic4
      refine lv_aload_n hx hb d_m_title_30 rfl (lv_at hl 0 rfl) ?_
      refine va_get (D := D) (ci := 5) (v := .ref (a 1)) (C := "RightsLimitModel") (T := fT_m) (N := 33) hx hb hG fi_m hown hK hP 0 rfl rfl 3 (by decide) (hG _ wd_486) (fun _ h9 => h9) rfl d_m_title_31 ?_
      refine lv_aload_n hx hb d_m_title_34 rfl (lv_at hl 0 rfl) ?_
      refine va_get (D := D) (ci := 5) (v := .int (F1 27 2)) (C := "RightsLimitModel") (T := fT_m) (N := 33) hx hb hG fi_m hown hK hP 0 rfl rfl 2 (by decide) (hG _ wd_485) (fun _ h9 => h9) rfl d_m_title_35 ?_
      refine lv_iload_n hx hb d_m_title_38 rfl (lv_at hl 1 rfl) ?_
      refine va_iast hx hb hK hP hD hS 1 0 rfl rfl (rl_in (n := 50) (by omega) (by omega)) d_m_title_39 (fun H locs hP hD hS => ?_)
      obtain ⟨F5, eF5⟩ : ∃ G, G = rl_st F1 0 ((F1 27 2).toNatClampNeg) jp := ⟨_, rfl⟩
      have hP : va_P D rl_cl (rm_w a kI kZ F5) H := by rw [eF5]; exact hP
      have hD : va_D A (rm_w a kI kZ F5) := by rw [eF5]; exact hD
      obtain ⟨tF5, hRF5⟩ := rm_keep0 eF5 (⟨by omega, by omega⟩) hRF1
      refine lv_aload_n hx hb d_m_title_40 rfl (lv_at hl 0 rfl) ?_
      refine lv_dup hx hb d_m_title_41 rfl ?_
      refine va_get (D := D) (ci := 5) (v := .int (F5 27 2)) (C := "RightsLimitModel") (T := fT_m) (N := 33) hx hb hG fi_m hown hK hP 0 rfl rfl 2 (by decide) (hG _ wd_485) (fun _ h9 => h9) rfl d_m_title_42 ?_
      refine lv_iconst (v := 1) hx hb d_m_title_45 (by decide) ?_
      refine lv_iadd hx hb d_m_title_46 ?_
      refine lv_topi (fun v6 ev6 => ?_)
      have iv6 : v6.toInt = (F5 27 2).toInt + 1 := by rw [ev6]; exact rl_addk (by decide) (by omega) (by omega)
      refine va_put (D := D) (ci := 5) (v := .int v6) (ty := .int) (C := "RightsLimitModel") (T := fT_m) (N := 33) hx hb hG fi_m fy_m fo_m fn_m hown hK hP hD hS 0 rfl rfl 2 (by decide) (hG _ wd_485) (fun _ h9 => h9) rfl (by decide +kernel) rfl rfl (Nat.le_of_ble_eq_true rfl) d_m_title_47 (fun H locs hP hD hS => ?_)
      obtain ⟨F7, eF7⟩ : ∃ G, G = rl_st F5 27 2 v6 := ⟨_, rfl⟩
      have hP : va_P D rl_cl (rm_w a kI kZ F7) H := by rw [eF7]; exact hP
      have hD : va_D A (rm_w a kI kZ F7) := by rw [eF7]; exact hD
      obtain ⟨tF7, hRF7⟩ := rm_put2 eF7 hRF5
      refine lv_aload_n hx hb d_m_title_50 rfl (lv_at hl 0 rfl) ?_
      refine va_get (D := D) (ci := 5) (v := .int (F7 27 2)) (C := "RightsLimitModel") (T := fT_m) (N := 33) hx hb hG fi_m hown hK hP 0 rfl rfl 2 (by decide) (hG _ wd_485) (fun _ h9 => h9) rfl d_m_title_51 ?_
      refine lv_iconst (v := 1) hx hb d_m_title_54 (by decide) ?_
      refine lv_isub hx hb d_m_title_55 ?_
      refine lv_topi (fun v8 ev8 => ?_)
      have iv8 : v8.toInt = (F7 27 2).toInt - 1 := by rw [ev8]; exact rl_subk (by decide) (by omega) (by omega)
      exact W.iret (v := v8) hx hb hr (fun t ht hW => ⟨⟨v8, F7, rfl, ⟨hRF7, (show ((0 ≤ jp.toInt ∧ jp.toInt ≤ 99) ∧ (F 27 2).toInt < 50 ∧ v8.toInt = (F 27 2).toInt ∧ (F7 27 2).toInt = (F 27 2).toInt + 1 ∧ (F7 27 3).toInt = (F 27 3).toInt ∧ (F7 27 4).toInt = (F 27 4).toInt ∧ (F7 27 5).toInt = (F 27 5).toInt) ∨ ((0 ≤ jp.toInt ∧ jp.toInt ≤ 99) ∧ 50 ≤ (F 27 2).toInt ∧ v8.toInt = -4 ∧ (F7 27 2).toInt = (F 27 2).toInt ∧ (F7 27 3).toInt = (F 27 3).toInt ∧ (F7 27 4).toInt = (F 27 4).toInt ∧ (F7 27 5).toInt = (F 27 5).toInt) ∨ (¬ (0 ≤ jp.toInt ∧ jp.toInt ≤ 99) ∧ v8.toInt = -2 ∧ (F7 27 2).toInt = (F 27 2).toInt ∧ (F7 27 3).toInt = (F 27 3).toInt ∧ (F7 27 4).toInt = (F 27 4).toInt ∧ (F7 27 5).toInt = (F 27 5).toInt) by omega)⟩, ⟨by rw [ht]; exact hP, hD⟩⟩, hS.F ht⟩) hS.2.2 d_m_title_56
    · have ic4 := rl_ieq c4
      simp only [rl_n50] at ic4
      refine lv_bipush (v := (-4)) hx hb d_m_title_27 (by decide) ?_
      exact W.iret (v := (-4)) hx hb hr (fun t ht hW => ⟨⟨(-4), F1, rfl, ⟨hRF1, (show ((0 ≤ jp.toInt ∧ jp.toInt ≤ 99) ∧ (F 27 2).toInt < 50 ∧ ((-4) : Int32).toInt = (F 27 2).toInt ∧ (F1 27 2).toInt = (F 27 2).toInt + 1 ∧ (F1 27 3).toInt = (F 27 3).toInt ∧ (F1 27 4).toInt = (F 27 4).toInt ∧ (F1 27 5).toInt = (F 27 5).toInt) ∨ ((0 ≤ jp.toInt ∧ jp.toInt ≤ 99) ∧ 50 ≤ (F 27 2).toInt ∧ ((-4) : Int32).toInt = -4 ∧ (F1 27 2).toInt = (F 27 2).toInt ∧ (F1 27 3).toInt = (F 27 3).toInt ∧ (F1 27 4).toInt = (F 27 4).toInt ∧ (F1 27 5).toInt = (F 27 5).toInt) ∨ (¬ (0 ≤ jp.toInt ∧ jp.toInt ≤ 99) ∧ ((-4) : Int32).toInt = -2 ∧ (F1 27 2).toInt = (F 27 2).toInt ∧ (F1 27 3).toInt = (F 27 3).toInt ∧ (F1 27 4).toInt = (F 27 4).toInt ∧ (F1 27 5).toInt = (F 27 5).toInt) by have q9 := rl_nm4; omega)⟩, ⟨by rw [ht]; exact hP, hD⟩⟩, hS.F ht⟩) hS.2.2 d_m_title_29
  · refine lv_if_ne (tgt := 18) hx hb d_m_title_12 (by decide) (fun c9 => absurd c9 (by decide)) (fun _ => ?_)
    refine lv_bipush (v := (-2)) hx hb d_m_title_15 (by decide) ?_
    exact W.iret (v := (-2)) hx hb hr (fun t ht hW => ⟨⟨(-2), F1, rfl, ⟨hRF1, (show ((0 ≤ jp.toInt ∧ jp.toInt ≤ 99) ∧ (F 27 2).toInt < 50 ∧ ((-2) : Int32).toInt = (F 27 2).toInt ∧ (F1 27 2).toInt = (F 27 2).toInt + 1 ∧ (F1 27 3).toInt = (F 27 3).toInt ∧ (F1 27 4).toInt = (F 27 4).toInt ∧ (F1 27 5).toInt = (F 27 5).toInt) ∨ ((0 ≤ jp.toInt ∧ jp.toInt ≤ 99) ∧ 50 ≤ (F 27 2).toInt ∧ ((-2) : Int32).toInt = -4 ∧ (F1 27 2).toInt = (F 27 2).toInt ∧ (F1 27 3).toInt = (F 27 3).toInt ∧ (F1 27 4).toInt = (F 27 4).toInt ∧ (F1 27 5).toInt = (F 27 5).toInt) ∨ (¬ (0 ≤ jp.toInt ∧ jp.toInt ≤ 99) ∧ ((-2) : Int32).toInt = -2 ∧ (F1 27 2).toInt = (F 27 2).toInt ∧ (F1 27 3).toInt = (F 27 3).toInt ∧ (F1 27 4).toInt = (F 27 4).toInt ∧ (F1 27 5).toInt = (F 27 5).toInt) by have q9 := rl_nm2; omega)⟩, ⟨by rw [ht]; exact hP, hD⟩⟩, hS.F ht⟩) hS.2.2 d_m_title_17
set_option maxHeartbeats 4000000 in
set_option maxRecDepth 100000 in
theorem k_m_open (l : Launch) (D : va_G) (a : Nat → Nat) (kI kZ : ClassId) (F : Nat → Nat → Int32) (jt jb : Int32) (hI : rm_I F) (sz : Nat) : rl_Ci (S := Nat → Nat → Int32) l ⟨"RightsLimitModel", "open", "(IZ)I"⟩ (Cond.code ⟨"RightsLimitModel", "open", "(IZ)I"⟩ prog_7_method_7_code 3 (some .int) :: rl_G) { frames := 2, cells := 0, slots := 0, locals := 43 } D rl_cl (rl_tys kI kZ) [] [.ref (a 0), .int jt, .int jb] (rm_w a kI kZ F) sz (fun (r : Int32) (F' : Nat → Nat → Int32) => rm_R F' ∧ ((((0 ≤ jt.toInt ∧ jt.toInt < (F 27 2).toInt) ∧ r.toInt = 1) ∨ (¬ (0 ≤ jt.toInt ∧ jt.toInt < (F 27 2).toInt) ∧ r.toInt = -1)) ∧ (F' 27 2).toInt = (F 27 2).toInt ∧ (F' 27 3).toInt = (F 27 3).toInt ∧ (F' 27 4).toInt = (F 27 4).toInt ∧ (F' 27 5).toInt = (F 27 5).toInt)) (fun F' => rm_w a kI kZ F') 0 0 := by
  refine rl_meti (cc := prog_7_method_7_code) (maxL := 3) (ret := (some .int)) (by decide) rfl (Nat.le_of_ble_eq_true rfl) ?_
  intro p e s m below meth c A ls hx hb hr hml hown hts hlocks hnm hP hK hD hS hA hN hl
  have hown : s.vm.findClass "RightsLimitModel" = some m.cls := hown
  have hG : ∀ x ∈ rl_G, x.before _ s = true := fun x h => hts x (List.mem_cons_of_mem _ h)
  have hl : lv_has ls 3 [(0, .ref (a 0)), (1, .int jt), (2, .int jb)] := hl
  obtain ⟨hcnt, hR⟩ := id hI
  refine lv_aload_n hx hb d_m_open_0 rfl (lv_at hl 0 rfl) ?_
  refine lv_iconst (v := 0) hx hb d_m_open_1 (by decide) ?_
  refine va_put (D := D) (ci := 5) (v := .int 0) (ty := .int) (C := "RightsLimitModel") (T := fT_m) (N := 33) hx hb hG fi_m fy_m fo_m fn_m hown hK hP hD hS 0 rfl rfl 0 (by decide) (hG _ wd_483) (fun _ h9 => h9) rfl (by decide +kernel) rfl rfl (Nat.le_of_ble_eq_true rfl) d_m_open_2 (fun H locs hP hD hS => ?_)
  obtain ⟨F1, eF1⟩ : ∃ G, G = rl_st F 27 0 0 := ⟨_, rfl⟩
  have hP : va_P D rl_cl (rm_w a kI kZ F1) H := by rw [eF1]; exact hP
  have hD : va_D A (rm_w a kI kZ F1) := by rw [eF1]; exact hD
  obtain ⟨tF1, hRF1⟩ := rm_putS eF1 (by decide) (by decide) (by decide) (by decide) hR
  refine lv_aload_n hx hb d_m_open_5 rfl (lv_at hl 0 rfl) ?_
  refine lv_iload_n hx hb d_m_open_6 rfl (lv_at hl 1 rfl) ?_
  have hpre := rl_BR.pre (av := .ref (a 0) :: [.int jt]) rl_nw0 hP hK hN
  refine rl_callr hS (va_runV (As := [.int jt]) (rest := []) ⟨hx, hb, hml, hown, hG⟩ (k_m_isTitle l D a kI kZ F1 jt ⟨by omega, hRF1⟩ _) (cwV 1 hG (rl_gV wd_594 wd_596 wd_6 wd_19 wd_597) rfl rfl rfl (by decide +kernel) ⟨Nat.le_of_ble_eq_true rfl, Nat.le_of_ble_eq_true rfl⟩) ⟨hpre.1, (va_recv hK hP (ci := 5) (q0 := 0) rfl rfl), hpre.2⟩ rfl rfl hl.1 rfl (lv_room (Nat.le_of_ble_eq_true rfl)) d_m_open_7 ⟨Nat.le_of_ble_eq_true rfl, Nat.le_of_ble_eq_true rfl⟩) (fun r2 locs hw hS => ?_)
  rcases hw with ⟨rfl, h3⟩ | ⟨rfl, h3⟩
  · refine lv_if_ne (tgt := 15) hx hb d_m_open_10 (by decide) (fun _ => ?_) (fun c9 => absurd c9 (by decide))
    refine lv_aload_n hx hb d_m_open_15 rfl (lv_at hl 0 rfl) ?_
    refine va_get (D := D) (ci := 5) (v := .ref (a 2)) (C := "RightsLimitModel") (T := fT_m) (N := 33) hx hb hG fi_m hown hK hP 0 rfl rfl 4 (by decide) (hG _ wd_487) (fun _ h9 => h9) rfl d_m_open_16 ?_
    refine lv_iload_n hx hb d_m_open_19 rfl (lv_at hl 1 rfl) ?_
    refine lv_iload_n hx hb d_m_open_20 rfl (lv_at hl 2 rfl) ?_
    refine va_zast hx hb hK hP hD hS 2 1 rfl rfl (rl_in (n := 50) (by omega) (by omega)) d_m_open_21 (fun H locs hP hD hS => ?_)
    obtain ⟨F4, eF4⟩ : ∃ G, G = rl_st F1 1 jt.toNatClampNeg (vp_nar .boolean jb) := ⟨_, rfl⟩
    have hP : va_P D rl_cl (rm_w a kI kZ F4) H := by rw [eF4]; exact hP
    have hD : va_D A (rm_w a kI kZ F4) := by rw [eF4]; exact hD
    obtain ⟨tF4, hRF4⟩ := rm_keep eF4 (by decide) (by decide) (by decide) hRF1
    refine lv_iconst (v := 1) hx hb d_m_open_22 (by decide) ?_
    exact W.iret (v := 1) hx hb hr (fun t ht hW => ⟨⟨1, F4, rfl, ⟨hRF4, (show (((0 ≤ jt.toInt ∧ jt.toInt < (F 27 2).toInt) ∧ (1 : Int32).toInt = 1) ∨ (¬ (0 ≤ jt.toInt ∧ jt.toInt < (F 27 2).toInt) ∧ (1 : Int32).toInt = -1)) ∧ (F4 27 2).toInt = (F 27 2).toInt ∧ (F4 27 3).toInt = (F 27 3).toInt ∧ (F4 27 4).toInt = (F 27 4).toInt ∧ (F4 27 5).toInt = (F 27 5).toInt by have q9 := rl_n1; omega)⟩, ⟨by rw [ht]; exact hP, hD⟩⟩, hS.F ht⟩) hS.2.2 d_m_open_23
  · refine lv_if_ne (tgt := 15) hx hb d_m_open_10 (by decide) (fun c9 => absurd c9 (by decide)) (fun _ => ?_)
    refine lv_iconst (v := (-1)) hx hb d_m_open_13 (by decide) ?_
    exact W.iret (v := (-1)) hx hb hr (fun t ht hW => ⟨⟨(-1), F1, rfl, ⟨hRF1, (show (((0 ≤ jt.toInt ∧ jt.toInt < (F 27 2).toInt) ∧ ((-1) : Int32).toInt = 1) ∨ (¬ (0 ≤ jt.toInt ∧ jt.toInt < (F 27 2).toInt) ∧ ((-1) : Int32).toInt = -1)) ∧ (F1 27 2).toInt = (F 27 2).toInt ∧ (F1 27 3).toInt = (F 27 3).toInt ∧ (F1 27 4).toInt = (F 27 4).toInt ∧ (F1 27 5).toInt = (F 27 5).toInt by have q9 := rl_nm1; omega)⟩, ⟨by rw [ht]; exact hP, hD⟩⟩, hS.F ht⟩) hS.2.2 d_m_open_14
set_option maxHeartbeats 4000000 in
set_option maxRecDepth 100000 in
theorem k_m_limit (l : Launch) (D : va_G) (a : Nat → Nat) (kI kZ : ClassId) (F : Nat → Nat → Int32) (jt jk jd jn : Int32) (hI : rm_I F) (sz : Nat) : rl_Ci (S := Nat → Nat → Int32) l ⟨"RightsLimitModel", "limit", "(IIII)I"⟩ (Cond.code ⟨"RightsLimitModel", "limit", "(IIII)I"⟩ prog_7_method_8_code 5 (some .int) :: rl_G) { frames := 2, cells := 0, slots := 0, locals := 43 } D rl_cl (rl_tys kI kZ) [] [.ref (a 0), .int jt, .int jk, .int jd, .int jn] (rm_w a kI kZ F) sz (fun (r : Int32) (F' : Nat → Nat → Int32) => rm_R F' ∧ (((0 ≤ jt.toInt ∧ jt.toInt < (F 27 2).toInt) ∧ ((0 ≤ jk.toInt ∧ jk.toInt ≤ 1) ∧ (1 ≤ jd.toInt ∧ jd.toInt ≤ 5000) ∧ (0 ≤ jn.toInt ∧ jn.toInt ≤ 1000)) ∧ (F 27 3).toInt < 100 ∧ r.toInt = (F 27 3).toInt ∧ (F' 27 3).toInt = (F 27 3).toInt + 1 ∧ (F' 27 2).toInt = (F 27 2).toInt ∧ (F' 27 4).toInt = (F 27 4).toInt ∧ (F' 27 5).toInt = (F 27 5).toInt) ∨ ((((0 ≤ jt.toInt ∧ jt.toInt < (F 27 2).toInt) ∧ ((0 ≤ jk.toInt ∧ jk.toInt ≤ 1) ∧ (1 ≤ jd.toInt ∧ jd.toInt ≤ 5000) ∧ (0 ≤ jn.toInt ∧ jn.toInt ≤ 1000)) ∧ 100 ≤ (F 27 3).toInt ∧ r.toInt = -4) ∨ ((0 ≤ jt.toInt ∧ jt.toInt < (F 27 2).toInt) ∧ ¬ ((0 ≤ jk.toInt ∧ jk.toInt ≤ 1) ∧ (1 ≤ jd.toInt ∧ jd.toInt ≤ 5000) ∧ (0 ≤ jn.toInt ∧ jn.toInt ≤ 1000)) ∧ r.toInt = -2) ∨ (¬ (0 ≤ jt.toInt ∧ jt.toInt < (F 27 2).toInt) ∧ r.toInt = -1)) ∧ (F' 27 2).toInt = (F 27 2).toInt ∧ (F' 27 3).toInt = (F 27 3).toInt ∧ (F' 27 4).toInt = (F 27 4).toInt ∧ (F' 27 5).toInt = (F 27 5).toInt))) (fun F' => rm_w a kI kZ F') 0 0 := by
  refine rl_meti (cc := prog_7_method_8_code) (maxL := 5) (ret := (some .int)) (by decide) rfl (Nat.le_of_ble_eq_true rfl) ?_
  intro p e s m below meth c A ls hx hb hr hml hown hts hlocks hnm hP hK hD hS hA hN hl
  have hown : s.vm.findClass "RightsLimitModel" = some m.cls := hown
  have hG : ∀ x ∈ rl_G, x.before _ s = true := fun x h => hts x (List.mem_cons_of_mem _ h)
  have hl : lv_has ls 5 [(0, .ref (a 0)), (1, .int jt), (2, .int jk), (3, .int jd), (4, .int jn)] := hl
  obtain ⟨hcnt, hR⟩ := id hI
  refine lv_aload_n hx hb d_m_limit_0 rfl (lv_at hl 0 rfl) ?_
  refine lv_iconst (v := 0) hx hb d_m_limit_1 (by decide) ?_
  refine va_put (D := D) (ci := 5) (v := .int 0) (ty := .int) (C := "RightsLimitModel") (T := fT_m) (N := 33) hx hb hG fi_m fy_m fo_m fn_m hown hK hP hD hS 0 rfl rfl 0 (by decide) (hG _ wd_483) (fun _ h9 => h9) rfl (by decide +kernel) rfl rfl (Nat.le_of_ble_eq_true rfl) d_m_limit_2 (fun H locs hP hD hS => ?_)
  obtain ⟨F1, eF1⟩ : ∃ G, G = rl_st F 27 0 0 := ⟨_, rfl⟩
  have hP : va_P D rl_cl (rm_w a kI kZ F1) H := by rw [eF1]; exact hP
  have hD : va_D A (rm_w a kI kZ F1) := by rw [eF1]; exact hD
  obtain ⟨tF1, hRF1⟩ := rm_putS eF1 (by decide) (by decide) (by decide) (by decide) hR
  refine lv_aload_n hx hb d_m_limit_5 rfl (lv_at hl 0 rfl) ?_
  refine lv_iload_n hx hb d_m_limit_6 rfl (lv_at hl 1 rfl) ?_
  have hpre := rl_BR.pre (av := .ref (a 0) :: [.int jt]) rl_nw0 hP hK hN
  refine rl_callr hS (va_runV (As := [.int jt]) (rest := []) ⟨hx, hb, hml, hown, hG⟩ (k_m_isTitle l D a kI kZ F1 jt ⟨by omega, hRF1⟩ _) (cwV 1 hG (rl_gV wd_594 wd_596 wd_6 wd_19 wd_597) rfl rfl rfl (by decide +kernel) ⟨Nat.le_of_ble_eq_true rfl, Nat.le_of_ble_eq_true rfl⟩) ⟨hpre.1, (va_recv hK hP (ci := 5) (q0 := 0) rfl rfl), hpre.2⟩ rfl rfl hl.1 rfl (lv_room (Nat.le_of_ble_eq_true rfl)) d_m_limit_7 ⟨Nat.le_of_ble_eq_true rfl, Nat.le_of_ble_eq_true rfl⟩) (fun r2 locs hw hS => ?_)
  rcases hw with ⟨rfl, h3⟩ | ⟨rfl, h3⟩
  · refine lv_if_ne (tgt := 15) hx hb d_m_limit_10 (by decide) (fun _ => ?_) (fun c9 => absurd c9 (by decide))
    refine lv_iload_n hx hb d_m_limit_15 rfl (lv_at hl 2 rfl) ?_
    refine lv_iconst (v := 0) hx hb d_m_limit_16 (by decide) ?_
    refine lv_iconst (v := 1) hx hb d_m_limit_17 (by decide) ?_
    refine rl_callr hS (va_runS (As := [.int jk, .int 0, .int 1]) (rest := []) ⟨hx, hb, hml, hown, hG⟩ (k_m_in l D a kI kZ jk 0 1 _) (cwS 3 hG (rl_gS wd_587 wd_588 wd_19 wd_589) rfl rfl rfl (by decide +kernel) ⟨Nat.le_of_ble_eq_true rfl, Nat.le_of_ble_eq_true rfl⟩) (rl_BR.pre rl_nw0 rl_P0 hK hN) rfl rfl hl.1 rfl (lv_room (Nat.le_of_ble_eq_true rfl)) d_m_limit_18 ⟨Nat.le_of_ble_eq_true rfl, Nat.le_of_ble_eq_true rfl⟩) (fun r4 locs hw hS => ?_)
    try simp only [rl_n0, rl_n1] at hw
    rcases hw with ⟨rfl, h5⟩ | ⟨rfl, h5⟩
    · refine lv_if_eq (tgt := 47) hx hb d_m_limit_21 (by decide) (fun c9 => absurd c9 (by decide)) (fun _ => ?_)
      refine lv_iload_n hx hb d_m_limit_24 rfl (lv_at hl 3 rfl) ?_
      refine lv_iconst (v := 1) hx hb d_m_limit_25 (by decide) ?_
      refine lv_sipush (v := 5000) hx hb d_m_limit_26 (by decide) ?_
      refine rl_callr hS (va_runS (As := [.int jd, .int 1, .int 5000]) (rest := []) ⟨hx, hb, hml, hown, hG⟩ (k_m_in l D a kI kZ jd 1 5000 _) (cwS 3 hG (rl_gS wd_587 wd_588 wd_19 wd_589) rfl rfl rfl (by decide +kernel) ⟨Nat.le_of_ble_eq_true rfl, Nat.le_of_ble_eq_true rfl⟩) (rl_BR.pre rl_nw0 rl_P0 hK hN) rfl rfl hl.1 rfl (lv_room (Nat.le_of_ble_eq_true rfl)) d_m_limit_29 ⟨Nat.le_of_ble_eq_true rfl, Nat.le_of_ble_eq_true rfl⟩) (fun r6 locs hw hS => ?_)
      try simp only [rl_n1, rl_n5000] at hw
      rcases hw with ⟨rfl, h7⟩ | ⟨rfl, h7⟩
      · refine lv_if_eq (tgt := 47) hx hb d_m_limit_32 (by decide) (fun c9 => absurd c9 (by decide)) (fun _ => ?_)
        refine lv_iload hx hb d_m_limit_35 (lv_at hl 4 rfl) ?_
        refine lv_iconst (v := 0) hx hb d_m_limit_37 (by decide) ?_
        refine lv_sipush (v := 1000) hx hb d_m_limit_38 (by decide) ?_
        refine rl_callr hS (va_runS (As := [.int jn, .int 0, .int 1000]) (rest := []) ⟨hx, hb, hml, hown, hG⟩ (k_m_in l D a kI kZ jn 0 1000 _) (cwS 3 hG (rl_gS wd_587 wd_588 wd_19 wd_589) rfl rfl rfl (by decide +kernel) ⟨Nat.le_of_ble_eq_true rfl, Nat.le_of_ble_eq_true rfl⟩) (rl_BR.pre rl_nw0 rl_P0 hK hN) rfl rfl hl.1 rfl (lv_room (Nat.le_of_ble_eq_true rfl)) d_m_limit_41 ⟨Nat.le_of_ble_eq_true rfl, Nat.le_of_ble_eq_true rfl⟩) (fun r8 locs hw hS => ?_)
        try simp only [rl_n0, rl_n1000] at hw
        rcases hw with ⟨rfl, h9⟩ | ⟨rfl, h9⟩
        · refine lv_if_ne (tgt := 50) hx hb d_m_limit_44 (by decide) (fun _ => ?_) (fun c9 => absurd c9 (by decide))
          refine lv_aload_n hx hb d_m_limit_50 rfl (lv_at hl 0 rfl) ?_
          refine va_get (D := D) (ci := 5) (v := .int (F1 27 3)) (C := "RightsLimitModel") (T := fT_m) (N := 33) hx hb hG fi_m hown hK hP 0 rfl rfl 9 (by decide) (hG _ wd_492) (fun _ h9 => h9) rfl d_m_limit_51 ?_
          refine lv_bipush (v := 100) hx hb d_m_limit_54 (by decide) ?_
          refine lv_icmp_ne (tgt := 62) hx hb d_m_limit_56 (by decide) (fun c10 => ?_) (fun c10 => ?_)
          · have ic10 := rl_ine c10
            simp only [rl_n100] at ic10
            refine lv_aload_n hx hb d_m_limit_62 rfl (lv_at hl 0 rfl) ?_
            refine va_get (D := D) (ci := 5) (v := .ref (a 7)) (C := "RightsLimitModel") (T := fT_m) (N := 33) hx hb hG fi_m hown hK hP 0 rfl rfl 10 (by decide) (hG _ wd_493) (fun _ h9 => h9) rfl d_m_limit_63 ?_
            refine lv_aload_n hx hb d_m_limit_66 rfl (lv_at hl 0 rfl) ?_
            refine va_get (D := D) (ci := 5) (v := .int (F1 27 3)) (C := "RightsLimitModel") (T := fT_m) (N := 33) hx hb hG fi_m hown hK hP 0 rfl rfl 9 (by decide) (hG _ wd_492) (fun _ h9 => h9) rfl d_m_limit_67 ?_
            refine lv_iload_n hx hb d_m_limit_70 rfl (lv_at hl 1 rfl) ?_
            refine va_iast hx hb hK hP hD hS 7 0 rfl rfl (rl_in (n := 100) (by omega) (by omega)) d_m_limit_71 (fun H locs hP hD hS => ?_)
            obtain ⟨F11, eF11⟩ : ∃ G, G = rl_st F1 6 ((F1 27 3).toNatClampNeg) jt := ⟨_, rfl⟩
            have hP : va_P D rl_cl (rm_w a kI kZ F11) H := by rw [eF11]; exact hP
            have hD : va_D A (rm_w a kI kZ F11) := by rw [eF11]; exact hD
            obtain ⟨tF11, hRF11⟩ := rm_keep eF11 (by decide) (by decide) (by decide) hRF1
            refine lv_aload_n hx hb d_m_limit_72 rfl (lv_at hl 0 rfl) ?_
            refine va_get (D := D) (ci := 5) (v := .ref (a 8)) (C := "RightsLimitModel") (T := fT_m) (N := 33) hx hb hG fi_m hown hK hP 0 rfl rfl 11 (by decide) (hG _ wd_494) (fun _ h9 => h9) rfl d_m_limit_73 ?_
            refine lv_aload_n hx hb d_m_limit_76 rfl (lv_at hl 0 rfl) ?_
            refine va_get (D := D) (ci := 5) (v := .int (F11 27 3)) (C := "RightsLimitModel") (T := fT_m) (N := 33) hx hb hG fi_m hown hK hP 0 rfl rfl 9 (by decide) (hG _ wd_492) (fun _ h9 => h9) rfl d_m_limit_77 ?_
            refine lv_iload_n hx hb d_m_limit_80 rfl (lv_at hl 2 rfl) ?_
            refine va_iast hx hb hK hP hD hS 8 0 rfl rfl (rl_in (n := 100) (by omega) (by omega)) d_m_limit_81 (fun H locs hP hD hS => ?_)
            obtain ⟨F12, eF12⟩ : ∃ G, G = rl_st F11 7 ((F11 27 3).toNatClampNeg) jk := ⟨_, rfl⟩
            have hP : va_P D rl_cl (rm_w a kI kZ F12) H := by rw [eF12]; exact hP
            have hD : va_D A (rm_w a kI kZ F12) := by rw [eF12]; exact hD
            obtain ⟨tF12, hRF12⟩ := rm_keep eF12 (by decide) (by decide) (by decide) hRF11
            refine lv_aload_n hx hb d_m_limit_82 rfl (lv_at hl 0 rfl) ?_
            refine va_get (D := D) (ci := 5) (v := .ref (a 9)) (C := "RightsLimitModel") (T := fT_m) (N := 33) hx hb hG fi_m hown hK hP 0 rfl rfl 12 (by decide) (hG _ wd_495) (fun _ h9 => h9) rfl d_m_limit_83 ?_
            refine lv_aload_n hx hb d_m_limit_86 rfl (lv_at hl 0 rfl) ?_
            refine va_get (D := D) (ci := 5) (v := .int (F12 27 3)) (C := "RightsLimitModel") (T := fT_m) (N := 33) hx hb hG fi_m hown hK hP 0 rfl rfl 9 (by decide) (hG _ wd_492) (fun _ h9 => h9) rfl d_m_limit_87 ?_
            refine lv_iload_n hx hb d_m_limit_90 rfl (lv_at hl 3 rfl) ?_
            refine va_iast hx hb hK hP hD hS 9 0 rfl rfl (rl_in (n := 100) (by omega) (by omega)) d_m_limit_91 (fun H locs hP hD hS => ?_)
            obtain ⟨F13, eF13⟩ : ∃ G, G = rl_st F12 8 ((F12 27 3).toNatClampNeg) jd := ⟨_, rfl⟩
            have hP : va_P D rl_cl (rm_w a kI kZ F13) H := by rw [eF13]; exact hP
            have hD : va_D A (rm_w a kI kZ F13) := by rw [eF13]; exact hD
            obtain ⟨tF13, hRF13⟩ := rm_keep eF13 (by decide) (by decide) (by decide) hRF12
            refine lv_aload_n hx hb d_m_limit_92 rfl (lv_at hl 0 rfl) ?_
            refine va_get (D := D) (ci := 5) (v := .ref (a 10)) (C := "RightsLimitModel") (T := fT_m) (N := 33) hx hb hG fi_m hown hK hP 0 rfl rfl 13 (by decide) (hG _ wd_496) (fun _ h9 => h9) rfl d_m_limit_93 ?_
            refine lv_aload_n hx hb d_m_limit_96 rfl (lv_at hl 0 rfl) ?_
            refine va_get (D := D) (ci := 5) (v := .int (F13 27 3)) (C := "RightsLimitModel") (T := fT_m) (N := 33) hx hb hG fi_m hown hK hP 0 rfl rfl 9 (by decide) (hG _ wd_492) (fun _ h9 => h9) rfl d_m_limit_97 ?_
            refine lv_iload hx hb d_m_limit_100 (lv_at hl 4 rfl) ?_
            refine va_iast hx hb hK hP hD hS 10 0 rfl rfl (rl_in (n := 100) (by omega) (by omega)) d_m_limit_102 (fun H locs hP hD hS => ?_)
            obtain ⟨F14, eF14⟩ : ∃ G, G = rl_st F13 9 ((F13 27 3).toNatClampNeg) jn := ⟨_, rfl⟩
            have hP : va_P D rl_cl (rm_w a kI kZ F14) H := by rw [eF14]; exact hP
            have hD : va_D A (rm_w a kI kZ F14) := by rw [eF14]; exact hD
            obtain ⟨tF14, hRF14⟩ := rm_keep eF14 (by decide) (by decide) (by decide) hRF13
            refine lv_aload_n hx hb d_m_limit_103 rfl (lv_at hl 0 rfl) ?_
            refine lv_dup hx hb d_m_limit_104 rfl ?_
            refine va_get (D := D) (ci := 5) (v := .int (F14 27 3)) (C := "RightsLimitModel") (T := fT_m) (N := 33) hx hb hG fi_m hown hK hP 0 rfl rfl 9 (by decide) (hG _ wd_492) (fun _ h9 => h9) rfl d_m_limit_105 ?_
            refine lv_iconst (v := 1) hx hb d_m_limit_108 (by decide) ?_
            refine lv_iadd hx hb d_m_limit_109 ?_
            refine lv_topi (fun v15 ev15 => ?_)
            have iv15 : v15.toInt = (F14 27 3).toInt + 1 := by rw [ev15]; exact rl_addk (by decide) (by omega) (by omega)
            refine va_put (D := D) (ci := 5) (v := .int v15) (ty := .int) (C := "RightsLimitModel") (T := fT_m) (N := 33) hx hb hG fi_m fy_m fo_m fn_m hown hK hP hD hS 0 rfl rfl 9 (by decide) (hG _ wd_492) (fun _ h9 => h9) rfl (by decide +kernel) rfl rfl (Nat.le_of_ble_eq_true rfl) d_m_limit_110 (fun H locs hP hD hS => ?_)
            obtain ⟨F16, eF16⟩ : ∃ G, G = rl_st F14 27 3 v15 := ⟨_, rfl⟩
            have hP : va_P D rl_cl (rm_w a kI kZ F16) H := by rw [eF16]; exact hP
            have hD : va_D A (rm_w a kI kZ F16) := by rw [eF16]; exact hD
            obtain ⟨tF16, hRF16⟩ := rm_put3 eF16 hRF14
            refine lv_aload_n hx hb d_m_limit_113 rfl (lv_at hl 0 rfl) ?_
            refine va_get (D := D) (ci := 5) (v := .int (F16 27 3)) (C := "RightsLimitModel") (T := fT_m) (N := 33) hx hb hG fi_m hown hK hP 0 rfl rfl 9 (by decide) (hG _ wd_492) (fun _ h9 => h9) rfl d_m_limit_114 ?_
            refine lv_iconst (v := 1) hx hb d_m_limit_117 (by decide) ?_
            refine lv_isub hx hb d_m_limit_118 ?_
            refine lv_topi (fun v17 ev17 => ?_)
            have iv17 : v17.toInt = (F16 27 3).toInt - 1 := by rw [ev17]; exact rl_subk (by decide) (by omega) (by omega)
            exact W.iret (v := v17) hx hb hr (fun t ht hW => ⟨⟨v17, F16, rfl, ⟨hRF16, (show ((0 ≤ jt.toInt ∧ jt.toInt < (F 27 2).toInt) ∧ ((0 ≤ jk.toInt ∧ jk.toInt ≤ 1) ∧ (1 ≤ jd.toInt ∧ jd.toInt ≤ 5000) ∧ (0 ≤ jn.toInt ∧ jn.toInt ≤ 1000)) ∧ (F 27 3).toInt < 100 ∧ v17.toInt = (F 27 3).toInt ∧ (F16 27 3).toInt = (F 27 3).toInt + 1 ∧ (F16 27 2).toInt = (F 27 2).toInt ∧ (F16 27 4).toInt = (F 27 4).toInt ∧ (F16 27 5).toInt = (F 27 5).toInt) ∨ ((((0 ≤ jt.toInt ∧ jt.toInt < (F 27 2).toInt) ∧ ((0 ≤ jk.toInt ∧ jk.toInt ≤ 1) ∧ (1 ≤ jd.toInt ∧ jd.toInt ≤ 5000) ∧ (0 ≤ jn.toInt ∧ jn.toInt ≤ 1000)) ∧ 100 ≤ (F 27 3).toInt ∧ v17.toInt = -4) ∨ ((0 ≤ jt.toInt ∧ jt.toInt < (F 27 2).toInt) ∧ ¬ ((0 ≤ jk.toInt ∧ jk.toInt ≤ 1) ∧ (1 ≤ jd.toInt ∧ jd.toInt ≤ 5000) ∧ (0 ≤ jn.toInt ∧ jn.toInt ≤ 1000)) ∧ v17.toInt = -2) ∨ (¬ (0 ≤ jt.toInt ∧ jt.toInt < (F 27 2).toInt) ∧ v17.toInt = -1)) ∧ (F16 27 2).toInt = (F 27 2).toInt ∧ (F16 27 3).toInt = (F 27 3).toInt ∧ (F16 27 4).toInt = (F 27 4).toInt ∧ (F16 27 5).toInt = (F 27 5).toInt) by omega)⟩, ⟨by rw [ht]; exact hP, hD⟩⟩, hS.F ht⟩) hS.2.2 d_m_limit_119
          · have ic10 := rl_ieq c10
            simp only [rl_n100] at ic10
            refine lv_bipush (v := (-4)) hx hb d_m_limit_59 (by decide) ?_
            exact W.iret (v := (-4)) hx hb hr (fun t ht hW => ⟨⟨(-4), F1, rfl, ⟨hRF1, (show ((0 ≤ jt.toInt ∧ jt.toInt < (F 27 2).toInt) ∧ ((0 ≤ jk.toInt ∧ jk.toInt ≤ 1) ∧ (1 ≤ jd.toInt ∧ jd.toInt ≤ 5000) ∧ (0 ≤ jn.toInt ∧ jn.toInt ≤ 1000)) ∧ (F 27 3).toInt < 100 ∧ ((-4) : Int32).toInt = (F 27 3).toInt ∧ (F1 27 3).toInt = (F 27 3).toInt + 1 ∧ (F1 27 2).toInt = (F 27 2).toInt ∧ (F1 27 4).toInt = (F 27 4).toInt ∧ (F1 27 5).toInt = (F 27 5).toInt) ∨ ((((0 ≤ jt.toInt ∧ jt.toInt < (F 27 2).toInt) ∧ ((0 ≤ jk.toInt ∧ jk.toInt ≤ 1) ∧ (1 ≤ jd.toInt ∧ jd.toInt ≤ 5000) ∧ (0 ≤ jn.toInt ∧ jn.toInt ≤ 1000)) ∧ 100 ≤ (F 27 3).toInt ∧ ((-4) : Int32).toInt = -4) ∨ ((0 ≤ jt.toInt ∧ jt.toInt < (F 27 2).toInt) ∧ ¬ ((0 ≤ jk.toInt ∧ jk.toInt ≤ 1) ∧ (1 ≤ jd.toInt ∧ jd.toInt ≤ 5000) ∧ (0 ≤ jn.toInt ∧ jn.toInt ≤ 1000)) ∧ ((-4) : Int32).toInt = -2) ∨ (¬ (0 ≤ jt.toInt ∧ jt.toInt < (F 27 2).toInt) ∧ ((-4) : Int32).toInt = -1)) ∧ (F1 27 2).toInt = (F 27 2).toInt ∧ (F1 27 3).toInt = (F 27 3).toInt ∧ (F1 27 4).toInt = (F 27 4).toInt ∧ (F1 27 5).toInt = (F 27 5).toInt) by have q9 := rl_nm4; omega)⟩, ⟨by rw [ht]; exact hP, hD⟩⟩, hS.F ht⟩) hS.2.2 d_m_limit_61
        · refine lv_if_ne (tgt := 50) hx hb d_m_limit_44 (by decide) (fun c9 => absurd c9 (by decide)) (fun _ => ?_)
          refine lv_bipush (v := (-2)) hx hb d_m_limit_47 (by decide) ?_
          exact W.iret (v := (-2)) hx hb hr (fun t ht hW => ⟨⟨(-2), F1, rfl, ⟨hRF1, (show ((0 ≤ jt.toInt ∧ jt.toInt < (F 27 2).toInt) ∧ ((0 ≤ jk.toInt ∧ jk.toInt ≤ 1) ∧ (1 ≤ jd.toInt ∧ jd.toInt ≤ 5000) ∧ (0 ≤ jn.toInt ∧ jn.toInt ≤ 1000)) ∧ (F 27 3).toInt < 100 ∧ ((-2) : Int32).toInt = (F 27 3).toInt ∧ (F1 27 3).toInt = (F 27 3).toInt + 1 ∧ (F1 27 2).toInt = (F 27 2).toInt ∧ (F1 27 4).toInt = (F 27 4).toInt ∧ (F1 27 5).toInt = (F 27 5).toInt) ∨ ((((0 ≤ jt.toInt ∧ jt.toInt < (F 27 2).toInt) ∧ ((0 ≤ jk.toInt ∧ jk.toInt ≤ 1) ∧ (1 ≤ jd.toInt ∧ jd.toInt ≤ 5000) ∧ (0 ≤ jn.toInt ∧ jn.toInt ≤ 1000)) ∧ 100 ≤ (F 27 3).toInt ∧ ((-2) : Int32).toInt = -4) ∨ ((0 ≤ jt.toInt ∧ jt.toInt < (F 27 2).toInt) ∧ ¬ ((0 ≤ jk.toInt ∧ jk.toInt ≤ 1) ∧ (1 ≤ jd.toInt ∧ jd.toInt ≤ 5000) ∧ (0 ≤ jn.toInt ∧ jn.toInt ≤ 1000)) ∧ ((-2) : Int32).toInt = -2) ∨ (¬ (0 ≤ jt.toInt ∧ jt.toInt < (F 27 2).toInt) ∧ ((-2) : Int32).toInt = -1)) ∧ (F1 27 2).toInt = (F 27 2).toInt ∧ (F1 27 3).toInt = (F 27 3).toInt ∧ (F1 27 4).toInt = (F 27 4).toInt ∧ (F1 27 5).toInt = (F 27 5).toInt) by have q9 := rl_nm2; omega)⟩, ⟨by rw [ht]; exact hP, hD⟩⟩, hS.F ht⟩) hS.2.2 d_m_limit_49
      · refine lv_if_eq (tgt := 47) hx hb d_m_limit_32 (by decide) (fun _ => ?_) (fun c9 => absurd c9 (by decide))
        refine lv_bipush (v := (-2)) hx hb d_m_limit_47 (by decide) ?_
        exact W.iret (v := (-2)) hx hb hr (fun t ht hW => ⟨⟨(-2), F1, rfl, ⟨hRF1, (show ((0 ≤ jt.toInt ∧ jt.toInt < (F 27 2).toInt) ∧ ((0 ≤ jk.toInt ∧ jk.toInt ≤ 1) ∧ (1 ≤ jd.toInt ∧ jd.toInt ≤ 5000) ∧ (0 ≤ jn.toInt ∧ jn.toInt ≤ 1000)) ∧ (F 27 3).toInt < 100 ∧ ((-2) : Int32).toInt = (F 27 3).toInt ∧ (F1 27 3).toInt = (F 27 3).toInt + 1 ∧ (F1 27 2).toInt = (F 27 2).toInt ∧ (F1 27 4).toInt = (F 27 4).toInt ∧ (F1 27 5).toInt = (F 27 5).toInt) ∨ ((((0 ≤ jt.toInt ∧ jt.toInt < (F 27 2).toInt) ∧ ((0 ≤ jk.toInt ∧ jk.toInt ≤ 1) ∧ (1 ≤ jd.toInt ∧ jd.toInt ≤ 5000) ∧ (0 ≤ jn.toInt ∧ jn.toInt ≤ 1000)) ∧ 100 ≤ (F 27 3).toInt ∧ ((-2) : Int32).toInt = -4) ∨ ((0 ≤ jt.toInt ∧ jt.toInt < (F 27 2).toInt) ∧ ¬ ((0 ≤ jk.toInt ∧ jk.toInt ≤ 1) ∧ (1 ≤ jd.toInt ∧ jd.toInt ≤ 5000) ∧ (0 ≤ jn.toInt ∧ jn.toInt ≤ 1000)) ∧ ((-2) : Int32).toInt = -2) ∨ (¬ (0 ≤ jt.toInt ∧ jt.toInt < (F 27 2).toInt) ∧ ((-2) : Int32).toInt = -1)) ∧ (F1 27 2).toInt = (F 27 2).toInt ∧ (F1 27 3).toInt = (F 27 3).toInt ∧ (F1 27 4).toInt = (F 27 4).toInt ∧ (F1 27 5).toInt = (F 27 5).toInt) by have q9 := rl_nm2; omega)⟩, ⟨by rw [ht]; exact hP, hD⟩⟩, hS.F ht⟩) hS.2.2 d_m_limit_49
    · refine lv_if_eq (tgt := 47) hx hb d_m_limit_21 (by decide) (fun _ => ?_) (fun c9 => absurd c9 (by decide))
      refine lv_bipush (v := (-2)) hx hb d_m_limit_47 (by decide) ?_
      exact W.iret (v := (-2)) hx hb hr (fun t ht hW => ⟨⟨(-2), F1, rfl, ⟨hRF1, (show ((0 ≤ jt.toInt ∧ jt.toInt < (F 27 2).toInt) ∧ ((0 ≤ jk.toInt ∧ jk.toInt ≤ 1) ∧ (1 ≤ jd.toInt ∧ jd.toInt ≤ 5000) ∧ (0 ≤ jn.toInt ∧ jn.toInt ≤ 1000)) ∧ (F 27 3).toInt < 100 ∧ ((-2) : Int32).toInt = (F 27 3).toInt ∧ (F1 27 3).toInt = (F 27 3).toInt + 1 ∧ (F1 27 2).toInt = (F 27 2).toInt ∧ (F1 27 4).toInt = (F 27 4).toInt ∧ (F1 27 5).toInt = (F 27 5).toInt) ∨ ((((0 ≤ jt.toInt ∧ jt.toInt < (F 27 2).toInt) ∧ ((0 ≤ jk.toInt ∧ jk.toInt ≤ 1) ∧ (1 ≤ jd.toInt ∧ jd.toInt ≤ 5000) ∧ (0 ≤ jn.toInt ∧ jn.toInt ≤ 1000)) ∧ 100 ≤ (F 27 3).toInt ∧ ((-2) : Int32).toInt = -4) ∨ ((0 ≤ jt.toInt ∧ jt.toInt < (F 27 2).toInt) ∧ ¬ ((0 ≤ jk.toInt ∧ jk.toInt ≤ 1) ∧ (1 ≤ jd.toInt ∧ jd.toInt ≤ 5000) ∧ (0 ≤ jn.toInt ∧ jn.toInt ≤ 1000)) ∧ ((-2) : Int32).toInt = -2) ∨ (¬ (0 ≤ jt.toInt ∧ jt.toInt < (F 27 2).toInt) ∧ ((-2) : Int32).toInt = -1)) ∧ (F1 27 2).toInt = (F 27 2).toInt ∧ (F1 27 3).toInt = (F 27 3).toInt ∧ (F1 27 4).toInt = (F 27 4).toInt ∧ (F1 27 5).toInt = (F 27 5).toInt) by have q9 := rl_nm2; omega)⟩, ⟨by rw [ht]; exact hP, hD⟩⟩, hS.F ht⟩) hS.2.2 d_m_limit_49
  · refine lv_if_ne (tgt := 15) hx hb d_m_limit_10 (by decide) (fun c9 => absurd c9 (by decide)) (fun _ => ?_)
    refine lv_iconst (v := (-1)) hx hb d_m_limit_13 (by decide) ?_
    exact W.iret (v := (-1)) hx hb hr (fun t ht hW => ⟨⟨(-1), F1, rfl, ⟨hRF1, (show ((0 ≤ jt.toInt ∧ jt.toInt < (F 27 2).toInt) ∧ ((0 ≤ jk.toInt ∧ jk.toInt ≤ 1) ∧ (1 ≤ jd.toInt ∧ jd.toInt ≤ 5000) ∧ (0 ≤ jn.toInt ∧ jn.toInt ≤ 1000)) ∧ (F 27 3).toInt < 100 ∧ ((-1) : Int32).toInt = (F 27 3).toInt ∧ (F1 27 3).toInt = (F 27 3).toInt + 1 ∧ (F1 27 2).toInt = (F 27 2).toInt ∧ (F1 27 4).toInt = (F 27 4).toInt ∧ (F1 27 5).toInt = (F 27 5).toInt) ∨ ((((0 ≤ jt.toInt ∧ jt.toInt < (F 27 2).toInt) ∧ ((0 ≤ jk.toInt ∧ jk.toInt ≤ 1) ∧ (1 ≤ jd.toInt ∧ jd.toInt ≤ 5000) ∧ (0 ≤ jn.toInt ∧ jn.toInt ≤ 1000)) ∧ 100 ≤ (F 27 3).toInt ∧ ((-1) : Int32).toInt = -4) ∨ ((0 ≤ jt.toInt ∧ jt.toInt < (F 27 2).toInt) ∧ ¬ ((0 ≤ jk.toInt ∧ jk.toInt ≤ 1) ∧ (1 ≤ jd.toInt ∧ jd.toInt ≤ 5000) ∧ (0 ≤ jn.toInt ∧ jn.toInt ≤ 1000)) ∧ ((-1) : Int32).toInt = -2) ∨ (¬ (0 ≤ jt.toInt ∧ jt.toInt < (F 27 2).toInt) ∧ ((-1) : Int32).toInt = -1)) ∧ (F1 27 2).toInt = (F 27 2).toInt ∧ (F1 27 3).toInt = (F 27 3).toInt ∧ (F1 27 4).toInt = (F 27 4).toInt ∧ (F1 27 5).toInt = (F 27 5).toInt) by have q9 := rl_nm1; omega)⟩, ⟨by rw [ht]; exact hP, hD⟩⟩, hS.F ht⟩) hS.2.2 d_m_limit_14
set_option maxHeartbeats 4000000 in
set_option maxRecDepth 100000 in
theorem k_m_licence (l : Launch) (D : va_G) (a : Nat → Nat) (kI kZ : ClassId) (F : Nat → Nat → Int32) (jt jk jn ju jv : Int32) (hI : rm_I F) (sz : Nat) : rl_Ci (S := Nat → Nat → Int32) l ⟨"RightsLimitModel", "licence", "(IIIII)I"⟩ (Cond.code ⟨"RightsLimitModel", "licence", "(IIIII)I"⟩ prog_7_method_9_code 6 (some .int) :: rl_G) { frames := 2, cells := 0, slots := 0, locals := 43 } D rl_cl (rl_tys kI kZ) [] [.ref (a 0), .int jt, .int jk, .int jn, .int ju, .int jv] (rm_w a kI kZ F) sz (fun (r : Int32) (F' : Nat → Nat → Int32) => rm_R F' ∧ (((0 ≤ jt.toInt ∧ jt.toInt < (F 27 2).toInt) ∧ ((0 ≤ jk.toInt ∧ jk.toInt ≤ 1) ∧ (0 ≤ jn.toInt ∧ jn.toInt ≤ 1000) ∧ (0 ≤ ju.toInt ∧ ju.toInt ≤ 1000000000) ∧ (0 ≤ jv.toInt ∧ jv.toInt ≤ 1000000000) ∧ ju.toInt ≤ jv.toInt) ∧ (F 27 4).toInt < 50 ∧ r.toInt = (F 27 4).toInt ∧ (F' 27 4).toInt = (F 27 4).toInt + 1 ∧ (F' 27 2).toInt = (F 27 2).toInt ∧ (F' 27 3).toInt = (F 27 3).toInt ∧ (F' 27 5).toInt = (F 27 5).toInt) ∨ ((((0 ≤ jt.toInt ∧ jt.toInt < (F 27 2).toInt) ∧ ((0 ≤ jk.toInt ∧ jk.toInt ≤ 1) ∧ (0 ≤ jn.toInt ∧ jn.toInt ≤ 1000) ∧ (0 ≤ ju.toInt ∧ ju.toInt ≤ 1000000000) ∧ (0 ≤ jv.toInt ∧ jv.toInt ≤ 1000000000) ∧ ju.toInt ≤ jv.toInt) ∧ 50 ≤ (F 27 4).toInt ∧ r.toInt = -4) ∨ ((0 ≤ jt.toInt ∧ jt.toInt < (F 27 2).toInt) ∧ ¬ ((0 ≤ jk.toInt ∧ jk.toInt ≤ 1) ∧ (0 ≤ jn.toInt ∧ jn.toInt ≤ 1000) ∧ (0 ≤ ju.toInt ∧ ju.toInt ≤ 1000000000) ∧ (0 ≤ jv.toInt ∧ jv.toInt ≤ 1000000000) ∧ ju.toInt ≤ jv.toInt) ∧ r.toInt = -2) ∨ (¬ (0 ≤ jt.toInt ∧ jt.toInt < (F 27 2).toInt) ∧ r.toInt = -1)) ∧ (F' 27 2).toInt = (F 27 2).toInt ∧ (F' 27 3).toInt = (F 27 3).toInt ∧ (F' 27 4).toInt = (F 27 4).toInt ∧ (F' 27 5).toInt = (F 27 5).toInt))) (fun F' => rm_w a kI kZ F') 0 0 := by
  refine rl_meti (cc := prog_7_method_9_code) (maxL := 6) (ret := (some .int)) (by decide) rfl (Nat.le_of_ble_eq_true rfl) ?_
  intro p e s m below meth c A ls hx hb hr hml hown hts hlocks hnm hP hK hD hS hA hN hl
  have hown : s.vm.findClass "RightsLimitModel" = some m.cls := hown
  have hG : ∀ x ∈ rl_G, x.before _ s = true := fun x h => hts x (List.mem_cons_of_mem _ h)
  have hl : lv_has ls 6 [(0, .ref (a 0)), (1, .int jt), (2, .int jk), (3, .int jn), (4, .int ju), (5, .int jv)] := hl
  obtain ⟨hcnt, hR⟩ := id hI
  refine lv_aload_n hx hb d_m_licence_0 rfl (lv_at hl 0 rfl) ?_
  refine lv_iconst (v := 0) hx hb d_m_licence_1 (by decide) ?_
  refine va_put (D := D) (ci := 5) (v := .int 0) (ty := .int) (C := "RightsLimitModel") (T := fT_m) (N := 33) hx hb hG fi_m fy_m fo_m fn_m hown hK hP hD hS 0 rfl rfl 0 (by decide) (hG _ wd_483) (fun _ h9 => h9) rfl (by decide +kernel) rfl rfl (Nat.le_of_ble_eq_true rfl) d_m_licence_2 (fun H locs hP hD hS => ?_)
  obtain ⟨F1, eF1⟩ : ∃ G, G = rl_st F 27 0 0 := ⟨_, rfl⟩
  have hP : va_P D rl_cl (rm_w a kI kZ F1) H := by rw [eF1]; exact hP
  have hD : va_D A (rm_w a kI kZ F1) := by rw [eF1]; exact hD
  obtain ⟨tF1, hRF1⟩ := rm_putS eF1 (by decide) (by decide) (by decide) (by decide) hR
  refine lv_aload_n hx hb d_m_licence_5 rfl (lv_at hl 0 rfl) ?_
  refine lv_iload_n hx hb d_m_licence_6 rfl (lv_at hl 1 rfl) ?_
  have hpre := rl_BR.pre (av := .ref (a 0) :: [.int jt]) rl_nw0 hP hK hN
  refine rl_callr hS (va_runV (As := [.int jt]) (rest := []) ⟨hx, hb, hml, hown, hG⟩ (k_m_isTitle l D a kI kZ F1 jt ⟨by omega, hRF1⟩ _) (cwV 1 hG (rl_gV wd_594 wd_596 wd_6 wd_19 wd_597) rfl rfl rfl (by decide +kernel) ⟨Nat.le_of_ble_eq_true rfl, Nat.le_of_ble_eq_true rfl⟩) ⟨hpre.1, (va_recv hK hP (ci := 5) (q0 := 0) rfl rfl), hpre.2⟩ rfl rfl hl.1 rfl (lv_room (Nat.le_of_ble_eq_true rfl)) d_m_licence_7 ⟨Nat.le_of_ble_eq_true rfl, Nat.le_of_ble_eq_true rfl⟩) (fun r2 locs hw hS => ?_)
  rcases hw with ⟨rfl, h3⟩ | ⟨rfl, h3⟩
  · refine lv_if_ne (tgt := 15) hx hb d_m_licence_10 (by decide) (fun _ => ?_) (fun c9 => absurd c9 (by decide))
    refine lv_iload_n hx hb d_m_licence_15 rfl (lv_at hl 2 rfl) ?_
    refine lv_iconst (v := 0) hx hb d_m_licence_16 (by decide) ?_
    refine lv_iconst (v := 1) hx hb d_m_licence_17 (by decide) ?_
    refine rl_callr hS (va_runS (As := [.int jk, .int 0, .int 1]) (rest := []) ⟨hx, hb, hml, hown, hG⟩ (k_m_in l D a kI kZ jk 0 1 _) (cwS 3 hG (rl_gS wd_587 wd_588 wd_19 wd_589) rfl rfl rfl (by decide +kernel) ⟨Nat.le_of_ble_eq_true rfl, Nat.le_of_ble_eq_true rfl⟩) (rl_BR.pre rl_nw0 rl_P0 hK hN) rfl rfl hl.1 rfl (lv_room (Nat.le_of_ble_eq_true rfl)) d_m_licence_18 ⟨Nat.le_of_ble_eq_true rfl, Nat.le_of_ble_eq_true rfl⟩) (fun r4 locs hw hS => ?_)
    try simp only [rl_n0, rl_n1] at hw
    rcases hw with ⟨rfl, h5⟩ | ⟨rfl, h5⟩
    · refine lv_if_eq (tgt := 58) hx hb d_m_licence_21 (by decide) (fun c9 => absurd c9 (by decide)) (fun _ => ?_)
      refine lv_iload_n hx hb d_m_licence_24 rfl (lv_at hl 3 rfl) ?_
      refine lv_iconst (v := 0) hx hb d_m_licence_25 (by decide) ?_
      refine lv_sipush (v := 1000) hx hb d_m_licence_26 (by decide) ?_
      refine rl_callr hS (va_runS (As := [.int jn, .int 0, .int 1000]) (rest := []) ⟨hx, hb, hml, hown, hG⟩ (k_m_in l D a kI kZ jn 0 1000 _) (cwS 3 hG (rl_gS wd_587 wd_588 wd_19 wd_589) rfl rfl rfl (by decide +kernel) ⟨Nat.le_of_ble_eq_true rfl, Nat.le_of_ble_eq_true rfl⟩) (rl_BR.pre rl_nw0 rl_P0 hK hN) rfl rfl hl.1 rfl (lv_room (Nat.le_of_ble_eq_true rfl)) d_m_licence_29 ⟨Nat.le_of_ble_eq_true rfl, Nat.le_of_ble_eq_true rfl⟩) (fun r6 locs hw hS => ?_)
      try simp only [rl_n0, rl_n1000] at hw
      rcases hw with ⟨rfl, h7⟩ | ⟨rfl, h7⟩
      · refine lv_if_eq (tgt := 58) hx hb d_m_licence_32 (by decide) (fun c9 => absurd c9 (by decide)) (fun _ => ?_)
        refine lv_iload hx hb d_m_licence_35 (lv_at hl 4 rfl) ?_
        refine lv_iconst (v := 0) hx hb d_m_licence_37 (by decide) ?_
        refine lv_ldc (v := 1000000000) hx hb hown (hG _ wd_606) d_m_licence_38 ?_
        refine rl_callr hS (va_runS (As := [.int ju, .int 0, .int 1000000000]) (rest := []) ⟨hx, hb, hml, hown, hG⟩ (k_m_in l D a kI kZ ju 0 1000000000 _) (cwS 3 hG (rl_gS wd_587 wd_588 wd_19 wd_589) rfl rfl rfl (by decide +kernel) ⟨Nat.le_of_ble_eq_true rfl, Nat.le_of_ble_eq_true rfl⟩) (rl_BR.pre rl_nw0 rl_P0 hK hN) rfl rfl hl.1 rfl (lv_room (Nat.le_of_ble_eq_true rfl)) d_m_licence_40 ⟨Nat.le_of_ble_eq_true rfl, Nat.le_of_ble_eq_true rfl⟩) (fun r8 locs hw hS => ?_)
        try simp only [rl_n0, rl_n1000000000] at hw
        rcases hw with ⟨rfl, h9⟩ | ⟨rfl, h9⟩
        · refine lv_if_eq (tgt := 58) hx hb d_m_licence_43 (by decide) (fun c9 => absurd c9 (by decide)) (fun _ => ?_)
          refine lv_iload hx hb d_m_licence_46 (lv_at hl 5 rfl) ?_
          refine lv_iload hx hb d_m_licence_48 (lv_at hl 4 rfl) ?_
          refine lv_ldc (v := 1000000000) hx hb hown (hG _ wd_606) d_m_licence_50 ?_
          refine rl_callr hS (va_runS (As := [.int jv, .int ju, .int 1000000000]) (rest := []) ⟨hx, hb, hml, hown, hG⟩ (k_m_in l D a kI kZ jv ju 1000000000 _) (cwS 3 hG (rl_gS wd_587 wd_588 wd_19 wd_589) rfl rfl rfl (by decide +kernel) ⟨Nat.le_of_ble_eq_true rfl, Nat.le_of_ble_eq_true rfl⟩) (rl_BR.pre rl_nw0 rl_P0 hK hN) rfl rfl hl.1 rfl (lv_room (Nat.le_of_ble_eq_true rfl)) d_m_licence_52 ⟨Nat.le_of_ble_eq_true rfl, Nat.le_of_ble_eq_true rfl⟩) (fun r10 locs hw hS => ?_)
          try simp only [rl_n1000000000] at hw
          rcases hw with ⟨rfl, h11⟩ | ⟨rfl, h11⟩
          · refine lv_if_ne (tgt := 61) hx hb d_m_licence_55 (by decide) (fun _ => ?_) (fun c9 => absurd c9 (by decide))
            refine lv_aload_n hx hb d_m_licence_61 rfl (lv_at hl 0 rfl) ?_
            refine va_get (D := D) (ci := 5) (v := .int (F1 27 4)) (C := "RightsLimitModel") (T := fT_m) (N := 33) hx hb hG fi_m hown hK hP 0 rfl rfl 14 (by decide) (hG _ wd_497) (fun _ h9 => h9) rfl d_m_licence_62 ?_
            refine lv_bipush (v := 50) hx hb d_m_licence_65 (by decide) ?_
            refine lv_icmp_ne (tgt := 73) hx hb d_m_licence_67 (by decide) (fun c12 => ?_) (fun c12 => ?_)
            · have ic12 := rl_ine c12
              simp only [rl_n50] at ic12
              refine lv_aload_n hx hb d_m_licence_73 rfl (lv_at hl 0 rfl) ?_
              refine va_get (D := D) (ci := 5) (v := .ref (a 11)) (C := "RightsLimitModel") (T := fT_m) (N := 33) hx hb hG fi_m hown hK hP 0 rfl rfl 15 (by decide) (hG _ wd_498) (fun _ h9 => h9) rfl d_m_licence_74 ?_
              refine lv_aload_n hx hb d_m_licence_77 rfl (lv_at hl 0 rfl) ?_
              refine va_get (D := D) (ci := 5) (v := .int (F1 27 4)) (C := "RightsLimitModel") (T := fT_m) (N := 33) hx hb hG fi_m hown hK hP 0 rfl rfl 14 (by decide) (hG _ wd_497) (fun _ h9 => h9) rfl d_m_licence_78 ?_
              refine lv_iload_n hx hb d_m_licence_81 rfl (lv_at hl 1 rfl) ?_
              refine va_iast hx hb hK hP hD hS 11 0 rfl rfl (rl_in (n := 50) (by omega) (by omega)) d_m_licence_82 (fun H locs hP hD hS => ?_)
              obtain ⟨F13, eF13⟩ : ∃ G, G = rl_st F1 10 ((F1 27 4).toNatClampNeg) jt := ⟨_, rfl⟩
              have hP : va_P D rl_cl (rm_w a kI kZ F13) H := by rw [eF13]; exact hP
              have hD : va_D A (rm_w a kI kZ F13) := by rw [eF13]; exact hD
              obtain ⟨tF13, hRF13⟩ := rm_keep eF13 (by decide) (by decide) (by decide) hRF1
              refine lv_aload_n hx hb d_m_licence_83 rfl (lv_at hl 0 rfl) ?_
              refine va_get (D := D) (ci := 5) (v := .ref (a 12)) (C := "RightsLimitModel") (T := fT_m) (N := 33) hx hb hG fi_m hown hK hP 0 rfl rfl 16 (by decide) (hG _ wd_499) (fun _ h9 => h9) rfl d_m_licence_84 ?_
              refine lv_aload_n hx hb d_m_licence_87 rfl (lv_at hl 0 rfl) ?_
              refine va_get (D := D) (ci := 5) (v := .int (F13 27 4)) (C := "RightsLimitModel") (T := fT_m) (N := 33) hx hb hG fi_m hown hK hP 0 rfl rfl 14 (by decide) (hG _ wd_497) (fun _ h9 => h9) rfl d_m_licence_88 ?_
              refine lv_iload_n hx hb d_m_licence_91 rfl (lv_at hl 2 rfl) ?_
              refine va_iast hx hb hK hP hD hS 12 0 rfl rfl (rl_in (n := 50) (by omega) (by omega)) d_m_licence_92 (fun H locs hP hD hS => ?_)
              obtain ⟨F14, eF14⟩ : ∃ G, G = rl_st F13 11 ((F13 27 4).toNatClampNeg) jk := ⟨_, rfl⟩
              have hP : va_P D rl_cl (rm_w a kI kZ F14) H := by rw [eF14]; exact hP
              have hD : va_D A (rm_w a kI kZ F14) := by rw [eF14]; exact hD
              obtain ⟨tF14, hRF14⟩ := rm_keep eF14 (by decide) (by decide) (by decide) hRF13
              refine lv_aload_n hx hb d_m_licence_93 rfl (lv_at hl 0 rfl) ?_
              refine va_get (D := D) (ci := 5) (v := .ref (a 13)) (C := "RightsLimitModel") (T := fT_m) (N := 33) hx hb hG fi_m hown hK hP 0 rfl rfl 17 (by decide) (hG _ wd_500) (fun _ h9 => h9) rfl d_m_licence_94 ?_
              refine lv_aload_n hx hb d_m_licence_97 rfl (lv_at hl 0 rfl) ?_
              refine va_get (D := D) (ci := 5) (v := .int (F14 27 4)) (C := "RightsLimitModel") (T := fT_m) (N := 33) hx hb hG fi_m hown hK hP 0 rfl rfl 14 (by decide) (hG _ wd_497) (fun _ h9 => h9) rfl d_m_licence_98 ?_
              refine lv_iload_n hx hb d_m_licence_101 rfl (lv_at hl 3 rfl) ?_
              refine va_iast hx hb hK hP hD hS 13 0 rfl rfl (rl_in (n := 50) (by omega) (by omega)) d_m_licence_102 (fun H locs hP hD hS => ?_)
              obtain ⟨F15, eF15⟩ : ∃ G, G = rl_st F14 12 ((F14 27 4).toNatClampNeg) jn := ⟨_, rfl⟩
              have hP : va_P D rl_cl (rm_w a kI kZ F15) H := by rw [eF15]; exact hP
              have hD : va_D A (rm_w a kI kZ F15) := by rw [eF15]; exact hD
              obtain ⟨tF15, hRF15⟩ := rm_keep eF15 (by decide) (by decide) (by decide) hRF14
              refine lv_aload_n hx hb d_m_licence_103 rfl (lv_at hl 0 rfl) ?_
              refine va_get (D := D) (ci := 5) (v := .ref (a 14)) (C := "RightsLimitModel") (T := fT_m) (N := 33) hx hb hG fi_m hown hK hP 0 rfl rfl 18 (by decide) (hG _ wd_501) (fun _ h9 => h9) rfl d_m_licence_104 ?_
              refine lv_aload_n hx hb d_m_licence_107 rfl (lv_at hl 0 rfl) ?_
              refine va_get (D := D) (ci := 5) (v := .int (F15 27 4)) (C := "RightsLimitModel") (T := fT_m) (N := 33) hx hb hG fi_m hown hK hP 0 rfl rfl 14 (by decide) (hG _ wd_497) (fun _ h9 => h9) rfl d_m_licence_108 ?_
              refine lv_iload hx hb d_m_licence_111 (lv_at hl 4 rfl) ?_
              refine va_iast hx hb hK hP hD hS 14 0 rfl rfl (rl_in (n := 50) (by omega) (by omega)) d_m_licence_113 (fun H locs hP hD hS => ?_)
              obtain ⟨F16, eF16⟩ : ∃ G, G = rl_st F15 13 ((F15 27 4).toNatClampNeg) ju := ⟨_, rfl⟩
              have hP : va_P D rl_cl (rm_w a kI kZ F16) H := by rw [eF16]; exact hP
              have hD : va_D A (rm_w a kI kZ F16) := by rw [eF16]; exact hD
              obtain ⟨tF16, hRF16⟩ := rm_keep eF16 (by decide) (by decide) (by decide) hRF15
              refine lv_aload_n hx hb d_m_licence_114 rfl (lv_at hl 0 rfl) ?_
              refine va_get (D := D) (ci := 5) (v := .ref (a 15)) (C := "RightsLimitModel") (T := fT_m) (N := 33) hx hb hG fi_m hown hK hP 0 rfl rfl 19 (by decide) (hG _ wd_502) (fun _ h9 => h9) rfl d_m_licence_115 ?_
              refine lv_aload_n hx hb d_m_licence_118 rfl (lv_at hl 0 rfl) ?_
              refine va_get (D := D) (ci := 5) (v := .int (F16 27 4)) (C := "RightsLimitModel") (T := fT_m) (N := 33) hx hb hG fi_m hown hK hP 0 rfl rfl 14 (by decide) (hG _ wd_497) (fun _ h9 => h9) rfl d_m_licence_119 ?_
              refine lv_iload hx hb d_m_licence_122 (lv_at hl 5 rfl) ?_
              refine va_iast hx hb hK hP hD hS 15 0 rfl rfl (rl_in (n := 50) (by omega) (by omega)) d_m_licence_124 (fun H locs hP hD hS => ?_)
              obtain ⟨F17, eF17⟩ : ∃ G, G = rl_st F16 14 ((F16 27 4).toNatClampNeg) jv := ⟨_, rfl⟩
              have hP : va_P D rl_cl (rm_w a kI kZ F17) H := by rw [eF17]; exact hP
              have hD : va_D A (rm_w a kI kZ F17) := by rw [eF17]; exact hD
              obtain ⟨tF17, hRF17⟩ := rm_keep eF17 (by decide) (by decide) (by decide) hRF16
              refine lv_aload_n hx hb d_m_licence_125 rfl (lv_at hl 0 rfl) ?_
              refine lv_dup hx hb d_m_licence_126 rfl ?_
              refine va_get (D := D) (ci := 5) (v := .int (F17 27 4)) (C := "RightsLimitModel") (T := fT_m) (N := 33) hx hb hG fi_m hown hK hP 0 rfl rfl 14 (by decide) (hG _ wd_497) (fun _ h9 => h9) rfl d_m_licence_127 ?_
              refine lv_iconst (v := 1) hx hb d_m_licence_130 (by decide) ?_
              refine lv_iadd hx hb d_m_licence_131 ?_
              refine lv_topi (fun v18 ev18 => ?_)
              have iv18 : v18.toInt = (F17 27 4).toInt + 1 := by rw [ev18]; exact rl_addk (by decide) (by omega) (by omega)
              refine va_put (D := D) (ci := 5) (v := .int v18) (ty := .int) (C := "RightsLimitModel") (T := fT_m) (N := 33) hx hb hG fi_m fy_m fo_m fn_m hown hK hP hD hS 0 rfl rfl 14 (by decide) (hG _ wd_497) (fun _ h9 => h9) rfl (by decide +kernel) rfl rfl (Nat.le_of_ble_eq_true rfl) d_m_licence_132 (fun H locs hP hD hS => ?_)
              obtain ⟨F19, eF19⟩ : ∃ G, G = rl_st F17 27 4 v18 := ⟨_, rfl⟩
              have hP : va_P D rl_cl (rm_w a kI kZ F19) H := by rw [eF19]; exact hP
              have hD : va_D A (rm_w a kI kZ F19) := by rw [eF19]; exact hD
              obtain ⟨tF19, hRF19⟩ := rm_put4 eF19 hRF17
              refine lv_aload_n hx hb d_m_licence_135 rfl (lv_at hl 0 rfl) ?_
              refine va_get (D := D) (ci := 5) (v := .int (F19 27 4)) (C := "RightsLimitModel") (T := fT_m) (N := 33) hx hb hG fi_m hown hK hP 0 rfl rfl 14 (by decide) (hG _ wd_497) (fun _ h9 => h9) rfl d_m_licence_136 ?_
              refine lv_iconst (v := 1) hx hb d_m_licence_139 (by decide) ?_
              refine lv_isub hx hb d_m_licence_140 ?_
              refine lv_topi (fun v20 ev20 => ?_)
              have iv20 : v20.toInt = (F19 27 4).toInt - 1 := by rw [ev20]; exact rl_subk (by decide) (by omega) (by omega)
              exact W.iret (v := v20) hx hb hr (fun t ht hW => ⟨⟨v20, F19, rfl, ⟨hRF19, (show ((0 ≤ jt.toInt ∧ jt.toInt < (F 27 2).toInt) ∧ ((0 ≤ jk.toInt ∧ jk.toInt ≤ 1) ∧ (0 ≤ jn.toInt ∧ jn.toInt ≤ 1000) ∧ (0 ≤ ju.toInt ∧ ju.toInt ≤ 1000000000) ∧ (0 ≤ jv.toInt ∧ jv.toInt ≤ 1000000000) ∧ ju.toInt ≤ jv.toInt) ∧ (F 27 4).toInt < 50 ∧ v20.toInt = (F 27 4).toInt ∧ (F19 27 4).toInt = (F 27 4).toInt + 1 ∧ (F19 27 2).toInt = (F 27 2).toInt ∧ (F19 27 3).toInt = (F 27 3).toInt ∧ (F19 27 5).toInt = (F 27 5).toInt) ∨ ((((0 ≤ jt.toInt ∧ jt.toInt < (F 27 2).toInt) ∧ ((0 ≤ jk.toInt ∧ jk.toInt ≤ 1) ∧ (0 ≤ jn.toInt ∧ jn.toInt ≤ 1000) ∧ (0 ≤ ju.toInt ∧ ju.toInt ≤ 1000000000) ∧ (0 ≤ jv.toInt ∧ jv.toInt ≤ 1000000000) ∧ ju.toInt ≤ jv.toInt) ∧ 50 ≤ (F 27 4).toInt ∧ v20.toInt = -4) ∨ ((0 ≤ jt.toInt ∧ jt.toInt < (F 27 2).toInt) ∧ ¬ ((0 ≤ jk.toInt ∧ jk.toInt ≤ 1) ∧ (0 ≤ jn.toInt ∧ jn.toInt ≤ 1000) ∧ (0 ≤ ju.toInt ∧ ju.toInt ≤ 1000000000) ∧ (0 ≤ jv.toInt ∧ jv.toInt ≤ 1000000000) ∧ ju.toInt ≤ jv.toInt) ∧ v20.toInt = -2) ∨ (¬ (0 ≤ jt.toInt ∧ jt.toInt < (F 27 2).toInt) ∧ v20.toInt = -1)) ∧ (F19 27 2).toInt = (F 27 2).toInt ∧ (F19 27 3).toInt = (F 27 3).toInt ∧ (F19 27 4).toInt = (F 27 4).toInt ∧ (F19 27 5).toInt = (F 27 5).toInt) by omega)⟩, ⟨by rw [ht]; exact hP, hD⟩⟩, hS.F ht⟩) hS.2.2 d_m_licence_141
            · have ic12 := rl_ieq c12
              simp only [rl_n50] at ic12
              refine lv_bipush (v := (-4)) hx hb d_m_licence_70 (by decide) ?_
              exact W.iret (v := (-4)) hx hb hr (fun t ht hW => ⟨⟨(-4), F1, rfl, ⟨hRF1, (show ((0 ≤ jt.toInt ∧ jt.toInt < (F 27 2).toInt) ∧ ((0 ≤ jk.toInt ∧ jk.toInt ≤ 1) ∧ (0 ≤ jn.toInt ∧ jn.toInt ≤ 1000) ∧ (0 ≤ ju.toInt ∧ ju.toInt ≤ 1000000000) ∧ (0 ≤ jv.toInt ∧ jv.toInt ≤ 1000000000) ∧ ju.toInt ≤ jv.toInt) ∧ (F 27 4).toInt < 50 ∧ ((-4) : Int32).toInt = (F 27 4).toInt ∧ (F1 27 4).toInt = (F 27 4).toInt + 1 ∧ (F1 27 2).toInt = (F 27 2).toInt ∧ (F1 27 3).toInt = (F 27 3).toInt ∧ (F1 27 5).toInt = (F 27 5).toInt) ∨ ((((0 ≤ jt.toInt ∧ jt.toInt < (F 27 2).toInt) ∧ ((0 ≤ jk.toInt ∧ jk.toInt ≤ 1) ∧ (0 ≤ jn.toInt ∧ jn.toInt ≤ 1000) ∧ (0 ≤ ju.toInt ∧ ju.toInt ≤ 1000000000) ∧ (0 ≤ jv.toInt ∧ jv.toInt ≤ 1000000000) ∧ ju.toInt ≤ jv.toInt) ∧ 50 ≤ (F 27 4).toInt ∧ ((-4) : Int32).toInt = -4) ∨ ((0 ≤ jt.toInt ∧ jt.toInt < (F 27 2).toInt) ∧ ¬ ((0 ≤ jk.toInt ∧ jk.toInt ≤ 1) ∧ (0 ≤ jn.toInt ∧ jn.toInt ≤ 1000) ∧ (0 ≤ ju.toInt ∧ ju.toInt ≤ 1000000000) ∧ (0 ≤ jv.toInt ∧ jv.toInt ≤ 1000000000) ∧ ju.toInt ≤ jv.toInt) ∧ ((-4) : Int32).toInt = -2) ∨ (¬ (0 ≤ jt.toInt ∧ jt.toInt < (F 27 2).toInt) ∧ ((-4) : Int32).toInt = -1)) ∧ (F1 27 2).toInt = (F 27 2).toInt ∧ (F1 27 3).toInt = (F 27 3).toInt ∧ (F1 27 4).toInt = (F 27 4).toInt ∧ (F1 27 5).toInt = (F 27 5).toInt) by have q9 := rl_nm4; omega)⟩, ⟨by rw [ht]; exact hP, hD⟩⟩, hS.F ht⟩) hS.2.2 d_m_licence_72
          · refine lv_if_ne (tgt := 61) hx hb d_m_licence_55 (by decide) (fun c9 => absurd c9 (by decide)) (fun _ => ?_)
            refine lv_bipush (v := (-2)) hx hb d_m_licence_58 (by decide) ?_
            exact W.iret (v := (-2)) hx hb hr (fun t ht hW => ⟨⟨(-2), F1, rfl, ⟨hRF1, (show ((0 ≤ jt.toInt ∧ jt.toInt < (F 27 2).toInt) ∧ ((0 ≤ jk.toInt ∧ jk.toInt ≤ 1) ∧ (0 ≤ jn.toInt ∧ jn.toInt ≤ 1000) ∧ (0 ≤ ju.toInt ∧ ju.toInt ≤ 1000000000) ∧ (0 ≤ jv.toInt ∧ jv.toInt ≤ 1000000000) ∧ ju.toInt ≤ jv.toInt) ∧ (F 27 4).toInt < 50 ∧ ((-2) : Int32).toInt = (F 27 4).toInt ∧ (F1 27 4).toInt = (F 27 4).toInt + 1 ∧ (F1 27 2).toInt = (F 27 2).toInt ∧ (F1 27 3).toInt = (F 27 3).toInt ∧ (F1 27 5).toInt = (F 27 5).toInt) ∨ ((((0 ≤ jt.toInt ∧ jt.toInt < (F 27 2).toInt) ∧ ((0 ≤ jk.toInt ∧ jk.toInt ≤ 1) ∧ (0 ≤ jn.toInt ∧ jn.toInt ≤ 1000) ∧ (0 ≤ ju.toInt ∧ ju.toInt ≤ 1000000000) ∧ (0 ≤ jv.toInt ∧ jv.toInt ≤ 1000000000) ∧ ju.toInt ≤ jv.toInt) ∧ 50 ≤ (F 27 4).toInt ∧ ((-2) : Int32).toInt = -4) ∨ ((0 ≤ jt.toInt ∧ jt.toInt < (F 27 2).toInt) ∧ ¬ ((0 ≤ jk.toInt ∧ jk.toInt ≤ 1) ∧ (0 ≤ jn.toInt ∧ jn.toInt ≤ 1000) ∧ (0 ≤ ju.toInt ∧ ju.toInt ≤ 1000000000) ∧ (0 ≤ jv.toInt ∧ jv.toInt ≤ 1000000000) ∧ ju.toInt ≤ jv.toInt) ∧ ((-2) : Int32).toInt = -2) ∨ (¬ (0 ≤ jt.toInt ∧ jt.toInt < (F 27 2).toInt) ∧ ((-2) : Int32).toInt = -1)) ∧ (F1 27 2).toInt = (F 27 2).toInt ∧ (F1 27 3).toInt = (F 27 3).toInt ∧ (F1 27 4).toInt = (F 27 4).toInt ∧ (F1 27 5).toInt = (F 27 5).toInt) by have q9 := rl_nm2; omega)⟩, ⟨by rw [ht]; exact hP, hD⟩⟩, hS.F ht⟩) hS.2.2 d_m_licence_60
        · refine lv_if_eq (tgt := 58) hx hb d_m_licence_43 (by decide) (fun _ => ?_) (fun c9 => absurd c9 (by decide))
          refine lv_bipush (v := (-2)) hx hb d_m_licence_58 (by decide) ?_
          exact W.iret (v := (-2)) hx hb hr (fun t ht hW => ⟨⟨(-2), F1, rfl, ⟨hRF1, (show ((0 ≤ jt.toInt ∧ jt.toInt < (F 27 2).toInt) ∧ ((0 ≤ jk.toInt ∧ jk.toInt ≤ 1) ∧ (0 ≤ jn.toInt ∧ jn.toInt ≤ 1000) ∧ (0 ≤ ju.toInt ∧ ju.toInt ≤ 1000000000) ∧ (0 ≤ jv.toInt ∧ jv.toInt ≤ 1000000000) ∧ ju.toInt ≤ jv.toInt) ∧ (F 27 4).toInt < 50 ∧ ((-2) : Int32).toInt = (F 27 4).toInt ∧ (F1 27 4).toInt = (F 27 4).toInt + 1 ∧ (F1 27 2).toInt = (F 27 2).toInt ∧ (F1 27 3).toInt = (F 27 3).toInt ∧ (F1 27 5).toInt = (F 27 5).toInt) ∨ ((((0 ≤ jt.toInt ∧ jt.toInt < (F 27 2).toInt) ∧ ((0 ≤ jk.toInt ∧ jk.toInt ≤ 1) ∧ (0 ≤ jn.toInt ∧ jn.toInt ≤ 1000) ∧ (0 ≤ ju.toInt ∧ ju.toInt ≤ 1000000000) ∧ (0 ≤ jv.toInt ∧ jv.toInt ≤ 1000000000) ∧ ju.toInt ≤ jv.toInt) ∧ 50 ≤ (F 27 4).toInt ∧ ((-2) : Int32).toInt = -4) ∨ ((0 ≤ jt.toInt ∧ jt.toInt < (F 27 2).toInt) ∧ ¬ ((0 ≤ jk.toInt ∧ jk.toInt ≤ 1) ∧ (0 ≤ jn.toInt ∧ jn.toInt ≤ 1000) ∧ (0 ≤ ju.toInt ∧ ju.toInt ≤ 1000000000) ∧ (0 ≤ jv.toInt ∧ jv.toInt ≤ 1000000000) ∧ ju.toInt ≤ jv.toInt) ∧ ((-2) : Int32).toInt = -2) ∨ (¬ (0 ≤ jt.toInt ∧ jt.toInt < (F 27 2).toInt) ∧ ((-2) : Int32).toInt = -1)) ∧ (F1 27 2).toInt = (F 27 2).toInt ∧ (F1 27 3).toInt = (F 27 3).toInt ∧ (F1 27 4).toInt = (F 27 4).toInt ∧ (F1 27 5).toInt = (F 27 5).toInt) by have q9 := rl_nm2; omega)⟩, ⟨by rw [ht]; exact hP, hD⟩⟩, hS.F ht⟩) hS.2.2 d_m_licence_60
      · refine lv_if_eq (tgt := 58) hx hb d_m_licence_32 (by decide) (fun _ => ?_) (fun c9 => absurd c9 (by decide))
        refine lv_bipush (v := (-2)) hx hb d_m_licence_58 (by decide) ?_
        exact W.iret (v := (-2)) hx hb hr (fun t ht hW => ⟨⟨(-2), F1, rfl, ⟨hRF1, (show ((0 ≤ jt.toInt ∧ jt.toInt < (F 27 2).toInt) ∧ ((0 ≤ jk.toInt ∧ jk.toInt ≤ 1) ∧ (0 ≤ jn.toInt ∧ jn.toInt ≤ 1000) ∧ (0 ≤ ju.toInt ∧ ju.toInt ≤ 1000000000) ∧ (0 ≤ jv.toInt ∧ jv.toInt ≤ 1000000000) ∧ ju.toInt ≤ jv.toInt) ∧ (F 27 4).toInt < 50 ∧ ((-2) : Int32).toInt = (F 27 4).toInt ∧ (F1 27 4).toInt = (F 27 4).toInt + 1 ∧ (F1 27 2).toInt = (F 27 2).toInt ∧ (F1 27 3).toInt = (F 27 3).toInt ∧ (F1 27 5).toInt = (F 27 5).toInt) ∨ ((((0 ≤ jt.toInt ∧ jt.toInt < (F 27 2).toInt) ∧ ((0 ≤ jk.toInt ∧ jk.toInt ≤ 1) ∧ (0 ≤ jn.toInt ∧ jn.toInt ≤ 1000) ∧ (0 ≤ ju.toInt ∧ ju.toInt ≤ 1000000000) ∧ (0 ≤ jv.toInt ∧ jv.toInt ≤ 1000000000) ∧ ju.toInt ≤ jv.toInt) ∧ 50 ≤ (F 27 4).toInt ∧ ((-2) : Int32).toInt = -4) ∨ ((0 ≤ jt.toInt ∧ jt.toInt < (F 27 2).toInt) ∧ ¬ ((0 ≤ jk.toInt ∧ jk.toInt ≤ 1) ∧ (0 ≤ jn.toInt ∧ jn.toInt ≤ 1000) ∧ (0 ≤ ju.toInt ∧ ju.toInt ≤ 1000000000) ∧ (0 ≤ jv.toInt ∧ jv.toInt ≤ 1000000000) ∧ ju.toInt ≤ jv.toInt) ∧ ((-2) : Int32).toInt = -2) ∨ (¬ (0 ≤ jt.toInt ∧ jt.toInt < (F 27 2).toInt) ∧ ((-2) : Int32).toInt = -1)) ∧ (F1 27 2).toInt = (F 27 2).toInt ∧ (F1 27 3).toInt = (F 27 3).toInt ∧ (F1 27 4).toInt = (F 27 4).toInt ∧ (F1 27 5).toInt = (F 27 5).toInt) by have q9 := rl_nm2; omega)⟩, ⟨by rw [ht]; exact hP, hD⟩⟩, hS.F ht⟩) hS.2.2 d_m_licence_60
    · refine lv_if_eq (tgt := 58) hx hb d_m_licence_21 (by decide) (fun _ => ?_) (fun c9 => absurd c9 (by decide))
      refine lv_bipush (v := (-2)) hx hb d_m_licence_58 (by decide) ?_
      exact W.iret (v := (-2)) hx hb hr (fun t ht hW => ⟨⟨(-2), F1, rfl, ⟨hRF1, (show ((0 ≤ jt.toInt ∧ jt.toInt < (F 27 2).toInt) ∧ ((0 ≤ jk.toInt ∧ jk.toInt ≤ 1) ∧ (0 ≤ jn.toInt ∧ jn.toInt ≤ 1000) ∧ (0 ≤ ju.toInt ∧ ju.toInt ≤ 1000000000) ∧ (0 ≤ jv.toInt ∧ jv.toInt ≤ 1000000000) ∧ ju.toInt ≤ jv.toInt) ∧ (F 27 4).toInt < 50 ∧ ((-2) : Int32).toInt = (F 27 4).toInt ∧ (F1 27 4).toInt = (F 27 4).toInt + 1 ∧ (F1 27 2).toInt = (F 27 2).toInt ∧ (F1 27 3).toInt = (F 27 3).toInt ∧ (F1 27 5).toInt = (F 27 5).toInt) ∨ ((((0 ≤ jt.toInt ∧ jt.toInt < (F 27 2).toInt) ∧ ((0 ≤ jk.toInt ∧ jk.toInt ≤ 1) ∧ (0 ≤ jn.toInt ∧ jn.toInt ≤ 1000) ∧ (0 ≤ ju.toInt ∧ ju.toInt ≤ 1000000000) ∧ (0 ≤ jv.toInt ∧ jv.toInt ≤ 1000000000) ∧ ju.toInt ≤ jv.toInt) ∧ 50 ≤ (F 27 4).toInt ∧ ((-2) : Int32).toInt = -4) ∨ ((0 ≤ jt.toInt ∧ jt.toInt < (F 27 2).toInt) ∧ ¬ ((0 ≤ jk.toInt ∧ jk.toInt ≤ 1) ∧ (0 ≤ jn.toInt ∧ jn.toInt ≤ 1000) ∧ (0 ≤ ju.toInt ∧ ju.toInt ≤ 1000000000) ∧ (0 ≤ jv.toInt ∧ jv.toInt ≤ 1000000000) ∧ ju.toInt ≤ jv.toInt) ∧ ((-2) : Int32).toInt = -2) ∨ (¬ (0 ≤ jt.toInt ∧ jt.toInt < (F 27 2).toInt) ∧ ((-2) : Int32).toInt = -1)) ∧ (F1 27 2).toInt = (F 27 2).toInt ∧ (F1 27 3).toInt = (F 27 3).toInt ∧ (F1 27 4).toInt = (F 27 4).toInt ∧ (F1 27 5).toInt = (F 27 5).toInt) by have q9 := rl_nm2; omega)⟩, ⟨by rw [ht]; exact hP, hD⟩⟩, hS.F ht⟩) hS.2.2 d_m_licence_60
  · refine lv_if_ne (tgt := 15) hx hb d_m_licence_10 (by decide) (fun c9 => absurd c9 (by decide)) (fun _ => ?_)
    refine lv_iconst (v := (-1)) hx hb d_m_licence_13 (by decide) ?_
    exact W.iret (v := (-1)) hx hb hr (fun t ht hW => ⟨⟨(-1), F1, rfl, ⟨hRF1, (show ((0 ≤ jt.toInt ∧ jt.toInt < (F 27 2).toInt) ∧ ((0 ≤ jk.toInt ∧ jk.toInt ≤ 1) ∧ (0 ≤ jn.toInt ∧ jn.toInt ≤ 1000) ∧ (0 ≤ ju.toInt ∧ ju.toInt ≤ 1000000000) ∧ (0 ≤ jv.toInt ∧ jv.toInt ≤ 1000000000) ∧ ju.toInt ≤ jv.toInt) ∧ (F 27 4).toInt < 50 ∧ ((-1) : Int32).toInt = (F 27 4).toInt ∧ (F1 27 4).toInt = (F 27 4).toInt + 1 ∧ (F1 27 2).toInt = (F 27 2).toInt ∧ (F1 27 3).toInt = (F 27 3).toInt ∧ (F1 27 5).toInt = (F 27 5).toInt) ∨ ((((0 ≤ jt.toInt ∧ jt.toInt < (F 27 2).toInt) ∧ ((0 ≤ jk.toInt ∧ jk.toInt ≤ 1) ∧ (0 ≤ jn.toInt ∧ jn.toInt ≤ 1000) ∧ (0 ≤ ju.toInt ∧ ju.toInt ≤ 1000000000) ∧ (0 ≤ jv.toInt ∧ jv.toInt ≤ 1000000000) ∧ ju.toInt ≤ jv.toInt) ∧ 50 ≤ (F 27 4).toInt ∧ ((-1) : Int32).toInt = -4) ∨ ((0 ≤ jt.toInt ∧ jt.toInt < (F 27 2).toInt) ∧ ¬ ((0 ≤ jk.toInt ∧ jk.toInt ≤ 1) ∧ (0 ≤ jn.toInt ∧ jn.toInt ≤ 1000) ∧ (0 ≤ ju.toInt ∧ ju.toInt ≤ 1000000000) ∧ (0 ≤ jv.toInt ∧ jv.toInt ≤ 1000000000) ∧ ju.toInt ≤ jv.toInt) ∧ ((-1) : Int32).toInt = -2) ∨ (¬ (0 ≤ jt.toInt ∧ jt.toInt < (F 27 2).toInt) ∧ ((-1) : Int32).toInt = -1)) ∧ (F1 27 2).toInt = (F 27 2).toInt ∧ (F1 27 3).toInt = (F 27 3).toInt ∧ (F1 27 4).toInt = (F 27 4).toInt ∧ (F1 27 5).toInt = (F 27 5).toInt) by have q9 := rl_nm1; omega)⟩, ⟨by rw [ht]; exact hP, hD⟩⟩, hS.F ht⟩) hS.2.2 d_m_licence_14
set_option maxHeartbeats 4000000 in
set_option maxRecDepth 100000 in
theorem k_m_fee (l : Launch) (D : va_G) (a : Nat → Nat) (kI kZ : ClassId) (F : Nat → Nat → Int32) (jp jn : Int32) (hI : rm_I F) (sz : Nat) : rl_Ci (S := Nat → Nat → Int32) l ⟨"RightsLimitModel", "fee", "(II)I"⟩ (Cond.code ⟨"RightsLimitModel", "fee", "(II)I"⟩ prog_7_method_10_code 3 (some .int) :: rl_G) { frames := 1, cells := 0, slots := 0, locals := 22 } D rl_cl (rl_tys kI kZ) [] [.ref (a 0), .int jp, .int jn] (rm_w a kI kZ F) sz (fun (r : Int32) (F' : Nat → Nat → Int32) => rm_R F' ∧ (((((0 ≤ jp.toInt ∧ jp.toInt ≤ 99) ∧ (0 ≤ jn.toInt ∧ jn.toInt ≤ 10000)) ∧ r.toInt = 1) ∨ (¬ ((0 ≤ jp.toInt ∧ jp.toInt ≤ 99) ∧ (0 ≤ jn.toInt ∧ jn.toInt ≤ 10000)) ∧ r.toInt = -2)) ∧ (F' 27 2).toInt = (F 27 2).toInt ∧ (F' 27 3).toInt = (F 27 3).toInt ∧ (F' 27 4).toInt = (F 27 4).toInt ∧ (F' 27 5).toInt = (F 27 5).toInt)) (fun F' => rm_w a kI kZ F') 0 0 := by
  refine rl_meti (cc := prog_7_method_10_code) (maxL := 3) (ret := (some .int)) (by decide) rfl (Nat.le_of_ble_eq_true rfl) ?_
  intro p e s m below meth c A ls hx hb hr hml hown hts hlocks hnm hP hK hD hS hA hN hl
  have hown : s.vm.findClass "RightsLimitModel" = some m.cls := hown
  have hG : ∀ x ∈ rl_G, x.before _ s = true := fun x h => hts x (List.mem_cons_of_mem _ h)
  have hl : lv_has ls 3 [(0, .ref (a 0)), (1, .int jp), (2, .int jn)] := hl
  obtain ⟨hcnt, hR⟩ := id hI
  refine lv_aload_n hx hb d_m_fee_0 rfl (lv_at hl 0 rfl) ?_
  refine lv_iconst (v := 0) hx hb d_m_fee_1 (by decide) ?_
  refine va_put (D := D) (ci := 5) (v := .int 0) (ty := .int) (C := "RightsLimitModel") (T := fT_m) (N := 33) hx hb hG fi_m fy_m fo_m fn_m hown hK hP hD hS 0 rfl rfl 0 (by decide) (hG _ wd_483) (fun _ h9 => h9) rfl (by decide +kernel) rfl rfl (Nat.le_of_ble_eq_true rfl) d_m_fee_2 (fun H locs hP hD hS => ?_)
  obtain ⟨F1, eF1⟩ : ∃ G, G = rl_st F 27 0 0 := ⟨_, rfl⟩
  have hP : va_P D rl_cl (rm_w a kI kZ F1) H := by rw [eF1]; exact hP
  have hD : va_D A (rm_w a kI kZ F1) := by rw [eF1]; exact hD
  obtain ⟨tF1, hRF1⟩ := rm_putS eF1 (by decide) (by decide) (by decide) (by decide) hR
  refine lv_iload_n hx hb d_m_fee_5 rfl (lv_at hl 1 rfl) ?_
  refine lv_iconst (v := 0) hx hb d_m_fee_6 (by decide) ?_
  refine lv_bipush (v := 99) hx hb d_m_fee_7 (by decide) ?_
  refine rl_callr hS (va_runS (As := [.int jp, .int 0, .int 99]) (rest := []) ⟨hx, hb, hml, hown, hG⟩ (k_m_in l D a kI kZ jp 0 99 _) (cwS 3 hG (rl_gS wd_587 wd_588 wd_19 wd_589) rfl rfl rfl (by decide +kernel) ⟨Nat.le_of_ble_eq_true rfl, Nat.le_of_ble_eq_true rfl⟩) (rl_BR.pre rl_nw0 rl_P0 hK hN) rfl rfl hl.1 rfl (lv_room (Nat.le_of_ble_eq_true rfl)) d_m_fee_9 ⟨Nat.le_of_ble_eq_true rfl, Nat.le_of_ble_eq_true rfl⟩) (fun r2 locs hw hS => ?_)
  try simp only [rl_n0, rl_n99] at hw
  rcases hw with ⟨rfl, h3⟩ | ⟨rfl, h3⟩
  · refine lv_if_eq (tgt := 26) hx hb d_m_fee_12 (by decide) (fun c9 => absurd c9 (by decide)) (fun _ => ?_)
    refine lv_iload_n hx hb d_m_fee_15 rfl (lv_at hl 2 rfl) ?_
    refine lv_iconst (v := 0) hx hb d_m_fee_16 (by decide) ?_
    refine lv_sipush (v := 10000) hx hb d_m_fee_17 (by decide) ?_
    refine rl_callr hS (va_runS (As := [.int jn, .int 0, .int 10000]) (rest := []) ⟨hx, hb, hml, hown, hG⟩ (k_m_in l D a kI kZ jn 0 10000 _) (cwS 3 hG (rl_gS wd_587 wd_588 wd_19 wd_589) rfl rfl rfl (by decide +kernel) ⟨Nat.le_of_ble_eq_true rfl, Nat.le_of_ble_eq_true rfl⟩) (rl_BR.pre rl_nw0 rl_P0 hK hN) rfl rfl hl.1 rfl (lv_room (Nat.le_of_ble_eq_true rfl)) d_m_fee_20 ⟨Nat.le_of_ble_eq_true rfl, Nat.le_of_ble_eq_true rfl⟩) (fun r4 locs hw hS => ?_)
    try simp only [rl_n0, rl_n10000] at hw
    rcases hw with ⟨rfl, h5⟩ | ⟨rfl, h5⟩
    · refine lv_if_ne (tgt := 29) hx hb d_m_fee_23 (by decide) (fun _ => ?_) (fun c9 => absurd c9 (by decide))
      refine lv_aload_n hx hb d_m_fee_29 rfl (lv_at hl 0 rfl) ?_
      refine va_get (D := D) (ci := 5) (v := .ref (a 5)) (C := "RightsLimitModel") (T := fT_m) (N := 33) hx hb hG fi_m hown hK hP 0 rfl rfl 7 (by decide) (hG _ wd_490) (fun _ h9 => h9) rfl d_m_fee_30 ?_
      refine lv_iload_n hx hb d_m_fee_33 rfl (lv_at hl 1 rfl) ?_
      refine lv_iload_n hx hb d_m_fee_34 rfl (lv_at hl 2 rfl) ?_
      refine va_iast hx hb hK hP hD hS 5 0 rfl rfl (rl_in (n := 100) (by omega) (by omega)) d_m_fee_35 (fun H locs hP hD hS => ?_)
      obtain ⟨F6, eF6⟩ : ∃ G, G = rl_st F1 4 jp.toNatClampNeg jn := ⟨_, rfl⟩
      have hP : va_P D rl_cl (rm_w a kI kZ F6) H := by rw [eF6]; exact hP
      have hD : va_D A (rm_w a kI kZ F6) := by rw [eF6]; exact hD
      obtain ⟨tF6, hRF6⟩ := rm_keep eF6 (by decide) (by decide) (by decide) hRF1
      refine lv_iconst (v := 1) hx hb d_m_fee_36 (by decide) ?_
      exact W.iret (v := 1) hx hb hr (fun t ht hW => ⟨⟨1, F6, rfl, ⟨hRF6, (show ((((0 ≤ jp.toInt ∧ jp.toInt ≤ 99) ∧ (0 ≤ jn.toInt ∧ jn.toInt ≤ 10000)) ∧ (1 : Int32).toInt = 1) ∨ (¬ ((0 ≤ jp.toInt ∧ jp.toInt ≤ 99) ∧ (0 ≤ jn.toInt ∧ jn.toInt ≤ 10000)) ∧ (1 : Int32).toInt = -2)) ∧ (F6 27 2).toInt = (F 27 2).toInt ∧ (F6 27 3).toInt = (F 27 3).toInt ∧ (F6 27 4).toInt = (F 27 4).toInt ∧ (F6 27 5).toInt = (F 27 5).toInt by have q9 := rl_n1; omega)⟩, ⟨by rw [ht]; exact hP, hD⟩⟩, hS.F ht⟩) hS.2.2 d_m_fee_37
    · refine lv_if_ne (tgt := 29) hx hb d_m_fee_23 (by decide) (fun c9 => absurd c9 (by decide)) (fun _ => ?_)
      refine lv_bipush (v := (-2)) hx hb d_m_fee_26 (by decide) ?_
      exact W.iret (v := (-2)) hx hb hr (fun t ht hW => ⟨⟨(-2), F1, rfl, ⟨hRF1, (show ((((0 ≤ jp.toInt ∧ jp.toInt ≤ 99) ∧ (0 ≤ jn.toInt ∧ jn.toInt ≤ 10000)) ∧ ((-2) : Int32).toInt = 1) ∨ (¬ ((0 ≤ jp.toInt ∧ jp.toInt ≤ 99) ∧ (0 ≤ jn.toInt ∧ jn.toInt ≤ 10000)) ∧ ((-2) : Int32).toInt = -2)) ∧ (F1 27 2).toInt = (F 27 2).toInt ∧ (F1 27 3).toInt = (F 27 3).toInt ∧ (F1 27 4).toInt = (F 27 4).toInt ∧ (F1 27 5).toInt = (F 27 5).toInt by have q9 := rl_nm2; omega)⟩, ⟨by rw [ht]; exact hP, hD⟩⟩, hS.F ht⟩) hS.2.2 d_m_fee_28
  · refine lv_if_eq (tgt := 26) hx hb d_m_fee_12 (by decide) (fun _ => ?_) (fun c9 => absurd c9 (by decide))
    refine lv_bipush (v := (-2)) hx hb d_m_fee_26 (by decide) ?_
    exact W.iret (v := (-2)) hx hb hr (fun t ht hW => ⟨⟨(-2), F1, rfl, ⟨hRF1, (show ((((0 ≤ jp.toInt ∧ jp.toInt ≤ 99) ∧ (0 ≤ jn.toInt ∧ jn.toInt ≤ 10000)) ∧ ((-2) : Int32).toInt = 1) ∨ (¬ ((0 ≤ jp.toInt ∧ jp.toInt ≤ 99) ∧ (0 ≤ jn.toInt ∧ jn.toInt ≤ 10000)) ∧ ((-2) : Int32).toInt = -2)) ∧ (F1 27 2).toInt = (F 27 2).toInt ∧ (F1 27 3).toInt = (F 27 3).toInt ∧ (F1 27 4).toInt = (F 27 4).toInt ∧ (F1 27 5).toInt = (F 27 5).toInt by have q9 := rl_nm2; omega)⟩, ⟨by rw [ht]; exact hP, hD⟩⟩, hS.F ht⟩) hS.2.2 d_m_fee_28
set_option maxHeartbeats 4000000 in
set_option maxRecDepth 100000 in
theorem k_m_ask (l : Launch) (D : va_G) (a : Nat → Nat) (kI kZ : ClassId) (F : Nat → Nat → Int32) (jn jt jk jg ju : Int32) (hI : rm_I F) (sz : Nat) : rl_Ci (S := Nat → Nat → Int32) l ⟨"RightsLimitModel", "ask", "(IIIII)I"⟩ (Cond.code ⟨"RightsLimitModel", "ask", "(IIIII)I"⟩ prog_7_method_15_code 8 (some .int) :: rl_G) { frames := 3, cells := 0, slots := 0, locals := 73 } D rl_cl (rl_tys kI kZ) [] [.ref (a 0), .int jn, .int jt, .int jk, .int jg, .int ju] (rm_w a kI kZ F) sz (fun (r : Int32) (F' : Nat → Nat → Int32) => rm_R F' ∧ ((F' 27 2).toInt = (F 27 2).toInt ∧ (F' 27 3).toInt = (F 27 3).toInt ∧ (F' 27 4).toInt = (F 27 4).toInt ∧ 0 ≤ (F' 27 5).toInt ∧ (F' 27 5).toInt ≤ 300)) (fun F' => rm_w a kI kZ F') 0 0 := by
  refine rl_meti (cc := prog_7_method_15_code) (maxL := 8) (ret := (some .int)) (by decide) rfl (Nat.le_of_ble_eq_true rfl) ?_
  intro p e s m below meth c A ls hx hb hr hml hown hts hlocks hnm hP hK hD hS hA hN hl
  have hown : s.vm.findClass "RightsLimitModel" = some m.cls := hown
  have hG : ∀ x ∈ rl_G, x.before _ s = true := fun x h => hts x (List.mem_cons_of_mem _ h)
  have hl : lv_has ls 8 [(0, .ref (a 0)), (1, .int jn), (2, .int jt), (3, .int jk), (4, .int jg), (5, .int ju)] := hl
  obtain ⟨hcnt, hR⟩ := id hI
  refine lv_aload_n hx hb d_m_ask_0 rfl (lv_at hl 0 rfl) ?_
  refine lv_iconst (v := 0) hx hb d_m_ask_1 (by decide) ?_
  refine va_put (D := D) (ci := 5) (v := .int 0) (ty := .int) (C := "RightsLimitModel") (T := fT_m) (N := 33) hx hb hG fi_m fy_m fo_m fn_m hown hK hP hD hS 0 rfl rfl 0 (by decide) (hG _ wd_483) (fun _ h9 => h9) rfl (by decide +kernel) rfl rfl (Nat.le_of_ble_eq_true rfl) d_m_ask_2 (fun H locs hP hD hS => ?_)
  obtain ⟨F1, eF1⟩ : ∃ G, G = rl_st F 27 0 0 := ⟨_, rfl⟩
  have hP : va_P D rl_cl (rm_w a kI kZ F1) H := by rw [eF1]; exact hP
  have hD : va_D A (rm_w a kI kZ F1) := by rw [eF1]; exact hD
  obtain ⟨tF1, hRF1⟩ := rm_putS eF1 (by decide) (by decide) (by decide) (by decide) hR
  refine lv_aload_n hx hb d_m_ask_5 rfl (lv_at hl 0 rfl) ?_
  refine lv_iload_n hx hb d_m_ask_6 rfl (lv_at hl 2 rfl) ?_
  have hpre := rl_BR.pre (av := .ref (a 0) :: [.int jt]) rl_nw0 hP hK hN
  refine rl_callr hS (va_runV (As := [.int jt]) (rest := []) ⟨hx, hb, hml, hown, hG⟩ (k_m_isTitle l D a kI kZ F1 jt ⟨by omega, hRF1⟩ _) (cwV 1 hG (rl_gV wd_594 wd_596 wd_6 wd_19 wd_597) rfl rfl rfl (by decide +kernel) ⟨Nat.le_of_ble_eq_true rfl, Nat.le_of_ble_eq_true rfl⟩) ⟨hpre.1, (va_recv hK hP (ci := 5) (q0 := 0) rfl rfl), hpre.2⟩ rfl rfl hl.1 rfl (lv_room (Nat.le_of_ble_eq_true rfl)) d_m_ask_7 ⟨Nat.le_of_ble_eq_true rfl, Nat.le_of_ble_eq_true rfl⟩) (fun r2 locs hw hS => ?_)
  rcases hw with ⟨rfl, h3⟩ | ⟨rfl, h3⟩
  · refine lv_if_ne (tgt := 15) hx hb d_m_ask_10 (by decide) (fun _ => ?_) (fun c9 => absurd c9 (by decide))
    refine lv_iload_n hx hb d_m_ask_15 rfl (lv_at hl 1 rfl) ?_
    refine lv_iconst (v := 0) hx hb d_m_ask_16 (by decide) ?_
    refine lv_bipush (v := 99) hx hb d_m_ask_17 (by decide) ?_
    refine rl_callr hS (va_runS (As := [.int jn, .int 0, .int 99]) (rest := []) ⟨hx, hb, hml, hown, hG⟩ (k_m_in l D a kI kZ jn 0 99 _) (cwS 3 hG (rl_gS wd_587 wd_588 wd_19 wd_589) rfl rfl rfl (by decide +kernel) ⟨Nat.le_of_ble_eq_true rfl, Nat.le_of_ble_eq_true rfl⟩) (rl_BR.pre rl_nw0 rl_P0 hK hN) rfl rfl hl.1 rfl (lv_room (Nat.le_of_ble_eq_true rfl)) d_m_ask_19 ⟨Nat.le_of_ble_eq_true rfl, Nat.le_of_ble_eq_true rfl⟩) (fun r4 locs hw hS => ?_)
    try simp only [rl_n0, rl_n99] at hw
    rcases hw with ⟨rfl, h5⟩ | ⟨rfl, h5⟩
    · refine lv_if_eq (tgt := 55) hx hb d_m_ask_22 (by decide) (fun c9 => absurd c9 (by decide)) (fun _ => ?_)
      refine lv_iload_n hx hb d_m_ask_25 rfl (lv_at hl 3 rfl) ?_
      refine lv_iconst (v := 0) hx hb d_m_ask_26 (by decide) ?_
      refine lv_iconst (v := 1) hx hb d_m_ask_27 (by decide) ?_
      refine rl_callr hS (va_runS (As := [.int jk, .int 0, .int 1]) (rest := []) ⟨hx, hb, hml, hown, hG⟩ (k_m_in l D a kI kZ jk 0 1 _) (cwS 3 hG (rl_gS wd_587 wd_588 wd_19 wd_589) rfl rfl rfl (by decide +kernel) ⟨Nat.le_of_ble_eq_true rfl, Nat.le_of_ble_eq_true rfl⟩) (rl_BR.pre rl_nw0 rl_P0 hK hN) rfl rfl hl.1 rfl (lv_room (Nat.le_of_ble_eq_true rfl)) d_m_ask_28 ⟨Nat.le_of_ble_eq_true rfl, Nat.le_of_ble_eq_true rfl⟩) (fun r6 locs hw hS => ?_)
      try simp only [rl_n0, rl_n1] at hw
      rcases hw with ⟨rfl, h7⟩ | ⟨rfl, h7⟩
      · refine lv_if_eq (tgt := 55) hx hb d_m_ask_31 (by decide) (fun c9 => absurd c9 (by decide)) (fun _ => ?_)
        refine lv_iload hx hb d_m_ask_34 (lv_at hl 4 rfl) ?_
        refine lv_iconst (v := 1) hx hb d_m_ask_36 (by decide) ?_
        refine lv_sipush (v := 1000) hx hb d_m_ask_37 (by decide) ?_
        refine rl_callr hS (va_runS (As := [.int jg, .int 1, .int 1000]) (rest := []) ⟨hx, hb, hml, hown, hG⟩ (k_m_in l D a kI kZ jg 1 1000 _) (cwS 3 hG (rl_gS wd_587 wd_588 wd_19 wd_589) rfl rfl rfl (by decide +kernel) ⟨Nat.le_of_ble_eq_true rfl, Nat.le_of_ble_eq_true rfl⟩) (rl_BR.pre rl_nw0 rl_P0 hK hN) rfl rfl hl.1 rfl (lv_room (Nat.le_of_ble_eq_true rfl)) d_m_ask_40 ⟨Nat.le_of_ble_eq_true rfl, Nat.le_of_ble_eq_true rfl⟩) (fun r8 locs hw hS => ?_)
        try simp only [rl_n1, rl_n1000] at hw
        rcases hw with ⟨rfl, h9⟩ | ⟨rfl, h9⟩
        · refine lv_if_eq (tgt := 55) hx hb d_m_ask_43 (by decide) (fun c9 => absurd c9 (by decide)) (fun _ => ?_)
          refine lv_aload_n hx hb d_m_ask_46 rfl (lv_at hl 0 rfl) ?_
          refine lv_iload hx hb d_m_ask_47 (lv_at hl 5 rfl) ?_
          have hpre := rl_BR.pre (av := .ref (a 0) :: [.int ju]) rl_nw0 hP hK hN
          refine rl_callr hS (va_runV (As := [.int ju]) (rest := []) ⟨hx, hb, hml, hown, hG⟩ (k_m_isNow l D a kI kZ F1 ju ⟨by omega, hRF1⟩ _) (cwV 1 hG (rl_gV wd_615 wd_617 wd_7 wd_19 wd_618) rfl rfl rfl (by decide +kernel) ⟨Nat.le_of_ble_eq_true rfl, Nat.le_of_ble_eq_true rfl⟩) ⟨hpre.1, (va_recv hK hP (ci := 5) (q0 := 0) rfl rfl), hpre.2⟩ rfl rfl hl.1 rfl (lv_room (Nat.le_of_ble_eq_true rfl)) d_m_ask_49 ⟨Nat.le_of_ble_eq_true rfl, Nat.le_of_ble_eq_true rfl⟩) (fun r10 locs hw hS => ?_)
          rcases hw with ⟨rfl, h11⟩ | ⟨rfl, h11⟩
          · refine lv_if_ne (tgt := 58) hx hb d_m_ask_52 (by decide) (fun _ => ?_) (fun c9 => absurd c9 (by decide))
            refine lv_aload_n hx hb d_m_ask_58 rfl (lv_at hl 0 rfl) ?_
            refine va_get (D := D) (ci := 5) (v := .int (F1 27 5)) (C := "RightsLimitModel") (T := fT_m) (N := 33) hx hb hG fi_m hown hK hP 0 rfl rfl 20 (by decide) (hG _ wd_503) (fun _ h9 => h9) rfl d_m_ask_59 ?_
            refine lv_sipush (v := 300) hx hb d_m_ask_62 (by decide) ?_
            refine lv_icmp_ne (tgt := 71) hx hb d_m_ask_65 (by decide) (fun c12 => ?_) (fun c12 => ?_)
            · have ic12 := rl_ine c12
              simp only [rl_n300] at ic12
              refine lv_aload_n hx hb d_m_ask_71 rfl (lv_at hl 0 rfl) ?_
              refine lv_iload hx hb d_m_ask_72 (lv_at hl 5 rfl) ?_
              refine va_put (D := D) (ci := 5) (v := .int ju) (ty := .int) (C := "RightsLimitModel") (T := fT_m) (N := 33) hx hb hG fi_m fy_m fo_m fn_m hown hK hP hD hS 0 rfl rfl 1 (by decide) (hG _ wd_484) (fun _ h9 => h9) rfl (by decide +kernel) rfl rfl (Nat.le_of_ble_eq_true rfl) d_m_ask_74 (fun H locs hP hD hS => ?_)
              obtain ⟨F13, eF13⟩ : ∃ G, G = rl_st F1 27 1 ju := ⟨_, rfl⟩
              have hP : va_P D rl_cl (rm_w a kI kZ F13) H := by rw [eF13]; exact hP
              have hD : va_D A (rm_w a kI kZ F13) := by rw [eF13]; exact hD
              obtain ⟨tF13, hRF13⟩ := rm_putS eF13 (by decide) (by decide) (by decide) (by decide) hRF1
              refine lv_aload_n hx hb d_m_ask_77 rfl (lv_at hl 0 rfl) ?_
              refine va_get (D := D) (ci := 5) (v := .int (F13 27 5)) (C := "RightsLimitModel") (T := fT_m) (N := 33) hx hb hG fi_m hown hK hP 0 rfl rfl 20 (by decide) (hG _ wd_503) (fun _ h9 => h9) rfl d_m_ask_78 ?_
              refine lv_istore (lv' := [(6, .int (F13 27 5)), (0, .ref (a 0)), (1, .int jn), (2, .int jt), (3, .int jk), (4, .int jg), (5, .int ju)]) hx hb d_m_ask_81 hl (by decide) rfl (fun ls hl => ?_)
              refine lv_aload_n hx hb d_m_ask_83 rfl (lv_at hl 1 rfl) ?_
              refine lv_iload_n hx hb d_m_ask_84 rfl (lv_at hl 3 rfl) ?_
              refine lv_iload_n hx hb d_m_ask_85 rfl (lv_at hl 4 rfl) ?_
              refine lv_iload hx hb d_m_ask_86 (lv_at hl 6 rfl) ?_
              have hpre := rl_BR.pre (av := .ref (a 0) :: [.int jt, .int jk, .int ju]) rl_nw0 hP hK hN
              refine rl_callr hS (va_runV (As := [.int jt, .int jk, .int ju]) (rest := []) ⟨hx, hb, hml, hown, hG⟩ (k_m_decide l D a kI kZ F13 jt jk ju ⟨by omega, hRF13⟩ (by omega) (by omega) _) (cwV 3 hG (rl_gV wd_619 wd_621 wd_8 wd_19 wd_622) rfl rfl rfl (by decide +kernel) ⟨Nat.le_of_ble_eq_true rfl, Nat.le_of_ble_eq_true rfl⟩) ⟨hpre.1, (va_recv hK hP (ci := 5) (q0 := 0) rfl rfl), hpre.2⟩ rfl rfl hl.1 rfl (lv_room (Nat.le_of_ble_eq_true rfl)) d_m_ask_88 ⟨Nat.le_of_ble_eq_true rfl, Nat.le_of_ble_eq_true rfl⟩) (fun r14 locs hw hS => ?_)
              have hwr14 := hw
              have xr14 := hw.2
              refine lv_istore (lv' := [(7, .int r14), (6, .int (F13 27 5)), (0, .ref (a 0)), (1, .int jn), (2, .int jt), (3, .int jk), (4, .int jg), (5, .int ju)]) hx hb d_m_ask_91 hl (by decide) rfl (fun ls hl => ?_)
              refine lv_aload_n hx hb d_m_ask_93 rfl (lv_at hl 2 rfl) ?_
              refine va_get (D := D) (ci := 5) (v := .ref (a 16)) (C := "RightsLimitModel") (T := fT_m) (N := 33) hx hb hG fi_m hown hK hP 0 rfl rfl 21 (by decide) (hG _ wd_504) (fun _ h9 => h9) rfl d_m_ask_94 ?_
              refine lv_iload hx hb d_m_ask_97 (lv_at hl 1 rfl) ?_
              refine lv_iload_n hx hb d_m_ask_99 rfl (lv_at hl 3 rfl) ?_
              refine va_iast hx hb hK hP hD hS 16 0 rfl rfl (rl_in (n := 300) (by omega) (by omega)) d_m_ask_100 (fun H locs hP hD hS => ?_)
              obtain ⟨F15, eF15⟩ : ∃ G, G = rl_st F13 15 ((F13 27 5).toNatClampNeg) jn := ⟨_, rfl⟩
              have hP : va_P D rl_cl (rm_w a kI kZ F15) H := by rw [eF15]; exact hP
              have hD : va_D A (rm_w a kI kZ F15) := by rw [eF15]; exact hD
              obtain ⟨tF15, hRF15⟩ := rm_keep eF15 (by decide) (by decide) (by decide) hRF13
              have x16 : r14.toInt = 2 → rm_Ex F15 jt jk ju := fun h => rm_Ex.st eF15 (by decide) (xr14 h)
              refine lv_aload_n hx hb d_m_ask_101 rfl (lv_at hl 2 rfl) ?_
              refine va_get (D := D) (ci := 5) (v := .ref (a 17)) (C := "RightsLimitModel") (T := fT_m) (N := 33) hx hb hG fi_m hown hK hP 0 rfl rfl 22 (by decide) (hG _ wd_505) (fun _ h9 => h9) rfl d_m_ask_102 ?_
              refine lv_iload hx hb d_m_ask_105 (lv_at hl 1 rfl) ?_
              refine lv_iload_n hx hb d_m_ask_107 rfl (lv_at hl 4 rfl) ?_
              refine va_iast hx hb hK hP hD hS 17 0 rfl rfl (rl_in (n := 300) (by omega) (by omega)) d_m_ask_108 (fun H locs hP hD hS => ?_)
              obtain ⟨F17, eF17⟩ : ∃ G, G = rl_st F15 16 ((F13 27 5).toNatClampNeg) jt := ⟨_, rfl⟩
              have hP : va_P D rl_cl (rm_w a kI kZ F17) H := by rw [eF17]; exact hP
              have hD : va_D A (rm_w a kI kZ F17) := by rw [eF17]; exact hD
              obtain ⟨tF17, hRF17⟩ := rm_keep eF17 (by decide) (by decide) (by decide) hRF15
              have x18 : r14.toInt = 2 → rm_Ex F17 jt jk ju := fun h => rm_Ex.st eF17 (by decide) (x16 h)
              refine lv_aload_n hx hb d_m_ask_109 rfl (lv_at hl 2 rfl) ?_
              refine va_get (D := D) (ci := 5) (v := .ref (a 18)) (C := "RightsLimitModel") (T := fT_m) (N := 33) hx hb hG fi_m hown hK hP 0 rfl rfl 23 (by decide) (hG _ wd_506) (fun _ h9 => h9) rfl d_m_ask_110 ?_
              refine lv_iload hx hb d_m_ask_113 (lv_at hl 1 rfl) ?_
              refine lv_iload_n hx hb d_m_ask_115 rfl (lv_at hl 5 rfl) ?_
              refine va_iast hx hb hK hP hD hS 18 0 rfl rfl (rl_in (n := 300) (by omega) (by omega)) d_m_ask_116 (fun H locs hP hD hS => ?_)
              obtain ⟨F19, eF19⟩ : ∃ G, G = rl_st F17 17 ((F13 27 5).toNatClampNeg) jk := ⟨_, rfl⟩
              have hP : va_P D rl_cl (rm_w a kI kZ F19) H := by rw [eF19]; exact hP
              have hD : va_D A (rm_w a kI kZ F19) := by rw [eF19]; exact hD
              obtain ⟨tF19, hRF19⟩ := rm_keep eF19 (by decide) (by decide) (by decide) hRF17
              have x20 : r14.toInt = 2 → rm_Ex F19 jt jk ju := fun h => rm_Ex.st eF19 (by decide) (x18 h)
              refine lv_aload_n hx hb d_m_ask_117 rfl (lv_at hl 2 rfl) ?_
              refine va_get (D := D) (ci := 5) (v := .ref (a 19)) (C := "RightsLimitModel") (T := fT_m) (N := 33) hx hb hG fi_m hown hK hP 0 rfl rfl 24 (by decide) (hG _ wd_507) (fun _ h9 => h9) rfl d_m_ask_118 ?_
              refine lv_iload hx hb d_m_ask_121 (lv_at hl 1 rfl) ?_
              refine lv_iload hx hb d_m_ask_123 (lv_at hl 6 rfl) ?_
              refine va_iast hx hb hK hP hD hS 19 0 rfl rfl (rl_in (n := 300) (by omega) (by omega)) d_m_ask_125 (fun H locs hP hD hS => ?_)
              obtain ⟨F21, eF21⟩ : ∃ G, G = rl_st F19 18 ((F13 27 5).toNatClampNeg) jg := ⟨_, rfl⟩
              have hP : va_P D rl_cl (rm_w a kI kZ F21) H := by rw [eF21]; exact hP
              have hD : va_D A (rm_w a kI kZ F21) := by rw [eF21]; exact hD
              obtain ⟨tF21, hRF21⟩ := rm_keep eF21 (by decide) (by decide) (by decide) hRF19
              have x22 : r14.toInt = 2 → rm_Ex F21 jt jk ju := fun h => rm_Ex.st eF21 (by decide) (x20 h)
              refine lv_aload_n hx hb d_m_ask_126 rfl (lv_at hl 2 rfl) ?_
              refine va_get (D := D) (ci := 5) (v := .ref (a 20)) (C := "RightsLimitModel") (T := fT_m) (N := 33) hx hb hG fi_m hown hK hP 0 rfl rfl 25 (by decide) (hG _ wd_508) (fun _ h9 => h9) rfl d_m_ask_127 ?_
              refine lv_iload hx hb d_m_ask_130 (lv_at hl 1 rfl) ?_
              refine lv_iload hx hb d_m_ask_132 (lv_at hl 7 rfl) ?_
              refine va_iast hx hb hK hP hD hS 20 0 rfl rfl (rl_in (n := 300) (by omega) (by omega)) d_m_ask_134 (fun H locs hP hD hS => ?_)
              obtain ⟨F23, eF23⟩ : ∃ G, G = rl_st F21 19 ((F13 27 5).toNatClampNeg) ju := ⟨_, rfl⟩
              have hP : va_P D rl_cl (rm_w a kI kZ F23) H := by rw [eF23]; exact hP
              have hD : va_D A (rm_w a kI kZ F23) := by rw [eF23]; exact hD
              obtain ⟨tF23, hRF23⟩ := rm_keep eF23 (by decide) (by decide) (by decide) hRF21
              have x24 : r14.toInt = 2 → rm_Ex F23 jt jk ju := fun h => rm_Ex.st eF23 (by decide) (x22 h)
              refine lv_aload_n hx hb d_m_ask_135 rfl (lv_at hl 2 rfl) ?_
              refine va_get (D := D) (ci := 5) (v := .ref (a 21)) (C := "RightsLimitModel") (T := fT_m) (N := 33) hx hb hG fi_m hown hK hP 0 rfl rfl 26 (by decide) (hG _ wd_509) (fun _ h9 => h9) rfl d_m_ask_136 ?_
              refine lv_iload hx hb d_m_ask_139 (lv_at hl 1 rfl) ?_
              refine lv_iload hx hb d_m_ask_141 (lv_at hl 0 rfl) ?_
              refine va_iast hx hb hK hP hD hS 21 0 rfl rfl (rl_in (n := 300) (by omega) (by omega)) d_m_ask_143 (fun H locs hP hD hS => ?_)
              obtain ⟨F25, eF25⟩ : ∃ G, G = rl_st F23 20 ((F13 27 5).toNatClampNeg) r14 := ⟨_, rfl⟩
              have hP : va_P D rl_cl (rm_w a kI kZ F25) H := by rw [eF25]; exact hP
              have hD : va_D A (rm_w a kI kZ F25) := by rw [eF25]; exact hD
              obtain ⟨tF25, hRF25⟩ := rm_keep eF25 (by decide) (by decide) (by decide) hRF23
              have x26 : r14.toInt = 2 → rm_Ex F25 jt jk ju := fun h => rm_Ex.st eF25 (by decide) (x24 h)
              refine lv_aload_n hx hb d_m_ask_144 rfl (lv_at hl 2 rfl) ?_
              refine va_get (D := D) (ci := 5) (v := .ref (a 22)) (C := "RightsLimitModel") (T := fT_m) (N := 33) hx hb hG fi_m hown hK hP 0 rfl rfl 27 (by decide) (hG _ wd_510) (fun _ h9 => h9) rfl d_m_ask_145 ?_
              refine lv_iload hx hb d_m_ask_148 (lv_at hl 1 rfl) ?_
              refine lv_iload hx hb d_m_ask_150 (lv_at hl 0 rfl) ?_
              refine lv_iconst (v := 2) hx hb d_m_ask_152 (by decide) ?_
              refine lv_icmp_ne (tgt := 167) hx hb d_m_ask_153 (by decide) (fun c27 => ?_) (fun c27 => ?_)
              · have ic27 := rl_ine c27
                simp only [rl_n2] at ic27
                refine lv_iconst (v := (-1)) hx hb d_m_ask_167 (by decide) ?_
                refine va_iast hx hb hK hP hD hS 22 0 rfl rfl (rl_in (n := 300) (by omega) (by omega)) d_m_ask_168 (fun H locs hP hD hS => ?_)
                obtain ⟨F28, eF28⟩ : ∃ G, G = rl_st F25 21 ((F13 27 5).toNatClampNeg) (-1) := ⟨_, rfl⟩
                have hP : va_P D rl_cl (rm_w a kI kZ F28) H := by rw [eF28]; exact hP
                have hD : va_D A (rm_w a kI kZ F28) := by rw [eF28]; exact hD
                obtain ⟨tF28, hRF28⟩ := rm_keep eF28 (by decide) (by decide) (by decide) hRF25
                have w29 : F28 21 ((F13 27 5).toNatClampNeg) = (-1) := by rw [eF28]; exact rl_steq
                have x30 : r14.toInt = 2 → rm_Ex F28 jt jk ju := fun h => rm_Ex.st eF28 (by decide) (x26 h)
                refine lv_aload_n hx hb d_m_ask_169 rfl (lv_at hl 2 rfl) ?_
                refine va_get (D := D) (ci := 5) (v := .ref (a 23)) (C := "RightsLimitModel") (T := fT_m) (N := 33) hx hb hG fi_m hown hK hP 0 rfl rfl 28 (by decide) (hG _ wd_511) (fun _ h9 => h9) rfl d_m_ask_170 ?_
                refine lv_iload hx hb d_m_ask_173 (lv_at hl 1 rfl) ?_
                refine lv_iload hx hb d_m_ask_175 (lv_at hl 0 rfl) ?_
                refine lv_iconst (v := 5) hx hb d_m_ask_177 (by decide) ?_
                refine lv_icmp_ne (tgt := 198) hx hb d_m_ask_178 (by decide) (fun c31 => ?_) (fun c31 => ?_)
                · have ic31 := rl_ine c31
                  simp only [rl_n5] at ic31
                  refine lv_iconst (v := 0) hx hb d_m_ask_198 (by decide) ?_
                  refine va_iast hx hb hK hP hD hS 23 0 rfl rfl (rl_in (n := 300) (by omega) (by omega)) d_m_ask_199 (fun H locs hP hD hS => ?_)
                  obtain ⟨F32, eF32⟩ : ∃ G, G = rl_st F28 22 ((F13 27 5).toNatClampNeg) 0 := ⟨_, rfl⟩
                  have hP : va_P D rl_cl (rm_w a kI kZ F32) H := by rw [eF32]; exact hP
                  have hD : va_D A (rm_w a kI kZ F32) := by rw [eF32]; exact hD
                  obtain ⟨tF32, hRF32⟩ := rm_keep eF32 (by decide) (by decide) (by decide) hRF28
                  have w33 : F32 21 ((F13 27 5).toNatClampNeg) = (-1) := by rw [eF32, rl_stne (by decide)]; exact w29
                  have x34 : r14.toInt = 2 → rm_Ex F32 jt jk ju := fun h => rm_Ex.st eF32 (by decide) (x30 h)
                  refine lv_aload_n hx hb d_m_ask_200 rfl (lv_at hl 2 rfl) ?_
                  refine va_get (D := D) (ci := 5) (v := .ref (a 24)) (C := "RightsLimitModel") (T := fT_m) (N := 33) hx hb hG fi_m hown hK hP 0 rfl rfl 29 (by decide) (hG _ wd_512) (fun _ h9 => h9) rfl d_m_ask_201 ?_
                  refine lv_iload hx hb d_m_ask_204 (lv_at hl 1 rfl) ?_
                  refine lv_iload hx hb d_m_ask_206 (lv_at hl 0 rfl) ?_
                  refine lv_if_ne (tgt := 215) hx hb d_m_ask_208 (by decide) (fun c35 => ?_) (fun c35 => ?_)
                  · have ic35 := rl_ine c35
                    simp only [rl_n0] at ic35
                    refine lv_iload hx hb d_m_ask_215 (lv_at hl 7 rfl) ?_
                    refine lv_ldc (v := 2592000) hx hb hown (hG _ wd_636) d_m_ask_217 ?_
                    refine lv_iadd hx hb d_m_ask_219 ?_
                    refine lv_topi (fun v36 ev36 => ?_)
                    refine va_iast hx hb hK hP hD hS 24 0 rfl rfl (rl_in (n := 300) (by omega) (by omega)) d_m_ask_220 (fun H locs hP hD hS => ?_)
                    obtain ⟨F37, eF37⟩ : ∃ G, G = rl_st F32 23 ((F13 27 5).toNatClampNeg) v36 := ⟨_, rfl⟩
                    have hP : va_P D rl_cl (rm_w a kI kZ F37) H := by rw [eF37]; exact hP
                    have hD : va_D A (rm_w a kI kZ F37) := by rw [eF37]; exact hD
                    obtain ⟨tF37, hRF37⟩ := rm_keep eF37 (by decide) (by decide) (by decide) hRF32
                    have w38 : F37 21 ((F13 27 5).toNatClampNeg) = (-1) := by rw [eF37, rl_stne (by decide)]; exact w33
                    have x39 : r14.toInt = 2 → rm_Ex F37 jt jk ju := fun h => rm_Ex.st eF37 (by decide) (x34 h)
                    refine lv_aload_n hx hb d_m_ask_221 rfl (lv_at hl 2 rfl) ?_
                    refine va_get (D := D) (ci := 5) (v := .ref (a 25)) (C := "RightsLimitModel") (T := fT_m) (N := 33) hx hb hG fi_m hown hK hP 0 rfl rfl 30 (by decide) (hG _ wd_513) (fun _ h9 => h9) rfl d_m_ask_222 ?_
                    refine lv_iload hx hb d_m_ask_225 (lv_at hl 1 rfl) ?_
                    refine lv_iconst (v := 0) hx hb d_m_ask_227 (by decide) ?_
                    refine va_iast hx hb hK hP hD hS 25 0 rfl rfl (rl_in (n := 300) (by omega) (by omega)) d_m_ask_228 (fun H locs hP hD hS => ?_)
                    obtain ⟨F40, eF40⟩ : ∃ G, G = rl_st F37 24 ((F13 27 5).toNatClampNeg) 0 := ⟨_, rfl⟩
                    have hP : va_P D rl_cl (rm_w a kI kZ F40) H := by rw [eF40]; exact hP
                    have hD : va_D A (rm_w a kI kZ F40) := by rw [eF40]; exact hD
                    obtain ⟨tF40, hRF40⟩ := rm_keep eF40 (by decide) (by decide) (by decide) hRF37
                    have w41 : F40 21 ((F13 27 5).toNatClampNeg) = (-1) := by rw [eF40, rl_stne (by decide)]; exact w38
                    have x42 : r14.toInt = 2 → rm_Ex F40 jt jk ju := fun h => rm_Ex.st eF40 (by decide) (x39 h)
                    refine lv_aload_n hx hb d_m_ask_229 rfl (lv_at hl 2 rfl) ?_
                    refine va_get (D := D) (ci := 5) (v := .ref (a 26)) (C := "RightsLimitModel") (T := fT_m) (N := 33) hx hb hG fi_m hown hK hP 0 rfl rfl 31 (by decide) (hG _ wd_514) (fun _ h9 => h9) rfl d_m_ask_230 ?_
                    refine lv_iload hx hb d_m_ask_233 (lv_at hl 1 rfl) ?_
                    refine lv_iconst (v := (-1)) hx hb d_m_ask_235 (by decide) ?_
                    refine va_iast hx hb hK hP hD hS 26 0 rfl rfl (rl_in (n := 300) (by omega) (by omega)) d_m_ask_236 (fun H locs hP hD hS => ?_)
                    obtain ⟨F43, eF43⟩ : ∃ G, G = rl_st F40 25 ((F13 27 5).toNatClampNeg) (-1) := ⟨_, rfl⟩
                    have hP : va_P D rl_cl (rm_w a kI kZ F43) H := by rw [eF43]; exact hP
                    have hD : va_D A (rm_w a kI kZ F43) := by rw [eF43]; exact hD
                    obtain ⟨tF43, hRF43⟩ := rm_keep eF43 (by decide) (by decide) (by decide) hRF40
                    have w44 : F43 21 ((F13 27 5).toNatClampNeg) = (-1) := by rw [eF43, rl_stne (by decide)]; exact w41
                    have x45 : r14.toInt = 2 → rm_Ex F43 jt jk ju := fun h => rm_Ex.st eF43 (by decide) (x42 h)
                    refine lv_iload hx hb d_m_ask_237 (lv_at hl 0 rfl) ?_
                    refine lv_iconst (v := 2) hx hb d_m_ask_239 (by decide) ?_
                    refine lv_icmp_ne (tgt := 259) hx hb d_m_ask_240 (by decide) (fun c46 => ?_) (fun c46 => ?_)
                    · have ic46 := rl_ine c46
                      simp only [rl_n2] at ic46
                      refine lv_iload hx hb d_m_ask_259 (lv_at hl 0 rfl) ?_
                      refine lv_iconst (v := 4) hx hb d_m_ask_261 (by decide) ?_
                      refine lv_icmp_ne (tgt := 275) hx hb d_m_ask_262 (by decide) (fun c47 => ?_) (fun c47 => ?_)
                      · have ic47 := rl_ine c47
                        simp only [rl_n4] at ic47
                        refine lv_iload hx hb d_m_ask_275 (lv_at hl 0 rfl) ?_
                        refine lv_if_ne (tgt := 292) hx hb d_m_ask_277 (by decide) (fun c48 => ?_) (fun c48 => ?_)
                        · have ic48 := rl_ine c48
                          simp only [rl_n0] at ic48
                          refine lv_aload_n hx hb d_m_ask_292 rfl (lv_at hl 2 rfl) ?_
                          refine lv_dup hx hb d_m_ask_293 rfl ?_
                          refine va_get (D := D) (ci := 5) (v := .int (F43 27 5)) (C := "RightsLimitModel") (T := fT_m) (N := 33) hx hb hG fi_m hown hK hP 0 rfl rfl 20 (by decide) (hG _ wd_503) (fun _ h9 => h9) rfl d_m_ask_294 ?_
                          refine lv_iconst (v := 1) hx hb d_m_ask_297 (by decide) ?_
                          refine lv_iadd hx hb d_m_ask_298 ?_
                          refine lv_topi (fun v49 ev49 => ?_)
                          have iv49 : v49.toInt = (F43 27 5).toInt + 1 := by rw [ev49]; exact rl_addk (by decide) (by omega) (by omega)
                          refine va_put (D := D) (ci := 5) (v := .int v49) (ty := .int) (C := "RightsLimitModel") (T := fT_m) (N := 33) hx hb hG fi_m fy_m fo_m fn_m hown hK hP hD hS 0 rfl rfl 20 (by decide) (hG _ wd_503) (fun _ h9 => h9) rfl (by decide +kernel) rfl rfl (Nat.le_of_ble_eq_true rfl) d_m_ask_299 (fun H locs hP hD hS => ?_)
                          obtain ⟨F50, eF50⟩ : ∃ G, G = rl_st F43 27 5 v49 := ⟨_, rfl⟩
                          have hP : va_P D rl_cl (rm_w a kI kZ F50) H := by rw [eF50]; exact hP
                          have hD : va_D A (rm_w a kI kZ F50) := by rw [eF50]; exact hD
                          obtain ⟨tF50, hRF50⟩ := rm_put5 eF50 hRF43
                          have w51 : F50 21 ((F13 27 5).toNatClampNeg) = (-1) := by rw [eF50, rl_stne (by decide)]; exact w44
                          refine lv_iload hx hb d_m_ask_302 (lv_at hl 0 rfl) ?_
                          refine lv_if_ne (tgt := 315) hx hb d_m_ask_304 (by decide) (fun c52 => ?_) (fun c52 => ?_)
                          · have ic52 := rl_ine c52
                            simp only [rl_n0] at ic52
                            refine lv_iload hx hb d_m_ask_315 (lv_at hl 1 rfl) ?_
                            exact W.iret (v := (F13 27 5)) hx hb hr (fun t ht hW => ⟨⟨(F13 27 5), F50, rfl, ⟨hRF50, (show (F50 27 2).toInt = (F 27 2).toInt ∧ (F50 27 3).toInt = (F 27 3).toInt ∧ (F50 27 4).toInt = (F 27 4).toInt ∧ 0 ≤ (F50 27 5).toInt ∧ (F50 27 5).toInt ≤ 300 by omega)⟩, ⟨by rw [ht]; exact hP, hD⟩⟩, hS.F ht⟩) hS.2.2 d_m_ask_317
                          · have ic52 := rl_ieq c52
                            simp only [rl_n0] at ic52
                            refine lv_bipush (v := (-10)) hx hb d_m_ask_307 (by decide) ?_
                            refine lv_iload hx hb d_m_ask_309 (lv_at hl 1 rfl) ?_
                            refine lv_isub hx hb d_m_ask_311 ?_
                            refine lv_topi (fun v53 ev53 => ?_)
                            refine lv_goto (tgt := 317) hx hb d_m_ask_312 (by decide) ?_
                            exact W.iret (v := v53) hx hb hr (fun t ht hW => ⟨⟨v53, F50, rfl, ⟨hRF50, (show (F50 27 2).toInt = (F 27 2).toInt ∧ (F50 27 3).toInt = (F 27 3).toInt ∧ (F50 27 4).toInt = (F 27 4).toInt ∧ 0 ≤ (F50 27 5).toInt ∧ (F50 27 5).toInt ≤ 300 by omega)⟩, ⟨by rw [ht]; exact hP, hD⟩⟩, hS.F ht⟩) hS.2.2 d_m_ask_317
                        · have ic48 := rl_ieq c48
                          simp only [rl_n0] at ic48
                          refine lv_aload_n hx hb d_m_ask_280 rfl (lv_at hl 2 rfl) ?_
                          refine lv_aload_n hx hb d_m_ask_281 rfl (lv_at hl 2 rfl) ?_
                          refine lv_iload_n hx hb d_m_ask_282 rfl (lv_at hl 4 rfl) ?_
                          refine lv_iload_n hx hb d_m_ask_283 rfl (lv_at hl 5 rfl) ?_
                          refine lv_iload hx hb d_m_ask_284 (lv_at hl 7 rfl) ?_
                          have hpre := rl_BR.pre (av := .ref (a 0) :: [.int jt, .int jk, .int ju]) rl_nw0 hP hK hN
                          refine rl_callr hS (va_runV (As := [.int jt, .int jk, .int ju]) (rest := [.ref (a 0)]) ⟨hx, hb, hml, hown, hG⟩ (k_m_barrier l D a kI kZ F43 jt jk ju ⟨by omega, hRF43⟩ _) (cwV 3 hG (rl_gV wd_627 wd_629 wd_10 wd_19 wd_630) rfl rfl rfl (by decide +kernel) ⟨Nat.le_of_ble_eq_true rfl, Nat.le_of_ble_eq_true rfl⟩) ⟨hpre.1, (va_recv hK hP (ci := 5) (q0 := 0) rfl rfl), hpre.2⟩ rfl rfl hl.1 rfl (lv_room (Nat.le_of_ble_eq_true rfl)) d_m_ask_286 ⟨Nat.le_of_ble_eq_true rfl, Nat.le_of_ble_eq_true rfl⟩) (fun r54 locs hw hS => ?_)
                          have hwr54 := hw
                          refine va_put (D := D) (ci := 5) (v := .int r54) (ty := .int) (C := "RightsLimitModel") (T := fT_m) (N := 33) hx hb hG fi_m fy_m fo_m fn_m hown hK hP hD hS 0 rfl rfl 32 (by decide) (hG _ wd_515) (fun _ h9 => h9) rfl (by decide +kernel) rfl rfl (Nat.le_of_ble_eq_true rfl) d_m_ask_289 (fun H locs hP hD hS => ?_)
                          obtain ⟨F55, eF55⟩ : ∃ G, G = rl_st F43 27 6 r54 := ⟨_, rfl⟩
                          have hP : va_P D rl_cl (rm_w a kI kZ F55) H := by rw [eF55]; exact hP
                          have hD : va_D A (rm_w a kI kZ F55) := by rw [eF55]; exact hD
                          obtain ⟨tF55, hRF55⟩ := rm_putS eF55 (by decide) (by decide) (by decide) (by decide) hRF43
                          have w56 : F55 21 ((F13 27 5).toNatClampNeg) = (-1) := by rw [eF55, rl_stne (by decide)]; exact w44
                          refine lv_aload_n hx hb d_m_ask_292 rfl (lv_at hl 2 rfl) ?_
                          refine lv_dup hx hb d_m_ask_293 rfl ?_
                          refine va_get (D := D) (ci := 5) (v := .int (F55 27 5)) (C := "RightsLimitModel") (T := fT_m) (N := 33) hx hb hG fi_m hown hK hP 0 rfl rfl 20 (by decide) (hG _ wd_503) (fun _ h9 => h9) rfl d_m_ask_294 ?_
                          refine lv_iconst (v := 1) hx hb d_m_ask_297 (by decide) ?_
                          refine lv_iadd hx hb d_m_ask_298 ?_
                          refine lv_topi (fun v57 ev57 => ?_)
                          have iv57 : v57.toInt = (F55 27 5).toInt + 1 := by rw [ev57]; exact rl_addk (by decide) (by omega) (by omega)
                          refine va_put (D := D) (ci := 5) (v := .int v57) (ty := .int) (C := "RightsLimitModel") (T := fT_m) (N := 33) hx hb hG fi_m fy_m fo_m fn_m hown hK hP hD hS 0 rfl rfl 20 (by decide) (hG _ wd_503) (fun _ h9 => h9) rfl (by decide +kernel) rfl rfl (Nat.le_of_ble_eq_true rfl) d_m_ask_299 (fun H locs hP hD hS => ?_)
                          obtain ⟨F58, eF58⟩ : ∃ G, G = rl_st F55 27 5 v57 := ⟨_, rfl⟩
                          have hP : va_P D rl_cl (rm_w a kI kZ F58) H := by rw [eF58]; exact hP
                          have hD : va_D A (rm_w a kI kZ F58) := by rw [eF58]; exact hD
                          obtain ⟨tF58, hRF58⟩ := rm_put5 eF58 hRF55
                          have w59 : F58 21 ((F13 27 5).toNatClampNeg) = (-1) := by rw [eF58, rl_stne (by decide)]; exact w56
                          refine lv_iload hx hb d_m_ask_302 (lv_at hl 0 rfl) ?_
                          refine lv_if_ne (tgt := 315) hx hb d_m_ask_304 (by decide) (fun c60 => ?_) (fun c60 => ?_)
                          · have ic60 := rl_ine c60
                            simp only [rl_n0] at ic60
                            exfalso; omega
                          · have ic60 := rl_ieq c60
                            simp only [rl_n0] at ic60
                            refine lv_bipush (v := (-10)) hx hb d_m_ask_307 (by decide) ?_
                            refine lv_iload hx hb d_m_ask_309 (lv_at hl 1 rfl) ?_
                            refine lv_isub hx hb d_m_ask_311 ?_
                            refine lv_topi (fun v61 ev61 => ?_)
                            refine lv_goto (tgt := 317) hx hb d_m_ask_312 (by decide) ?_
                            exact W.iret (v := v61) hx hb hr (fun t ht hW => ⟨⟨v61, F58, rfl, ⟨hRF58, (show (F58 27 2).toInt = (F 27 2).toInt ∧ (F58 27 3).toInt = (F 27 3).toInt ∧ (F58 27 4).toInt = (F 27 4).toInt ∧ 0 ≤ (F58 27 5).toInt ∧ (F58 27 5).toInt ≤ 300 by omega)⟩, ⟨by rw [ht]; exact hP, hD⟩⟩, hS.F ht⟩) hS.2.2 d_m_ask_317
                      · have ic47 := rl_ieq c47
                        simp only [rl_n4] at ic47
                        refine lv_aload_n hx hb d_m_ask_265 rfl (lv_at hl 2 rfl) ?_
                        refine va_get (D := D) (ci := 5) (v := .ref (a 4)) (C := "RightsLimitModel") (T := fT_m) (N := 33) hx hb hG fi_m hown hK hP 0 rfl rfl 6 (by decide) (hG _ wd_489) (fun _ h9 => h9) rfl d_m_ask_266 ?_
                        refine lv_iload_n hx hb d_m_ask_269 rfl (lv_at hl 4 rfl) ?_
                        refine lv_dup2_11 hx hb d_m_ask_270 rfl rfl ?_
                        refine va_iald hx hb hK hP 4 0 rfl rfl (rl_in (n := 50) (by omega) (by omega)) d_m_ask_271 ?_
                        refine lv_topi (fun v62 ev62 => ?_)
                        refine lv_iconst (v := 1) hx hb d_m_ask_272 (by decide) ?_
                        refine lv_isub hx hb d_m_ask_273 ?_
                        refine lv_topi (fun v63 ev63 => ?_)
                        refine va_iast hx hb hK hP hD hS 4 0 rfl rfl (rl_in (n := 50) (by omega) (by omega)) d_m_ask_274 (fun H locs hP hD hS => ?_)
                        obtain ⟨F64, eF64⟩ : ∃ G, G = rl_st F43 3 jt.toNatClampNeg v63 := ⟨_, rfl⟩
                        have hP : va_P D rl_cl (rm_w a kI kZ F64) H := by rw [eF64]; exact hP
                        have hD : va_D A (rm_w a kI kZ F64) := by rw [eF64]; exact hD
                        obtain ⟨tF64, hRF64⟩ := rm_keep eF64 (by decide) (by decide) (by decide) hRF43
                        have w65 : F64 21 ((F13 27 5).toNatClampNeg) = (-1) := by rw [eF64, rl_stne (by decide)]; exact w44
                        have x66 : r14.toInt = 2 → rm_Ex F64 jt jk ju := fun h => rm_Ex.st eF64 (by decide) (x45 h)
                        refine lv_iload hx hb d_m_ask_275 (lv_at hl 0 rfl) ?_
                        refine lv_if_ne (tgt := 292) hx hb d_m_ask_277 (by decide) (fun c67 => ?_) (fun c67 => ?_)
                        · have ic67 := rl_ine c67
                          simp only [rl_n0] at ic67
                          refine lv_aload_n hx hb d_m_ask_292 rfl (lv_at hl 2 rfl) ?_
                          refine lv_dup hx hb d_m_ask_293 rfl ?_
                          refine va_get (D := D) (ci := 5) (v := .int (F64 27 5)) (C := "RightsLimitModel") (T := fT_m) (N := 33) hx hb hG fi_m hown hK hP 0 rfl rfl 20 (by decide) (hG _ wd_503) (fun _ h9 => h9) rfl d_m_ask_294 ?_
                          refine lv_iconst (v := 1) hx hb d_m_ask_297 (by decide) ?_
                          refine lv_iadd hx hb d_m_ask_298 ?_
                          refine lv_topi (fun v68 ev68 => ?_)
                          have iv68 : v68.toInt = (F64 27 5).toInt + 1 := by rw [ev68]; exact rl_addk (by decide) (by omega) (by omega)
                          refine va_put (D := D) (ci := 5) (v := .int v68) (ty := .int) (C := "RightsLimitModel") (T := fT_m) (N := 33) hx hb hG fi_m fy_m fo_m fn_m hown hK hP hD hS 0 rfl rfl 20 (by decide) (hG _ wd_503) (fun _ h9 => h9) rfl (by decide +kernel) rfl rfl (Nat.le_of_ble_eq_true rfl) d_m_ask_299 (fun H locs hP hD hS => ?_)
                          obtain ⟨F69, eF69⟩ : ∃ G, G = rl_st F64 27 5 v68 := ⟨_, rfl⟩
                          have hP : va_P D rl_cl (rm_w a kI kZ F69) H := by rw [eF69]; exact hP
                          have hD : va_D A (rm_w a kI kZ F69) := by rw [eF69]; exact hD
                          obtain ⟨tF69, hRF69⟩ := rm_put5 eF69 hRF64
                          have w70 : F69 21 ((F13 27 5).toNatClampNeg) = (-1) := by rw [eF69, rl_stne (by decide)]; exact w65
                          refine lv_iload hx hb d_m_ask_302 (lv_at hl 0 rfl) ?_
                          refine lv_if_ne (tgt := 315) hx hb d_m_ask_304 (by decide) (fun c71 => ?_) (fun c71 => ?_)
                          · have ic71 := rl_ine c71
                            simp only [rl_n0] at ic71
                            refine lv_iload hx hb d_m_ask_315 (lv_at hl 1 rfl) ?_
                            exact W.iret (v := (F13 27 5)) hx hb hr (fun t ht hW => ⟨⟨(F13 27 5), F69, rfl, ⟨hRF69, (show (F69 27 2).toInt = (F 27 2).toInt ∧ (F69 27 3).toInt = (F 27 3).toInt ∧ (F69 27 4).toInt = (F 27 4).toInt ∧ 0 ≤ (F69 27 5).toInt ∧ (F69 27 5).toInt ≤ 300 by omega)⟩, ⟨by rw [ht]; exact hP, hD⟩⟩, hS.F ht⟩) hS.2.2 d_m_ask_317
                          · have ic71 := rl_ieq c71
                            simp only [rl_n0] at ic71
                            exfalso; omega
                        · have ic67 := rl_ieq c67
                          simp only [rl_n0] at ic67
                          exfalso; omega
                    · have ic46 := rl_ieq c46
                      simp only [rl_n2] at ic46
                      refine lv_aload_n hx hb d_m_ask_243 rfl (lv_at hl 2 rfl) ?_
                      refine va_get (D := D) (ci := 5) (v := .ref (a 13)) (C := "RightsLimitModel") (T := fT_m) (N := 33) hx hb hG fi_m hown hK hP 0 rfl rfl 17 (by decide) (hG _ wd_500) (fun _ h9 => h9) rfl d_m_ask_244 ?_
                      refine lv_aload_n hx hb d_m_ask_247 rfl (lv_at hl 2 rfl) ?_
                      refine va_get (D := D) (ci := 5) (v := .ref (a 22)) (C := "RightsLimitModel") (T := fT_m) (N := 33) hx hb hG fi_m hown hK hP 0 rfl rfl 27 (by decide) (hG _ wd_510) (fun _ h9 => h9) rfl d_m_ask_248 ?_
                      refine lv_iload hx hb d_m_ask_251 (lv_at hl 1 rfl) ?_
                      refine va_iald hx hb hK hP 22 0 rfl rfl (rl_in (n := 300) (by omega) (by omega)) d_m_ask_253 ?_
                      refine lv_topi (fun v72 ev72 => ?_)
                      refine lv_dup2_11 hx hb d_m_ask_254 rfl rfl ?_
                      refine va_iald hx hb hK hP 13 0 rfl rfl (rl_in (n := 50) (by omega) (by omega)) d_m_ask_255 ?_
                      refine lv_topi (fun v73 ev73 => ?_)
                      refine lv_iconst (v := 1) hx hb d_m_ask_256 (by decide) ?_
                      refine lv_isub hx hb d_m_ask_257 ?_
                      refine lv_topi (fun v74 ev74 => ?_)
                      refine va_iast hx hb hK hP hD hS 13 0 rfl rfl (rl_in (n := 50) (by omega) (by omega)) d_m_ask_258 (fun H locs hP hD hS => ?_)
                      obtain ⟨F75, eF75⟩ : ∃ G, G = rl_st F43 12 v72.toNatClampNeg v74 := ⟨_, rfl⟩
                      have hP : va_P D rl_cl (rm_w a kI kZ F75) H := by rw [eF75]; exact hP
                      have hD : va_D A (rm_w a kI kZ F75) := by rw [eF75]; exact hD
                      obtain ⟨tF75, hRF75⟩ := rm_keep eF75 (by decide) (by decide) (by decide) hRF43
                      have w76 : F75 21 ((F13 27 5).toNatClampNeg) = (-1) := by rw [eF75, rl_stne (by decide)]; exact w44
                      refine lv_iload hx hb d_m_ask_259 (lv_at hl 0 rfl) ?_
                      refine lv_iconst (v := 4) hx hb d_m_ask_261 (by decide) ?_
                      refine lv_icmp_ne (tgt := 275) hx hb d_m_ask_262 (by decide) (fun c77 => ?_) (fun c77 => ?_)
                      · have ic77 := rl_ine c77
                        simp only [rl_n4] at ic77
                        refine lv_iload hx hb d_m_ask_275 (lv_at hl 0 rfl) ?_
                        refine lv_if_ne (tgt := 292) hx hb d_m_ask_277 (by decide) (fun c78 => ?_) (fun c78 => ?_)
                        · have ic78 := rl_ine c78
                          simp only [rl_n0] at ic78
                          refine lv_aload_n hx hb d_m_ask_292 rfl (lv_at hl 2 rfl) ?_
                          refine lv_dup hx hb d_m_ask_293 rfl ?_
                          refine va_get (D := D) (ci := 5) (v := .int (F75 27 5)) (C := "RightsLimitModel") (T := fT_m) (N := 33) hx hb hG fi_m hown hK hP 0 rfl rfl 20 (by decide) (hG _ wd_503) (fun _ h9 => h9) rfl d_m_ask_294 ?_
                          refine lv_iconst (v := 1) hx hb d_m_ask_297 (by decide) ?_
                          refine lv_iadd hx hb d_m_ask_298 ?_
                          refine lv_topi (fun v79 ev79 => ?_)
                          have iv79 : v79.toInt = (F75 27 5).toInt + 1 := by rw [ev79]; exact rl_addk (by decide) (by omega) (by omega)
                          refine va_put (D := D) (ci := 5) (v := .int v79) (ty := .int) (C := "RightsLimitModel") (T := fT_m) (N := 33) hx hb hG fi_m fy_m fo_m fn_m hown hK hP hD hS 0 rfl rfl 20 (by decide) (hG _ wd_503) (fun _ h9 => h9) rfl (by decide +kernel) rfl rfl (Nat.le_of_ble_eq_true rfl) d_m_ask_299 (fun H locs hP hD hS => ?_)
                          obtain ⟨F80, eF80⟩ : ∃ G, G = rl_st F75 27 5 v79 := ⟨_, rfl⟩
                          have hP : va_P D rl_cl (rm_w a kI kZ F80) H := by rw [eF80]; exact hP
                          have hD : va_D A (rm_w a kI kZ F80) := by rw [eF80]; exact hD
                          obtain ⟨tF80, hRF80⟩ := rm_put5 eF80 hRF75
                          have w81 : F80 21 ((F13 27 5).toNatClampNeg) = (-1) := by rw [eF80, rl_stne (by decide)]; exact w76
                          refine lv_iload hx hb d_m_ask_302 (lv_at hl 0 rfl) ?_
                          refine lv_if_ne (tgt := 315) hx hb d_m_ask_304 (by decide) (fun c82 => ?_) (fun c82 => ?_)
                          · have ic82 := rl_ine c82
                            simp only [rl_n0] at ic82
                            refine lv_iload hx hb d_m_ask_315 (lv_at hl 1 rfl) ?_
                            exact W.iret (v := (F13 27 5)) hx hb hr (fun t ht hW => ⟨⟨(F13 27 5), F80, rfl, ⟨hRF80, (show (F80 27 2).toInt = (F 27 2).toInt ∧ (F80 27 3).toInt = (F 27 3).toInt ∧ (F80 27 4).toInt = (F 27 4).toInt ∧ 0 ≤ (F80 27 5).toInt ∧ (F80 27 5).toInt ≤ 300 by omega)⟩, ⟨by rw [ht]; exact hP, hD⟩⟩, hS.F ht⟩) hS.2.2 d_m_ask_317
                          · have ic82 := rl_ieq c82
                            simp only [rl_n0] at ic82
                            exfalso; omega
                        · have ic78 := rl_ieq c78
                          simp only [rl_n0] at ic78
                          exfalso; omega
                      · have ic77 := rl_ieq c77
                        simp only [rl_n4] at ic77
                        exfalso; omega
                  · have ic35 := rl_ieq c35
                    simp only [rl_n0] at ic35
                    refine lv_iconst (v := (-1)) hx hb d_m_ask_211 (by decide) ?_
                    refine lv_goto (tgt := 220) hx hb d_m_ask_212 (by decide) ?_
                    refine va_iast hx hb hK hP hD hS 24 0 rfl rfl (rl_in (n := 300) (by omega) (by omega)) d_m_ask_220 (fun H locs hP hD hS => ?_)
                    obtain ⟨F83, eF83⟩ : ∃ G, G = rl_st F32 23 ((F13 27 5).toNatClampNeg) (-1) := ⟨_, rfl⟩
                    have hP : va_P D rl_cl (rm_w a kI kZ F83) H := by rw [eF83]; exact hP
                    have hD : va_D A (rm_w a kI kZ F83) := by rw [eF83]; exact hD
                    obtain ⟨tF83, hRF83⟩ := rm_keep eF83 (by decide) (by decide) (by decide) hRF32
                    have w84 : F83 21 ((F13 27 5).toNatClampNeg) = (-1) := by rw [eF83, rl_stne (by decide)]; exact w33
                    have x85 : r14.toInt = 2 → rm_Ex F83 jt jk ju := fun h => rm_Ex.st eF83 (by decide) (x34 h)
                    refine lv_aload_n hx hb d_m_ask_221 rfl (lv_at hl 2 rfl) ?_
                    refine va_get (D := D) (ci := 5) (v := .ref (a 25)) (C := "RightsLimitModel") (T := fT_m) (N := 33) hx hb hG fi_m hown hK hP 0 rfl rfl 30 (by decide) (hG _ wd_513) (fun _ h9 => h9) rfl d_m_ask_222 ?_
                    refine lv_iload hx hb d_m_ask_225 (lv_at hl 1 rfl) ?_
                    refine lv_iconst (v := 0) hx hb d_m_ask_227 (by decide) ?_
                    refine va_iast hx hb hK hP hD hS 25 0 rfl rfl (rl_in (n := 300) (by omega) (by omega)) d_m_ask_228 (fun H locs hP hD hS => ?_)
                    obtain ⟨F86, eF86⟩ : ∃ G, G = rl_st F83 24 ((F13 27 5).toNatClampNeg) 0 := ⟨_, rfl⟩
                    have hP : va_P D rl_cl (rm_w a kI kZ F86) H := by rw [eF86]; exact hP
                    have hD : va_D A (rm_w a kI kZ F86) := by rw [eF86]; exact hD
                    obtain ⟨tF86, hRF86⟩ := rm_keep eF86 (by decide) (by decide) (by decide) hRF83
                    have w87 : F86 21 ((F13 27 5).toNatClampNeg) = (-1) := by rw [eF86, rl_stne (by decide)]; exact w84
                    have x88 : r14.toInt = 2 → rm_Ex F86 jt jk ju := fun h => rm_Ex.st eF86 (by decide) (x85 h)
                    refine lv_aload_n hx hb d_m_ask_229 rfl (lv_at hl 2 rfl) ?_
                    refine va_get (D := D) (ci := 5) (v := .ref (a 26)) (C := "RightsLimitModel") (T := fT_m) (N := 33) hx hb hG fi_m hown hK hP 0 rfl rfl 31 (by decide) (hG _ wd_514) (fun _ h9 => h9) rfl d_m_ask_230 ?_
                    refine lv_iload hx hb d_m_ask_233 (lv_at hl 1 rfl) ?_
                    refine lv_iconst (v := (-1)) hx hb d_m_ask_235 (by decide) ?_
                    refine va_iast hx hb hK hP hD hS 26 0 rfl rfl (rl_in (n := 300) (by omega) (by omega)) d_m_ask_236 (fun H locs hP hD hS => ?_)
                    obtain ⟨F89, eF89⟩ : ∃ G, G = rl_st F86 25 ((F13 27 5).toNatClampNeg) (-1) := ⟨_, rfl⟩
                    have hP : va_P D rl_cl (rm_w a kI kZ F89) H := by rw [eF89]; exact hP
                    have hD : va_D A (rm_w a kI kZ F89) := by rw [eF89]; exact hD
                    obtain ⟨tF89, hRF89⟩ := rm_keep eF89 (by decide) (by decide) (by decide) hRF86
                    have w90 : F89 21 ((F13 27 5).toNatClampNeg) = (-1) := by rw [eF89, rl_stne (by decide)]; exact w87
                    have x91 : r14.toInt = 2 → rm_Ex F89 jt jk ju := fun h => rm_Ex.st eF89 (by decide) (x88 h)
                    refine lv_iload hx hb d_m_ask_237 (lv_at hl 0 rfl) ?_
                    refine lv_iconst (v := 2) hx hb d_m_ask_239 (by decide) ?_
                    refine lv_icmp_ne (tgt := 259) hx hb d_m_ask_240 (by decide) (fun c92 => ?_) (fun c92 => ?_)
                    · have ic92 := rl_ine c92
                      simp only [rl_n2] at ic92
                      refine lv_iload hx hb d_m_ask_259 (lv_at hl 0 rfl) ?_
                      refine lv_iconst (v := 4) hx hb d_m_ask_261 (by decide) ?_
                      refine lv_icmp_ne (tgt := 275) hx hb d_m_ask_262 (by decide) (fun c93 => ?_) (fun c93 => ?_)
                      · have ic93 := rl_ine c93
                        simp only [rl_n4] at ic93
                        refine lv_iload hx hb d_m_ask_275 (lv_at hl 0 rfl) ?_
                        refine lv_if_ne (tgt := 292) hx hb d_m_ask_277 (by decide) (fun c94 => ?_) (fun c94 => ?_)
                        · have ic94 := rl_ine c94
                          simp only [rl_n0] at ic94
                          exfalso; omega
                        · have ic94 := rl_ieq c94
                          simp only [rl_n0] at ic94
                          refine lv_aload_n hx hb d_m_ask_280 rfl (lv_at hl 2 rfl) ?_
                          refine lv_aload_n hx hb d_m_ask_281 rfl (lv_at hl 2 rfl) ?_
                          refine lv_iload_n hx hb d_m_ask_282 rfl (lv_at hl 4 rfl) ?_
                          refine lv_iload_n hx hb d_m_ask_283 rfl (lv_at hl 5 rfl) ?_
                          refine lv_iload hx hb d_m_ask_284 (lv_at hl 7 rfl) ?_
                          have hpre := rl_BR.pre (av := .ref (a 0) :: [.int jt, .int jk, .int ju]) rl_nw0 hP hK hN
                          refine rl_callr hS (va_runV (As := [.int jt, .int jk, .int ju]) (rest := [.ref (a 0)]) ⟨hx, hb, hml, hown, hG⟩ (k_m_barrier l D a kI kZ F89 jt jk ju ⟨by omega, hRF89⟩ _) (cwV 3 hG (rl_gV wd_627 wd_629 wd_10 wd_19 wd_630) rfl rfl rfl (by decide +kernel) ⟨Nat.le_of_ble_eq_true rfl, Nat.le_of_ble_eq_true rfl⟩) ⟨hpre.1, (va_recv hK hP (ci := 5) (q0 := 0) rfl rfl), hpre.2⟩ rfl rfl hl.1 rfl (lv_room (Nat.le_of_ble_eq_true rfl)) d_m_ask_286 ⟨Nat.le_of_ble_eq_true rfl, Nat.le_of_ble_eq_true rfl⟩) (fun r95 locs hw hS => ?_)
                          have hwr95 := hw
                          refine va_put (D := D) (ci := 5) (v := .int r95) (ty := .int) (C := "RightsLimitModel") (T := fT_m) (N := 33) hx hb hG fi_m fy_m fo_m fn_m hown hK hP hD hS 0 rfl rfl 32 (by decide) (hG _ wd_515) (fun _ h9 => h9) rfl (by decide +kernel) rfl rfl (Nat.le_of_ble_eq_true rfl) d_m_ask_289 (fun H locs hP hD hS => ?_)
                          obtain ⟨F96, eF96⟩ : ∃ G, G = rl_st F89 27 6 r95 := ⟨_, rfl⟩
                          have hP : va_P D rl_cl (rm_w a kI kZ F96) H := by rw [eF96]; exact hP
                          have hD : va_D A (rm_w a kI kZ F96) := by rw [eF96]; exact hD
                          obtain ⟨tF96, hRF96⟩ := rm_putS eF96 (by decide) (by decide) (by decide) (by decide) hRF89
                          have w97 : F96 21 ((F13 27 5).toNatClampNeg) = (-1) := by rw [eF96, rl_stne (by decide)]; exact w90
                          refine lv_aload_n hx hb d_m_ask_292 rfl (lv_at hl 2 rfl) ?_
                          refine lv_dup hx hb d_m_ask_293 rfl ?_
                          refine va_get (D := D) (ci := 5) (v := .int (F96 27 5)) (C := "RightsLimitModel") (T := fT_m) (N := 33) hx hb hG fi_m hown hK hP 0 rfl rfl 20 (by decide) (hG _ wd_503) (fun _ h9 => h9) rfl d_m_ask_294 ?_
                          refine lv_iconst (v := 1) hx hb d_m_ask_297 (by decide) ?_
                          refine lv_iadd hx hb d_m_ask_298 ?_
                          refine lv_topi (fun v98 ev98 => ?_)
                          have iv98 : v98.toInt = (F96 27 5).toInt + 1 := by rw [ev98]; exact rl_addk (by decide) (by omega) (by omega)
                          refine va_put (D := D) (ci := 5) (v := .int v98) (ty := .int) (C := "RightsLimitModel") (T := fT_m) (N := 33) hx hb hG fi_m fy_m fo_m fn_m hown hK hP hD hS 0 rfl rfl 20 (by decide) (hG _ wd_503) (fun _ h9 => h9) rfl (by decide +kernel) rfl rfl (Nat.le_of_ble_eq_true rfl) d_m_ask_299 (fun H locs hP hD hS => ?_)
                          obtain ⟨F99, eF99⟩ : ∃ G, G = rl_st F96 27 5 v98 := ⟨_, rfl⟩
                          have hP : va_P D rl_cl (rm_w a kI kZ F99) H := by rw [eF99]; exact hP
                          have hD : va_D A (rm_w a kI kZ F99) := by rw [eF99]; exact hD
                          obtain ⟨tF99, hRF99⟩ := rm_put5 eF99 hRF96
                          have w100 : F99 21 ((F13 27 5).toNatClampNeg) = (-1) := by rw [eF99, rl_stne (by decide)]; exact w97
                          refine lv_iload hx hb d_m_ask_302 (lv_at hl 0 rfl) ?_
                          refine lv_if_ne (tgt := 315) hx hb d_m_ask_304 (by decide) (fun c101 => ?_) (fun c101 => ?_)
                          · have ic101 := rl_ine c101
                            simp only [rl_n0] at ic101
                            exfalso; omega
                          · have ic101 := rl_ieq c101
                            simp only [rl_n0] at ic101
                            refine lv_bipush (v := (-10)) hx hb d_m_ask_307 (by decide) ?_
                            refine lv_iload hx hb d_m_ask_309 (lv_at hl 1 rfl) ?_
                            refine lv_isub hx hb d_m_ask_311 ?_
                            refine lv_topi (fun v102 ev102 => ?_)
                            refine lv_goto (tgt := 317) hx hb d_m_ask_312 (by decide) ?_
                            exact W.iret (v := v102) hx hb hr (fun t ht hW => ⟨⟨v102, F99, rfl, ⟨hRF99, (show (F99 27 2).toInt = (F 27 2).toInt ∧ (F99 27 3).toInt = (F 27 3).toInt ∧ (F99 27 4).toInt = (F 27 4).toInt ∧ 0 ≤ (F99 27 5).toInt ∧ (F99 27 5).toInt ≤ 300 by omega)⟩, ⟨by rw [ht]; exact hP, hD⟩⟩, hS.F ht⟩) hS.2.2 d_m_ask_317
                      · have ic93 := rl_ieq c93
                        simp only [rl_n4] at ic93
                        exfalso; omega
                    · have ic92 := rl_ieq c92
                      simp only [rl_n2] at ic92
                      exfalso; omega
                · have ic31 := rl_ieq c31
                  simp only [rl_n5] at ic31
                  refine lv_iload hx hb d_m_ask_181 (lv_at hl 6 rfl) ?_
                  refine lv_aload_n hx hb d_m_ask_183 rfl (lv_at hl 2 rfl) ?_
                  refine va_get (D := D) (ci := 5) (v := .ref (a 5)) (C := "RightsLimitModel") (T := fT_m) (N := 33) hx hb hG fi_m hown hK hP 0 rfl rfl 7 (by decide) (hG _ wd_490) (fun _ h9 => h9) rfl d_m_ask_184 ?_
                  refine lv_aload_n hx hb d_m_ask_187 rfl (lv_at hl 2 rfl) ?_
                  refine va_get (D := D) (ci := 5) (v := .ref (a 1)) (C := "RightsLimitModel") (T := fT_m) (N := 33) hx hb hG fi_m hown hK hP 0 rfl rfl 3 (by decide) (hG _ wd_486) (fun _ h9 => h9) rfl d_m_ask_188 ?_
                  refine lv_iload_n hx hb d_m_ask_191 rfl (lv_at hl 4 rfl) ?_
                  refine va_iald hx hb hK hP 1 0 rfl rfl (rl_in (n := 50) (by omega) (by omega)) d_m_ask_192 ?_
                  refine lv_topi (fun v103 ev103 => ?_)
                  have iv103 : 0 ≤ v103.toInt ∧ v103.toInt < 100 := by rw [ev103]; exact hRF28.1 _
                  refine va_iald hx hb hK hP 5 0 rfl rfl (rl_in (n := 100) (by omega) (by omega)) d_m_ask_193 ?_
                  refine lv_topi (fun v104 ev104 => ?_)
                  refine lv_imul hx hb d_m_ask_194 ?_
                  refine lv_topi (fun v105 ev105 => ?_)
                  refine lv_goto (tgt := 199) hx hb d_m_ask_195 (by decide) ?_
                  refine va_iast hx hb hK hP hD hS 23 0 rfl rfl (rl_in (n := 300) (by omega) (by omega)) d_m_ask_199 (fun H locs hP hD hS => ?_)
                  obtain ⟨F106, eF106⟩ : ∃ G, G = rl_st F28 22 ((F13 27 5).toNatClampNeg) v105 := ⟨_, rfl⟩
                  have hP : va_P D rl_cl (rm_w a kI kZ F106) H := by rw [eF106]; exact hP
                  have hD : va_D A (rm_w a kI kZ F106) := by rw [eF106]; exact hD
                  obtain ⟨tF106, hRF106⟩ := rm_keep eF106 (by decide) (by decide) (by decide) hRF28
                  have w107 : F106 21 ((F13 27 5).toNatClampNeg) = (-1) := by rw [eF106, rl_stne (by decide)]; exact w29
                  have x108 : r14.toInt = 2 → rm_Ex F106 jt jk ju := fun h => rm_Ex.st eF106 (by decide) (x30 h)
                  refine lv_aload_n hx hb d_m_ask_200 rfl (lv_at hl 2 rfl) ?_
                  refine va_get (D := D) (ci := 5) (v := .ref (a 24)) (C := "RightsLimitModel") (T := fT_m) (N := 33) hx hb hG fi_m hown hK hP 0 rfl rfl 29 (by decide) (hG _ wd_512) (fun _ h9 => h9) rfl d_m_ask_201 ?_
                  refine lv_iload hx hb d_m_ask_204 (lv_at hl 1 rfl) ?_
                  refine lv_iload hx hb d_m_ask_206 (lv_at hl 0 rfl) ?_
                  refine lv_if_ne (tgt := 215) hx hb d_m_ask_208 (by decide) (fun c109 => ?_) (fun c109 => ?_)
                  · have ic109 := rl_ine c109
                    simp only [rl_n0] at ic109
                    refine lv_iload hx hb d_m_ask_215 (lv_at hl 7 rfl) ?_
                    refine lv_ldc (v := 2592000) hx hb hown (hG _ wd_636) d_m_ask_217 ?_
                    refine lv_iadd hx hb d_m_ask_219 ?_
                    refine lv_topi (fun v110 ev110 => ?_)
                    refine va_iast hx hb hK hP hD hS 24 0 rfl rfl (rl_in (n := 300) (by omega) (by omega)) d_m_ask_220 (fun H locs hP hD hS => ?_)
                    obtain ⟨F111, eF111⟩ : ∃ G, G = rl_st F106 23 ((F13 27 5).toNatClampNeg) v110 := ⟨_, rfl⟩
                    have hP : va_P D rl_cl (rm_w a kI kZ F111) H := by rw [eF111]; exact hP
                    have hD : va_D A (rm_w a kI kZ F111) := by rw [eF111]; exact hD
                    obtain ⟨tF111, hRF111⟩ := rm_keep eF111 (by decide) (by decide) (by decide) hRF106
                    have w112 : F111 21 ((F13 27 5).toNatClampNeg) = (-1) := by rw [eF111, rl_stne (by decide)]; exact w107
                    have x113 : r14.toInt = 2 → rm_Ex F111 jt jk ju := fun h => rm_Ex.st eF111 (by decide) (x108 h)
                    refine lv_aload_n hx hb d_m_ask_221 rfl (lv_at hl 2 rfl) ?_
                    refine va_get (D := D) (ci := 5) (v := .ref (a 25)) (C := "RightsLimitModel") (T := fT_m) (N := 33) hx hb hG fi_m hown hK hP 0 rfl rfl 30 (by decide) (hG _ wd_513) (fun _ h9 => h9) rfl d_m_ask_222 ?_
                    refine lv_iload hx hb d_m_ask_225 (lv_at hl 1 rfl) ?_
                    refine lv_iconst (v := 0) hx hb d_m_ask_227 (by decide) ?_
                    refine va_iast hx hb hK hP hD hS 25 0 rfl rfl (rl_in (n := 300) (by omega) (by omega)) d_m_ask_228 (fun H locs hP hD hS => ?_)
                    obtain ⟨F114, eF114⟩ : ∃ G, G = rl_st F111 24 ((F13 27 5).toNatClampNeg) 0 := ⟨_, rfl⟩
                    have hP : va_P D rl_cl (rm_w a kI kZ F114) H := by rw [eF114]; exact hP
                    have hD : va_D A (rm_w a kI kZ F114) := by rw [eF114]; exact hD
                    obtain ⟨tF114, hRF114⟩ := rm_keep eF114 (by decide) (by decide) (by decide) hRF111
                    have w115 : F114 21 ((F13 27 5).toNatClampNeg) = (-1) := by rw [eF114, rl_stne (by decide)]; exact w112
                    have x116 : r14.toInt = 2 → rm_Ex F114 jt jk ju := fun h => rm_Ex.st eF114 (by decide) (x113 h)
                    refine lv_aload_n hx hb d_m_ask_229 rfl (lv_at hl 2 rfl) ?_
                    refine va_get (D := D) (ci := 5) (v := .ref (a 26)) (C := "RightsLimitModel") (T := fT_m) (N := 33) hx hb hG fi_m hown hK hP 0 rfl rfl 31 (by decide) (hG _ wd_514) (fun _ h9 => h9) rfl d_m_ask_230 ?_
                    refine lv_iload hx hb d_m_ask_233 (lv_at hl 1 rfl) ?_
                    refine lv_iconst (v := (-1)) hx hb d_m_ask_235 (by decide) ?_
                    refine va_iast hx hb hK hP hD hS 26 0 rfl rfl (rl_in (n := 300) (by omega) (by omega)) d_m_ask_236 (fun H locs hP hD hS => ?_)
                    obtain ⟨F117, eF117⟩ : ∃ G, G = rl_st F114 25 ((F13 27 5).toNatClampNeg) (-1) := ⟨_, rfl⟩
                    have hP : va_P D rl_cl (rm_w a kI kZ F117) H := by rw [eF117]; exact hP
                    have hD : va_D A (rm_w a kI kZ F117) := by rw [eF117]; exact hD
                    obtain ⟨tF117, hRF117⟩ := rm_keep eF117 (by decide) (by decide) (by decide) hRF114
                    have w118 : F117 21 ((F13 27 5).toNatClampNeg) = (-1) := by rw [eF117, rl_stne (by decide)]; exact w115
                    have x119 : r14.toInt = 2 → rm_Ex F117 jt jk ju := fun h => rm_Ex.st eF117 (by decide) (x116 h)
                    refine lv_iload hx hb d_m_ask_237 (lv_at hl 0 rfl) ?_
                    refine lv_iconst (v := 2) hx hb d_m_ask_239 (by decide) ?_
                    refine lv_icmp_ne (tgt := 259) hx hb d_m_ask_240 (by decide) (fun c120 => ?_) (fun c120 => ?_)
                    · have ic120 := rl_ine c120
                      simp only [rl_n2] at ic120
                      refine lv_iload hx hb d_m_ask_259 (lv_at hl 0 rfl) ?_
                      refine lv_iconst (v := 4) hx hb d_m_ask_261 (by decide) ?_
                      refine lv_icmp_ne (tgt := 275) hx hb d_m_ask_262 (by decide) (fun c121 => ?_) (fun c121 => ?_)
                      · have ic121 := rl_ine c121
                        simp only [rl_n4] at ic121
                        refine lv_iload hx hb d_m_ask_275 (lv_at hl 0 rfl) ?_
                        refine lv_if_ne (tgt := 292) hx hb d_m_ask_277 (by decide) (fun c122 => ?_) (fun c122 => ?_)
                        · have ic122 := rl_ine c122
                          simp only [rl_n0] at ic122
                          refine lv_aload_n hx hb d_m_ask_292 rfl (lv_at hl 2 rfl) ?_
                          refine lv_dup hx hb d_m_ask_293 rfl ?_
                          refine va_get (D := D) (ci := 5) (v := .int (F117 27 5)) (C := "RightsLimitModel") (T := fT_m) (N := 33) hx hb hG fi_m hown hK hP 0 rfl rfl 20 (by decide) (hG _ wd_503) (fun _ h9 => h9) rfl d_m_ask_294 ?_
                          refine lv_iconst (v := 1) hx hb d_m_ask_297 (by decide) ?_
                          refine lv_iadd hx hb d_m_ask_298 ?_
                          refine lv_topi (fun v123 ev123 => ?_)
                          have iv123 : v123.toInt = (F117 27 5).toInt + 1 := by rw [ev123]; exact rl_addk (by decide) (by omega) (by omega)
                          refine va_put (D := D) (ci := 5) (v := .int v123) (ty := .int) (C := "RightsLimitModel") (T := fT_m) (N := 33) hx hb hG fi_m fy_m fo_m fn_m hown hK hP hD hS 0 rfl rfl 20 (by decide) (hG _ wd_503) (fun _ h9 => h9) rfl (by decide +kernel) rfl rfl (Nat.le_of_ble_eq_true rfl) d_m_ask_299 (fun H locs hP hD hS => ?_)
                          obtain ⟨F124, eF124⟩ : ∃ G, G = rl_st F117 27 5 v123 := ⟨_, rfl⟩
                          have hP : va_P D rl_cl (rm_w a kI kZ F124) H := by rw [eF124]; exact hP
                          have hD : va_D A (rm_w a kI kZ F124) := by rw [eF124]; exact hD
                          obtain ⟨tF124, hRF124⟩ := rm_put5 eF124 hRF117
                          have w125 : F124 21 ((F13 27 5).toNatClampNeg) = (-1) := by rw [eF124, rl_stne (by decide)]; exact w118
                          refine lv_iload hx hb d_m_ask_302 (lv_at hl 0 rfl) ?_
                          refine lv_if_ne (tgt := 315) hx hb d_m_ask_304 (by decide) (fun c126 => ?_) (fun c126 => ?_)
                          · have ic126 := rl_ine c126
                            simp only [rl_n0] at ic126
                            refine lv_iload hx hb d_m_ask_315 (lv_at hl 1 rfl) ?_
                            exact W.iret (v := (F13 27 5)) hx hb hr (fun t ht hW => ⟨⟨(F13 27 5), F124, rfl, ⟨hRF124, (show (F124 27 2).toInt = (F 27 2).toInt ∧ (F124 27 3).toInt = (F 27 3).toInt ∧ (F124 27 4).toInt = (F 27 4).toInt ∧ 0 ≤ (F124 27 5).toInt ∧ (F124 27 5).toInt ≤ 300 by omega)⟩, ⟨by rw [ht]; exact hP, hD⟩⟩, hS.F ht⟩) hS.2.2 d_m_ask_317
                          · have ic126 := rl_ieq c126
                            simp only [rl_n0] at ic126
                            exfalso; omega
                        · have ic122 := rl_ieq c122
                          simp only [rl_n0] at ic122
                          exfalso; omega
                      · have ic121 := rl_ieq c121
                        simp only [rl_n4] at ic121
                        exfalso; omega
                    · have ic120 := rl_ieq c120
                      simp only [rl_n2] at ic120
                      exfalso; omega
                  · have ic109 := rl_ieq c109
                    simp only [rl_n0] at ic109
                    exfalso; omega
              · have ic27 := rl_ieq c27
                simp only [rl_n2] at ic27
                refine lv_aload_n hx hb d_m_ask_156 rfl (lv_at hl 2 rfl) ?_
                refine lv_iload_n hx hb d_m_ask_157 rfl (lv_at hl 4 rfl) ?_
                refine lv_iload_n hx hb d_m_ask_158 rfl (lv_at hl 5 rfl) ?_
                refine lv_iload hx hb d_m_ask_159 (lv_at hl 7 rfl) ?_
                have hpre := rl_BR.pre (av := .ref (a 0) :: [.int jt, .int jk, .int ju]) rl_nw0 hP hK hN
                refine rl_callr hS (va_runV (As := [.int jt, .int jk, .int ju]) (rest := [.int (F13 27 5), .ref (a 22)]) ⟨hx, hb, hml, hown, hG⟩ (k_m_licenceFor l D a kI kZ F25 jt jk ju ⟨by omega, hRF25⟩ _) (cwV 3 hG (rl_gV wd_623 wd_625 wd_9 wd_19 wd_626) rfl rfl rfl (by decide +kernel) ⟨Nat.le_of_ble_eq_true rfl, Nat.le_of_ble_eq_true rfl⟩) ⟨hpre.1, (va_recv hK hP (ci := 5) (q0 := 0) rfl rfl), hpre.2⟩ rfl rfl hl.1 rfl (lv_room (Nat.le_of_ble_eq_true rfl)) d_m_ask_161 ⟨Nat.le_of_ble_eq_true rfl, Nat.le_of_ble_eq_true rfl⟩) (fun r127 locs hw hS => ?_)
                have hwr127 := hw
                have yr127 : 0 ≤ r127.toInt ∧ r127.toInt < (F25 27 4).toInt := by
                  rcases hw with ⟨_, h⟩ | h
                  · exact absurd (x26 (by omega)) h
                  · exact h.1
                refine lv_goto (tgt := 168) hx hb d_m_ask_164 (by decide) ?_
                refine va_iast hx hb hK hP hD hS 22 0 rfl rfl (rl_in (n := 300) (by omega) (by omega)) d_m_ask_168 (fun H locs hP hD hS => ?_)
                obtain ⟨F128, eF128⟩ : ∃ G, G = rl_st F25 21 ((F13 27 5).toNatClampNeg) r127 := ⟨_, rfl⟩
                have hP : va_P D rl_cl (rm_w a kI kZ F128) H := by rw [eF128]; exact hP
                have hD : va_D A (rm_w a kI kZ F128) := by rw [eF128]; exact hD
                obtain ⟨tF128, hRF128⟩ := rm_keep eF128 (by decide) (by decide) (by decide) hRF25
                have w129 : F128 21 ((F13 27 5).toNatClampNeg) = r127 := by rw [eF128]; exact rl_steq
                have x130 : r14.toInt = 2 → rm_Ex F128 jt jk ju := fun h => rm_Ex.st eF128 (by decide) (x26 h)
                refine lv_aload_n hx hb d_m_ask_169 rfl (lv_at hl 2 rfl) ?_
                refine va_get (D := D) (ci := 5) (v := .ref (a 23)) (C := "RightsLimitModel") (T := fT_m) (N := 33) hx hb hG fi_m hown hK hP 0 rfl rfl 28 (by decide) (hG _ wd_511) (fun _ h9 => h9) rfl d_m_ask_170 ?_
                refine lv_iload hx hb d_m_ask_173 (lv_at hl 1 rfl) ?_
                refine lv_iload hx hb d_m_ask_175 (lv_at hl 0 rfl) ?_
                refine lv_iconst (v := 5) hx hb d_m_ask_177 (by decide) ?_
                refine lv_icmp_ne (tgt := 198) hx hb d_m_ask_178 (by decide) (fun c131 => ?_) (fun c131 => ?_)
                · have ic131 := rl_ine c131
                  simp only [rl_n5] at ic131
                  refine lv_iconst (v := 0) hx hb d_m_ask_198 (by decide) ?_
                  refine va_iast hx hb hK hP hD hS 23 0 rfl rfl (rl_in (n := 300) (by omega) (by omega)) d_m_ask_199 (fun H locs hP hD hS => ?_)
                  obtain ⟨F132, eF132⟩ : ∃ G, G = rl_st F128 22 ((F13 27 5).toNatClampNeg) 0 := ⟨_, rfl⟩
                  have hP : va_P D rl_cl (rm_w a kI kZ F132) H := by rw [eF132]; exact hP
                  have hD : va_D A (rm_w a kI kZ F132) := by rw [eF132]; exact hD
                  obtain ⟨tF132, hRF132⟩ := rm_keep eF132 (by decide) (by decide) (by decide) hRF128
                  have w133 : F132 21 ((F13 27 5).toNatClampNeg) = r127 := by rw [eF132, rl_stne (by decide)]; exact w129
                  have x134 : r14.toInt = 2 → rm_Ex F132 jt jk ju := fun h => rm_Ex.st eF132 (by decide) (x130 h)
                  refine lv_aload_n hx hb d_m_ask_200 rfl (lv_at hl 2 rfl) ?_
                  refine va_get (D := D) (ci := 5) (v := .ref (a 24)) (C := "RightsLimitModel") (T := fT_m) (N := 33) hx hb hG fi_m hown hK hP 0 rfl rfl 29 (by decide) (hG _ wd_512) (fun _ h9 => h9) rfl d_m_ask_201 ?_
                  refine lv_iload hx hb d_m_ask_204 (lv_at hl 1 rfl) ?_
                  refine lv_iload hx hb d_m_ask_206 (lv_at hl 0 rfl) ?_
                  refine lv_if_ne (tgt := 215) hx hb d_m_ask_208 (by decide) (fun c135 => ?_) (fun c135 => ?_)
                  · have ic135 := rl_ine c135
                    simp only [rl_n0] at ic135
                    refine lv_iload hx hb d_m_ask_215 (lv_at hl 7 rfl) ?_
                    refine lv_ldc (v := 2592000) hx hb hown (hG _ wd_636) d_m_ask_217 ?_
                    refine lv_iadd hx hb d_m_ask_219 ?_
                    refine lv_topi (fun v136 ev136 => ?_)
                    refine va_iast hx hb hK hP hD hS 24 0 rfl rfl (rl_in (n := 300) (by omega) (by omega)) d_m_ask_220 (fun H locs hP hD hS => ?_)
                    obtain ⟨F137, eF137⟩ : ∃ G, G = rl_st F132 23 ((F13 27 5).toNatClampNeg) v136 := ⟨_, rfl⟩
                    have hP : va_P D rl_cl (rm_w a kI kZ F137) H := by rw [eF137]; exact hP
                    have hD : va_D A (rm_w a kI kZ F137) := by rw [eF137]; exact hD
                    obtain ⟨tF137, hRF137⟩ := rm_keep eF137 (by decide) (by decide) (by decide) hRF132
                    have w138 : F137 21 ((F13 27 5).toNatClampNeg) = r127 := by rw [eF137, rl_stne (by decide)]; exact w133
                    have x139 : r14.toInt = 2 → rm_Ex F137 jt jk ju := fun h => rm_Ex.st eF137 (by decide) (x134 h)
                    refine lv_aload_n hx hb d_m_ask_221 rfl (lv_at hl 2 rfl) ?_
                    refine va_get (D := D) (ci := 5) (v := .ref (a 25)) (C := "RightsLimitModel") (T := fT_m) (N := 33) hx hb hG fi_m hown hK hP 0 rfl rfl 30 (by decide) (hG _ wd_513) (fun _ h9 => h9) rfl d_m_ask_222 ?_
                    refine lv_iload hx hb d_m_ask_225 (lv_at hl 1 rfl) ?_
                    refine lv_iconst (v := 0) hx hb d_m_ask_227 (by decide) ?_
                    refine va_iast hx hb hK hP hD hS 25 0 rfl rfl (rl_in (n := 300) (by omega) (by omega)) d_m_ask_228 (fun H locs hP hD hS => ?_)
                    obtain ⟨F140, eF140⟩ : ∃ G, G = rl_st F137 24 ((F13 27 5).toNatClampNeg) 0 := ⟨_, rfl⟩
                    have hP : va_P D rl_cl (rm_w a kI kZ F140) H := by rw [eF140]; exact hP
                    have hD : va_D A (rm_w a kI kZ F140) := by rw [eF140]; exact hD
                    obtain ⟨tF140, hRF140⟩ := rm_keep eF140 (by decide) (by decide) (by decide) hRF137
                    have w141 : F140 21 ((F13 27 5).toNatClampNeg) = r127 := by rw [eF140, rl_stne (by decide)]; exact w138
                    have x142 : r14.toInt = 2 → rm_Ex F140 jt jk ju := fun h => rm_Ex.st eF140 (by decide) (x139 h)
                    refine lv_aload_n hx hb d_m_ask_229 rfl (lv_at hl 2 rfl) ?_
                    refine va_get (D := D) (ci := 5) (v := .ref (a 26)) (C := "RightsLimitModel") (T := fT_m) (N := 33) hx hb hG fi_m hown hK hP 0 rfl rfl 31 (by decide) (hG _ wd_514) (fun _ h9 => h9) rfl d_m_ask_230 ?_
                    refine lv_iload hx hb d_m_ask_233 (lv_at hl 1 rfl) ?_
                    refine lv_iconst (v := (-1)) hx hb d_m_ask_235 (by decide) ?_
                    refine va_iast hx hb hK hP hD hS 26 0 rfl rfl (rl_in (n := 300) (by omega) (by omega)) d_m_ask_236 (fun H locs hP hD hS => ?_)
                    obtain ⟨F143, eF143⟩ : ∃ G, G = rl_st F140 25 ((F13 27 5).toNatClampNeg) (-1) := ⟨_, rfl⟩
                    have hP : va_P D rl_cl (rm_w a kI kZ F143) H := by rw [eF143]; exact hP
                    have hD : va_D A (rm_w a kI kZ F143) := by rw [eF143]; exact hD
                    obtain ⟨tF143, hRF143⟩ := rm_keep eF143 (by decide) (by decide) (by decide) hRF140
                    have w144 : F143 21 ((F13 27 5).toNatClampNeg) = r127 := by rw [eF143, rl_stne (by decide)]; exact w141
                    have x145 : r14.toInt = 2 → rm_Ex F143 jt jk ju := fun h => rm_Ex.st eF143 (by decide) (x142 h)
                    refine lv_iload hx hb d_m_ask_237 (lv_at hl 0 rfl) ?_
                    refine lv_iconst (v := 2) hx hb d_m_ask_239 (by decide) ?_
                    refine lv_icmp_ne (tgt := 259) hx hb d_m_ask_240 (by decide) (fun c146 => ?_) (fun c146 => ?_)
                    · have ic146 := rl_ine c146
                      simp only [rl_n2] at ic146
                      exfalso; omega
                    · have ic146 := rl_ieq c146
                      simp only [rl_n2] at ic146
                      refine lv_aload_n hx hb d_m_ask_243 rfl (lv_at hl 2 rfl) ?_
                      refine va_get (D := D) (ci := 5) (v := .ref (a 13)) (C := "RightsLimitModel") (T := fT_m) (N := 33) hx hb hG fi_m hown hK hP 0 rfl rfl 17 (by decide) (hG _ wd_500) (fun _ h9 => h9) rfl d_m_ask_244 ?_
                      refine lv_aload_n hx hb d_m_ask_247 rfl (lv_at hl 2 rfl) ?_
                      refine va_get (D := D) (ci := 5) (v := .ref (a 22)) (C := "RightsLimitModel") (T := fT_m) (N := 33) hx hb hG fi_m hown hK hP 0 rfl rfl 27 (by decide) (hG _ wd_510) (fun _ h9 => h9) rfl d_m_ask_248 ?_
                      refine lv_iload hx hb d_m_ask_251 (lv_at hl 1 rfl) ?_
                      refine va_iald hx hb hK hP 22 0 rfl rfl (rl_in (n := 300) (by omega) (by omega)) d_m_ask_253 ?_
                      refine lv_topi (fun v147 ev147 => ?_)
                      refine lv_dup2_11 hx hb d_m_ask_254 rfl rfl ?_
                      refine va_iald hx hb hK hP 13 0 rfl rfl (rl_in (n := 50) (by omega) (by omega)) d_m_ask_255 ?_
                      refine lv_topi (fun v148 ev148 => ?_)
                      refine lv_iconst (v := 1) hx hb d_m_ask_256 (by decide) ?_
                      refine lv_isub hx hb d_m_ask_257 ?_
                      refine lv_topi (fun v149 ev149 => ?_)
                      refine va_iast hx hb hK hP hD hS 13 0 rfl rfl (rl_in (n := 50) (by omega) (by omega)) d_m_ask_258 (fun H locs hP hD hS => ?_)
                      obtain ⟨F150, eF150⟩ : ∃ G, G = rl_st F143 12 v147.toNatClampNeg v149 := ⟨_, rfl⟩
                      have hP : va_P D rl_cl (rm_w a kI kZ F150) H := by rw [eF150]; exact hP
                      have hD : va_D A (rm_w a kI kZ F150) := by rw [eF150]; exact hD
                      obtain ⟨tF150, hRF150⟩ := rm_keep eF150 (by decide) (by decide) (by decide) hRF143
                      have w151 : F150 21 ((F13 27 5).toNatClampNeg) = r127 := by rw [eF150, rl_stne (by decide)]; exact w144
                      refine lv_iload hx hb d_m_ask_259 (lv_at hl 0 rfl) ?_
                      refine lv_iconst (v := 4) hx hb d_m_ask_261 (by decide) ?_
                      refine lv_icmp_ne (tgt := 275) hx hb d_m_ask_262 (by decide) (fun c152 => ?_) (fun c152 => ?_)
                      · have ic152 := rl_ine c152
                        simp only [rl_n4] at ic152
                        refine lv_iload hx hb d_m_ask_275 (lv_at hl 0 rfl) ?_
                        refine lv_if_ne (tgt := 292) hx hb d_m_ask_277 (by decide) (fun c153 => ?_) (fun c153 => ?_)
                        · have ic153 := rl_ine c153
                          simp only [rl_n0] at ic153
                          refine lv_aload_n hx hb d_m_ask_292 rfl (lv_at hl 2 rfl) ?_
                          refine lv_dup hx hb d_m_ask_293 rfl ?_
                          refine va_get (D := D) (ci := 5) (v := .int (F150 27 5)) (C := "RightsLimitModel") (T := fT_m) (N := 33) hx hb hG fi_m hown hK hP 0 rfl rfl 20 (by decide) (hG _ wd_503) (fun _ h9 => h9) rfl d_m_ask_294 ?_
                          refine lv_iconst (v := 1) hx hb d_m_ask_297 (by decide) ?_
                          refine lv_iadd hx hb d_m_ask_298 ?_
                          refine lv_topi (fun v154 ev154 => ?_)
                          have iv154 : v154.toInt = (F150 27 5).toInt + 1 := by rw [ev154]; exact rl_addk (by decide) (by omega) (by omega)
                          refine va_put (D := D) (ci := 5) (v := .int v154) (ty := .int) (C := "RightsLimitModel") (T := fT_m) (N := 33) hx hb hG fi_m fy_m fo_m fn_m hown hK hP hD hS 0 rfl rfl 20 (by decide) (hG _ wd_503) (fun _ h9 => h9) rfl (by decide +kernel) rfl rfl (Nat.le_of_ble_eq_true rfl) d_m_ask_299 (fun H locs hP hD hS => ?_)
                          obtain ⟨F155, eF155⟩ : ∃ G, G = rl_st F150 27 5 v154 := ⟨_, rfl⟩
                          have hP : va_P D rl_cl (rm_w a kI kZ F155) H := by rw [eF155]; exact hP
                          have hD : va_D A (rm_w a kI kZ F155) := by rw [eF155]; exact hD
                          obtain ⟨tF155, hRF155⟩ := rm_put5 eF155 hRF150
                          have w156 : F155 21 ((F13 27 5).toNatClampNeg) = r127 := by rw [eF155, rl_stne (by decide)]; exact w151
                          refine lv_iload hx hb d_m_ask_302 (lv_at hl 0 rfl) ?_
                          refine lv_if_ne (tgt := 315) hx hb d_m_ask_304 (by decide) (fun c157 => ?_) (fun c157 => ?_)
                          · have ic157 := rl_ine c157
                            simp only [rl_n0] at ic157
                            refine lv_iload hx hb d_m_ask_315 (lv_at hl 1 rfl) ?_
                            exact W.iret (v := (F13 27 5)) hx hb hr (fun t ht hW => ⟨⟨(F13 27 5), F155, rfl, ⟨hRF155, (show (F155 27 2).toInt = (F 27 2).toInt ∧ (F155 27 3).toInt = (F 27 3).toInt ∧ (F155 27 4).toInt = (F 27 4).toInt ∧ 0 ≤ (F155 27 5).toInt ∧ (F155 27 5).toInt ≤ 300 by omega)⟩, ⟨by rw [ht]; exact hP, hD⟩⟩, hS.F ht⟩) hS.2.2 d_m_ask_317
                          · have ic157 := rl_ieq c157
                            simp only [rl_n0] at ic157
                            exfalso; omega
                        · have ic153 := rl_ieq c153
                          simp only [rl_n0] at ic153
                          exfalso; omega
                      · have ic152 := rl_ieq c152
                        simp only [rl_n4] at ic152
                        exfalso; omega
                  · have ic135 := rl_ieq c135
                    simp only [rl_n0] at ic135
                    exfalso; omega
                · have ic131 := rl_ieq c131
                  simp only [rl_n5] at ic131
                  exfalso; omega
            · have ic12 := rl_ieq c12
              simp only [rl_n300] at ic12
              refine lv_bipush (v := (-4)) hx hb d_m_ask_68 (by decide) ?_
              exact W.iret (v := (-4)) hx hb hr (fun t ht hW => ⟨⟨(-4), F1, rfl, ⟨hRF1, (show (F1 27 2).toInt = (F 27 2).toInt ∧ (F1 27 3).toInt = (F 27 3).toInt ∧ (F1 27 4).toInt = (F 27 4).toInt ∧ 0 ≤ (F1 27 5).toInt ∧ (F1 27 5).toInt ≤ 300 by have q9 := rl_nm4; omega)⟩, ⟨by rw [ht]; exact hP, hD⟩⟩, hS.F ht⟩) hS.2.2 d_m_ask_70
          · refine lv_if_ne (tgt := 58) hx hb d_m_ask_52 (by decide) (fun c9 => absurd c9 (by decide)) (fun _ => ?_)
            refine lv_bipush (v := (-2)) hx hb d_m_ask_55 (by decide) ?_
            exact W.iret (v := (-2)) hx hb hr (fun t ht hW => ⟨⟨(-2), F1, rfl, ⟨hRF1, (show (F1 27 2).toInt = (F 27 2).toInt ∧ (F1 27 3).toInt = (F 27 3).toInt ∧ (F1 27 4).toInt = (F 27 4).toInt ∧ 0 ≤ (F1 27 5).toInt ∧ (F1 27 5).toInt ≤ 300 by have q9 := rl_nm2; omega)⟩, ⟨by rw [ht]; exact hP, hD⟩⟩, hS.F ht⟩) hS.2.2 d_m_ask_57
        · refine lv_if_eq (tgt := 55) hx hb d_m_ask_43 (by decide) (fun _ => ?_) (fun c9 => absurd c9 (by decide))
          refine lv_bipush (v := (-2)) hx hb d_m_ask_55 (by decide) ?_
          exact W.iret (v := (-2)) hx hb hr (fun t ht hW => ⟨⟨(-2), F1, rfl, ⟨hRF1, (show (F1 27 2).toInt = (F 27 2).toInt ∧ (F1 27 3).toInt = (F 27 3).toInt ∧ (F1 27 4).toInt = (F 27 4).toInt ∧ 0 ≤ (F1 27 5).toInt ∧ (F1 27 5).toInt ≤ 300 by have q9 := rl_nm2; omega)⟩, ⟨by rw [ht]; exact hP, hD⟩⟩, hS.F ht⟩) hS.2.2 d_m_ask_57
      · refine lv_if_eq (tgt := 55) hx hb d_m_ask_31 (by decide) (fun _ => ?_) (fun c9 => absurd c9 (by decide))
        refine lv_bipush (v := (-2)) hx hb d_m_ask_55 (by decide) ?_
        exact W.iret (v := (-2)) hx hb hr (fun t ht hW => ⟨⟨(-2), F1, rfl, ⟨hRF1, (show (F1 27 2).toInt = (F 27 2).toInt ∧ (F1 27 3).toInt = (F 27 3).toInt ∧ (F1 27 4).toInt = (F 27 4).toInt ∧ 0 ≤ (F1 27 5).toInt ∧ (F1 27 5).toInt ≤ 300 by have q9 := rl_nm2; omega)⟩, ⟨by rw [ht]; exact hP, hD⟩⟩, hS.F ht⟩) hS.2.2 d_m_ask_57
    · refine lv_if_eq (tgt := 55) hx hb d_m_ask_22 (by decide) (fun _ => ?_) (fun c9 => absurd c9 (by decide))
      refine lv_bipush (v := (-2)) hx hb d_m_ask_55 (by decide) ?_
      exact W.iret (v := (-2)) hx hb hr (fun t ht hW => ⟨⟨(-2), F1, rfl, ⟨hRF1, (show (F1 27 2).toInt = (F 27 2).toInt ∧ (F1 27 3).toInt = (F 27 3).toInt ∧ (F1 27 4).toInt = (F 27 4).toInt ∧ 0 ≤ (F1 27 5).toInt ∧ (F1 27 5).toInt ≤ 300 by have q9 := rl_nm2; omega)⟩, ⟨by rw [ht]; exact hP, hD⟩⟩, hS.F ht⟩) hS.2.2 d_m_ask_57
  · refine lv_if_ne (tgt := 15) hx hb d_m_ask_10 (by decide) (fun c9 => absurd c9 (by decide)) (fun _ => ?_)
    refine lv_iconst (v := (-1)) hx hb d_m_ask_13 (by decide) ?_
    exact W.iret (v := (-1)) hx hb hr (fun t ht hW => ⟨⟨(-1), F1, rfl, ⟨hRF1, (show (F1 27 2).toInt = (F 27 2).toInt ∧ (F1 27 3).toInt = (F 27 3).toInt ∧ (F1 27 4).toInt = (F 27 4).toInt ∧ 0 ≤ (F1 27 5).toInt ∧ (F1 27 5).toInt ≤ 300 by have q9 := rl_nm1; omega)⟩, ⟨by rw [ht]; exact hP, hD⟩⟩, hS.F ht⟩) hS.2.2 d_m_ask_14
set_option maxHeartbeats 4000000 in
set_option maxRecDepth 100000 in
theorem k_m_why (l : Launch) (D : va_G) (a : Nat → Nat) (kI kZ : ClassId) (F : Nat → Nat → Int32) (hI : rm_I F) (sz : Nat) : rl_Ci (S := Nat → Nat → Int32) l ⟨"RightsLimitModel", "why", "()I"⟩ (Cond.code ⟨"RightsLimitModel", "why", "()I"⟩ prog_7_method_16_code 1 (some .int) :: rl_G) { frames := 0, cells := 0, slots := 0, locals := 0 } D rl_cl (rl_tys kI kZ) [] [.ref (a 0)] (rm_w a kI kZ F) sz (fun (r : Int32) (F' : Nat → Nat → Int32) => rm_R F' ∧ ((F' 27 2).toInt = (F 27 2).toInt ∧ (F' 27 3).toInt = (F 27 3).toInt ∧ (F' 27 4).toInt = (F 27 4).toInt ∧ (F' 27 5).toInt = (F 27 5).toInt)) (fun F' => rm_w a kI kZ F') 0 0 := by
  refine rl_meti (cc := prog_7_method_16_code) (maxL := 1) (ret := (some .int)) (by decide) rfl (Nat.le_of_ble_eq_true rfl) ?_
  intro p e s m below meth c A ls hx hb hr hml hown hts hlocks hnm hP hK hD hS hA hN hl
  have hown : s.vm.findClass "RightsLimitModel" = some m.cls := hown
  have hG : ∀ x ∈ rl_G, x.before _ s = true := fun x h => hts x (List.mem_cons_of_mem _ h)
  have hl : lv_has ls 1 [(0, .ref (a 0))] := hl
  obtain ⟨hcnt, hR⟩ := id hI
  refine lv_aload_n hx hb d_m_why_0 rfl (lv_at hl 0 rfl) ?_
  refine lv_iconst (v := 0) hx hb d_m_why_1 (by decide) ?_
  refine va_put (D := D) (ci := 5) (v := .int 0) (ty := .int) (C := "RightsLimitModel") (T := fT_m) (N := 33) hx hb hG fi_m fy_m fo_m fn_m hown hK hP hD hS 0 rfl rfl 0 (by decide) (hG _ wd_483) (fun _ h9 => h9) rfl (by decide +kernel) rfl rfl (Nat.le_of_ble_eq_true rfl) d_m_why_2 (fun H locs hP hD hS => ?_)
  obtain ⟨F1, eF1⟩ : ∃ G, G = rl_st F 27 0 0 := ⟨_, rfl⟩
  have hP : va_P D rl_cl (rm_w a kI kZ F1) H := by rw [eF1]; exact hP
  have hD : va_D A (rm_w a kI kZ F1) := by rw [eF1]; exact hD
  obtain ⟨tF1, hRF1⟩ := rm_putS eF1 (by decide) (by decide) (by decide) (by decide) hR
  refine lv_aload_n hx hb d_m_why_5 rfl (lv_at hl 0 rfl) ?_
  refine va_get (D := D) (ci := 5) (v := .int (F1 27 6)) (C := "RightsLimitModel") (T := fT_m) (N := 33) hx hb hG fi_m hown hK hP 0 rfl rfl 32 (by decide) (hG _ wd_515) (fun _ h9 => h9) rfl d_m_why_6 ?_
  exact W.iret (v := (F1 27 6)) hx hb hr (fun t ht hW => ⟨⟨(F1 27 6), F1, rfl, ⟨hRF1, (show (F1 27 2).toInt = (F 27 2).toInt ∧ (F1 27 3).toInt = (F 27 3).toInt ∧ (F1 27 4).toInt = (F 27 4).toInt ∧ (F1 27 5).toInt = (F 27 5).toInt by omega)⟩, ⟨by rw [ht]; exact hP, hD⟩⟩, hS.F ht⟩) hS.2.2 d_m_why_9
set_option maxHeartbeats 4000000 in
set_option maxRecDepth 100000 in
theorem k_m_give (l : Launch) (D : va_G) (a : Nat → Nat) (kI kZ : ClassId) (F : Nat → Nat → Int32) (jn jg jb : Int32) (hI : rm_I F) (sz : Nat) : rl_Ci (S := Nat → Nat → Int32) l ⟨"RightsLimitModel", "give", "(IIZ)I"⟩ (Cond.code ⟨"RightsLimitModel", "give", "(IIZ)I"⟩ prog_7_method_17_code 4 (some .int) :: rl_G) { frames := 1, cells := 0, slots := 0, locals := 22 } D rl_cl (rl_tys kI kZ) [] [.ref (a 0), .int jn, .int jg, .int jb] (rm_w a kI kZ F) sz (fun (r : Int32) (F' : Nat → Nat → Int32) => rm_R F' ∧ (((((0 ≤ jn.toInt ∧ jn.toInt ≤ 99) ∧ (1 ≤ jg.toInt ∧ jg.toInt ≤ 9)) ∧ r.toInt = 1) ∨ (¬ ((0 ≤ jn.toInt ∧ jn.toInt ≤ 99) ∧ (1 ≤ jg.toInt ∧ jg.toInt ≤ 9)) ∧ r.toInt = -2)) ∧ (F' 27 2).toInt = (F 27 2).toInt ∧ (F' 27 3).toInt = (F 27 3).toInt ∧ (F' 27 4).toInt = (F 27 4).toInt ∧ (F' 27 5).toInt = (F 27 5).toInt)) (fun F' => rm_w a kI kZ F') 0 0 := by
  refine rl_meti (cc := prog_7_method_17_code) (maxL := 4) (ret := (some .int)) (by decide) rfl (Nat.le_of_ble_eq_true rfl) ?_
  intro p e s m below meth c A ls hx hb hr hml hown hts hlocks hnm hP hK hD hS hA hN hl
  have hown : s.vm.findClass "RightsLimitModel" = some m.cls := hown
  have hG : ∀ x ∈ rl_G, x.before _ s = true := fun x h => hts x (List.mem_cons_of_mem _ h)
  have hl : lv_has ls 4 [(0, .ref (a 0)), (1, .int jn), (2, .int jg), (3, .int jb)] := hl
  obtain ⟨hcnt, hR⟩ := id hI
  refine lv_aload_n hx hb d_m_give_0 rfl (lv_at hl 0 rfl) ?_
  refine lv_iconst (v := 0) hx hb d_m_give_1 (by decide) ?_
  refine va_put (D := D) (ci := 5) (v := .int 0) (ty := .int) (C := "RightsLimitModel") (T := fT_m) (N := 33) hx hb hG fi_m fy_m fo_m fn_m hown hK hP hD hS 0 rfl rfl 0 (by decide) (hG _ wd_483) (fun _ h9 => h9) rfl (by decide +kernel) rfl rfl (Nat.le_of_ble_eq_true rfl) d_m_give_2 (fun H locs hP hD hS => ?_)
  obtain ⟨F1, eF1⟩ : ∃ G, G = rl_st F 27 0 0 := ⟨_, rfl⟩
  have hP : va_P D rl_cl (rm_w a kI kZ F1) H := by rw [eF1]; exact hP
  have hD : va_D A (rm_w a kI kZ F1) := by rw [eF1]; exact hD
  obtain ⟨tF1, hRF1⟩ := rm_putS eF1 (by decide) (by decide) (by decide) (by decide) hR
  refine lv_iload_n hx hb d_m_give_5 rfl (lv_at hl 1 rfl) ?_
  refine lv_iconst (v := 0) hx hb d_m_give_6 (by decide) ?_
  refine lv_bipush (v := 99) hx hb d_m_give_7 (by decide) ?_
  refine rl_callr hS (va_runS (As := [.int jn, .int 0, .int 99]) (rest := []) ⟨hx, hb, hml, hown, hG⟩ (k_m_in l D a kI kZ jn 0 99 _) (cwS 3 hG (rl_gS wd_587 wd_588 wd_19 wd_589) rfl rfl rfl (by decide +kernel) ⟨Nat.le_of_ble_eq_true rfl, Nat.le_of_ble_eq_true rfl⟩) (rl_BR.pre rl_nw0 rl_P0 hK hN) rfl rfl hl.1 rfl (lv_room (Nat.le_of_ble_eq_true rfl)) d_m_give_9 ⟨Nat.le_of_ble_eq_true rfl, Nat.le_of_ble_eq_true rfl⟩) (fun r2 locs hw hS => ?_)
  try simp only [rl_n0, rl_n99] at hw
  rcases hw with ⟨rfl, h3⟩ | ⟨rfl, h3⟩
  · refine lv_if_eq (tgt := 25) hx hb d_m_give_12 (by decide) (fun c9 => absurd c9 (by decide)) (fun _ => ?_)
    refine lv_iload_n hx hb d_m_give_15 rfl (lv_at hl 2 rfl) ?_
    refine lv_iconst (v := 1) hx hb d_m_give_16 (by decide) ?_
    refine lv_bipush (v := 9) hx hb d_m_give_17 (by decide) ?_
    refine rl_callr hS (va_runS (As := [.int jg, .int 1, .int 9]) (rest := []) ⟨hx, hb, hml, hown, hG⟩ (k_m_in l D a kI kZ jg 1 9 _) (cwS 3 hG (rl_gS wd_587 wd_588 wd_19 wd_589) rfl rfl rfl (by decide +kernel) ⟨Nat.le_of_ble_eq_true rfl, Nat.le_of_ble_eq_true rfl⟩) (rl_BR.pre rl_nw0 rl_P0 hK hN) rfl rfl hl.1 rfl (lv_room (Nat.le_of_ble_eq_true rfl)) d_m_give_19 ⟨Nat.le_of_ble_eq_true rfl, Nat.le_of_ble_eq_true rfl⟩) (fun r4 locs hw hS => ?_)
    try simp only [rl_n1, rl_n9] at hw
    rcases hw with ⟨rfl, h5⟩ | ⟨rfl, h5⟩
    · refine lv_if_ne (tgt := 28) hx hb d_m_give_22 (by decide) (fun _ => ?_) (fun c9 => absurd c9 (by decide))
      refine lv_aload_n hx hb d_m_give_28 rfl (lv_at hl 0 rfl) ?_
      refine va_get (D := D) (ci := 5) (v := .ref (a 6)) (C := "RightsLimitModel") (T := fT_m) (N := 33) hx hb hG fi_m hown hK hP 0 rfl rfl 8 (by decide) (hG _ wd_491) (fun _ h9 => h9) rfl d_m_give_29 ?_
      refine lv_bipush (v := 10) hx hb d_m_give_32 (by decide) ?_
      refine lv_iload_n hx hb d_m_give_34 rfl (lv_at hl 1 rfl) ?_
      refine lv_imul hx hb d_m_give_35 ?_
      refine lv_topi (fun v6 ev6 => ?_)
      have iv6 : v6.toInt = 10 * jn.toInt := by rw [ev6]; exact rl_mulk (by decide) (by omega) (by omega)
      refine lv_iload_n hx hb d_m_give_36 rfl (lv_at hl 2 rfl) ?_
      refine lv_iadd hx hb d_m_give_37 ?_
      refine lv_topi (fun v7 ev7 => ?_)
      have iv7 : v7.toInt = v6.toInt + jg.toInt := by rw [ev7]; exact rl_addv (by omega) (by omega)
      refine lv_iload_n hx hb d_m_give_38 rfl (lv_at hl 3 rfl) ?_
      refine va_zast hx hb hK hP hD hS 6 1 rfl rfl (rl_in (n := 1000) (by omega) (by omega)) d_m_give_39 (fun H locs hP hD hS => ?_)
      obtain ⟨F8, eF8⟩ : ∃ G, G = rl_st F1 5 v7.toNatClampNeg (vp_nar .boolean jb) := ⟨_, rfl⟩
      have hP : va_P D rl_cl (rm_w a kI kZ F8) H := by rw [eF8]; exact hP
      have hD : va_D A (rm_w a kI kZ F8) := by rw [eF8]; exact hD
      obtain ⟨tF8, hRF8⟩ := rm_keep eF8 (by decide) (by decide) (by decide) hRF1
      refine lv_iconst (v := 1) hx hb d_m_give_40 (by decide) ?_
      exact W.iret (v := 1) hx hb hr (fun t ht hW => ⟨⟨1, F8, rfl, ⟨hRF8, (show ((((0 ≤ jn.toInt ∧ jn.toInt ≤ 99) ∧ (1 ≤ jg.toInt ∧ jg.toInt ≤ 9)) ∧ (1 : Int32).toInt = 1) ∨ (¬ ((0 ≤ jn.toInt ∧ jn.toInt ≤ 99) ∧ (1 ≤ jg.toInt ∧ jg.toInt ≤ 9)) ∧ (1 : Int32).toInt = -2)) ∧ (F8 27 2).toInt = (F 27 2).toInt ∧ (F8 27 3).toInt = (F 27 3).toInt ∧ (F8 27 4).toInt = (F 27 4).toInt ∧ (F8 27 5).toInt = (F 27 5).toInt by have q9 := rl_n1; omega)⟩, ⟨by rw [ht]; exact hP, hD⟩⟩, hS.F ht⟩) hS.2.2 d_m_give_41
    · refine lv_if_ne (tgt := 28) hx hb d_m_give_22 (by decide) (fun c9 => absurd c9 (by decide)) (fun _ => ?_)
      refine lv_bipush (v := (-2)) hx hb d_m_give_25 (by decide) ?_
      exact W.iret (v := (-2)) hx hb hr (fun t ht hW => ⟨⟨(-2), F1, rfl, ⟨hRF1, (show ((((0 ≤ jn.toInt ∧ jn.toInt ≤ 99) ∧ (1 ≤ jg.toInt ∧ jg.toInt ≤ 9)) ∧ ((-2) : Int32).toInt = 1) ∨ (¬ ((0 ≤ jn.toInt ∧ jn.toInt ≤ 99) ∧ (1 ≤ jg.toInt ∧ jg.toInt ≤ 9)) ∧ ((-2) : Int32).toInt = -2)) ∧ (F1 27 2).toInt = (F 27 2).toInt ∧ (F1 27 3).toInt = (F 27 3).toInt ∧ (F1 27 4).toInt = (F 27 4).toInt ∧ (F1 27 5).toInt = (F 27 5).toInt by have q9 := rl_nm2; omega)⟩, ⟨by rw [ht]; exact hP, hD⟩⟩, hS.F ht⟩) hS.2.2 d_m_give_27
  · refine lv_if_eq (tgt := 25) hx hb d_m_give_12 (by decide) (fun _ => ?_) (fun c9 => absurd c9 (by decide))
    refine lv_bipush (v := (-2)) hx hb d_m_give_25 (by decide) ?_
    exact W.iret (v := (-2)) hx hb hr (fun t ht hW => ⟨⟨(-2), F1, rfl, ⟨hRF1, (show ((((0 ≤ jn.toInt ∧ jn.toInt ≤ 99) ∧ (1 ≤ jg.toInt ∧ jg.toInt ≤ 9)) ∧ ((-2) : Int32).toInt = 1) ∨ (¬ ((0 ≤ jn.toInt ∧ jn.toInt ≤ 99) ∧ (1 ≤ jg.toInt ∧ jg.toInt ≤ 9)) ∧ ((-2) : Int32).toInt = -2)) ∧ (F1 27 2).toInt = (F 27 2).toInt ∧ (F1 27 3).toInt = (F 27 3).toInt ∧ (F1 27 4).toInt = (F 27 4).toInt ∧ (F1 27 5).toInt = (F 27 5).toInt by have q9 := rl_nm2; omega)⟩, ⟨by rw [ht]; exact hP, hD⟩⟩, hS.F ht⟩) hS.2.2 d_m_give_27
set_option maxHeartbeats 4000000 in
set_option maxRecDepth 100000 in
theorem k_m_right (l : Launch) (D : va_G) (a : Nat → Nat) (kI kZ : ClassId) (F : Nat → Nat → Int32) (jt jg : Int32) (hI : rm_I F) (sz : Nat) : rl_Ci (S := Nat → Nat → Int32) l ⟨"RightsLimitModel", "right", "(II)I"⟩ (Cond.code ⟨"RightsLimitModel", "right", "(II)I"⟩ prog_7_method_18_code 3 (some .int) :: rl_G) { frames := 2, cells := 0, slots := 0, locals := 43 } D rl_cl (rl_tys kI kZ) [] [.ref (a 0), .int jt, .int jg] (rm_w a kI kZ F) sz (fun (r : Int32) (F' : Nat → Nat → Int32) => rm_R F' ∧ ((((0 ≤ jt.toInt ∧ jt.toInt < (F 27 2).toInt) ∧ (0 ≤ jg.toInt ∧ jg.toInt ≤ 9) ∧ r.toInt = 1) ∨ ((0 ≤ jt.toInt ∧ jt.toInt < (F 27 2).toInt) ∧ ¬ (0 ≤ jg.toInt ∧ jg.toInt ≤ 9) ∧ r.toInt = -2) ∨ (¬ (0 ≤ jt.toInt ∧ jt.toInt < (F 27 2).toInt) ∧ r.toInt = -1)) ∧ (F' 27 2).toInt = (F 27 2).toInt ∧ (F' 27 3).toInt = (F 27 3).toInt ∧ (F' 27 4).toInt = (F 27 4).toInt ∧ (F' 27 5).toInt = (F 27 5).toInt)) (fun F' => rm_w a kI kZ F') 0 0 := by
  refine rl_meti (cc := prog_7_method_18_code) (maxL := 3) (ret := (some .int)) (by decide) rfl (Nat.le_of_ble_eq_true rfl) ?_
  intro p e s m below meth c A ls hx hb hr hml hown hts hlocks hnm hP hK hD hS hA hN hl
  have hown : s.vm.findClass "RightsLimitModel" = some m.cls := hown
  have hG : ∀ x ∈ rl_G, x.before _ s = true := fun x h => hts x (List.mem_cons_of_mem _ h)
  have hl : lv_has ls 3 [(0, .ref (a 0)), (1, .int jt), (2, .int jg)] := hl
  obtain ⟨hcnt, hR⟩ := id hI
  refine lv_aload_n hx hb d_m_right_0 rfl (lv_at hl 0 rfl) ?_
  refine lv_iconst (v := 0) hx hb d_m_right_1 (by decide) ?_
  refine va_put (D := D) (ci := 5) (v := .int 0) (ty := .int) (C := "RightsLimitModel") (T := fT_m) (N := 33) hx hb hG fi_m fy_m fo_m fn_m hown hK hP hD hS 0 rfl rfl 0 (by decide) (hG _ wd_483) (fun _ h9 => h9) rfl (by decide +kernel) rfl rfl (Nat.le_of_ble_eq_true rfl) d_m_right_2 (fun H locs hP hD hS => ?_)
  obtain ⟨F1, eF1⟩ : ∃ G, G = rl_st F 27 0 0 := ⟨_, rfl⟩
  have hP : va_P D rl_cl (rm_w a kI kZ F1) H := by rw [eF1]; exact hP
  have hD : va_D A (rm_w a kI kZ F1) := by rw [eF1]; exact hD
  obtain ⟨tF1, hRF1⟩ := rm_putS eF1 (by decide) (by decide) (by decide) (by decide) hR
  refine lv_aload_n hx hb d_m_right_5 rfl (lv_at hl 0 rfl) ?_
  refine lv_iload_n hx hb d_m_right_6 rfl (lv_at hl 1 rfl) ?_
  have hpre := rl_BR.pre (av := .ref (a 0) :: [.int jt]) rl_nw0 hP hK hN
  refine rl_callr hS (va_runV (As := [.int jt]) (rest := []) ⟨hx, hb, hml, hown, hG⟩ (k_m_isTitle l D a kI kZ F1 jt ⟨by omega, hRF1⟩ _) (cwV 1 hG (rl_gV wd_594 wd_596 wd_6 wd_19 wd_597) rfl rfl rfl (by decide +kernel) ⟨Nat.le_of_ble_eq_true rfl, Nat.le_of_ble_eq_true rfl⟩) ⟨hpre.1, (va_recv hK hP (ci := 5) (q0 := 0) rfl rfl), hpre.2⟩ rfl rfl hl.1 rfl (lv_room (Nat.le_of_ble_eq_true rfl)) d_m_right_7 ⟨Nat.le_of_ble_eq_true rfl, Nat.le_of_ble_eq_true rfl⟩) (fun r2 locs hw hS => ?_)
  rcases hw with ⟨rfl, h3⟩ | ⟨rfl, h3⟩
  · refine lv_if_ne (tgt := 15) hx hb d_m_right_10 (by decide) (fun _ => ?_) (fun c9 => absurd c9 (by decide))
    refine lv_iload_n hx hb d_m_right_15 rfl (lv_at hl 2 rfl) ?_
    refine lv_iconst (v := 0) hx hb d_m_right_16 (by decide) ?_
    refine lv_bipush (v := 9) hx hb d_m_right_17 (by decide) ?_
    refine rl_callr hS (va_runS (As := [.int jg, .int 0, .int 9]) (rest := []) ⟨hx, hb, hml, hown, hG⟩ (k_m_in l D a kI kZ jg 0 9 _) (cwS 3 hG (rl_gS wd_587 wd_588 wd_19 wd_589) rfl rfl rfl (by decide +kernel) ⟨Nat.le_of_ble_eq_true rfl, Nat.le_of_ble_eq_true rfl⟩) (rl_BR.pre rl_nw0 rl_P0 hK hN) rfl rfl hl.1 rfl (lv_room (Nat.le_of_ble_eq_true rfl)) d_m_right_19 ⟨Nat.le_of_ble_eq_true rfl, Nat.le_of_ble_eq_true rfl⟩) (fun r4 locs hw hS => ?_)
    try simp only [rl_n0, rl_n9] at hw
    rcases hw with ⟨rfl, h5⟩ | ⟨rfl, h5⟩
    · refine lv_if_ne (tgt := 28) hx hb d_m_right_22 (by decide) (fun _ => ?_) (fun c9 => absurd c9 (by decide))
      refine lv_aload_n hx hb d_m_right_28 rfl (lv_at hl 0 rfl) ?_
      refine va_get (D := D) (ci := 5) (v := .ref (a 3)) (C := "RightsLimitModel") (T := fT_m) (N := 33) hx hb hG fi_m hown hK hP 0 rfl rfl 5 (by decide) (hG _ wd_488) (fun _ h9 => h9) rfl d_m_right_29 ?_
      refine lv_iload_n hx hb d_m_right_32 rfl (lv_at hl 1 rfl) ?_
      refine lv_iload_n hx hb d_m_right_33 rfl (lv_at hl 2 rfl) ?_
      refine va_iast hx hb hK hP hD hS 3 0 rfl rfl (rl_in (n := 50) (by omega) (by omega)) d_m_right_34 (fun H locs hP hD hS => ?_)
      obtain ⟨F6, eF6⟩ : ∃ G, G = rl_st F1 2 jt.toNatClampNeg jg := ⟨_, rfl⟩
      have hP : va_P D rl_cl (rm_w a kI kZ F6) H := by rw [eF6]; exact hP
      have hD : va_D A (rm_w a kI kZ F6) := by rw [eF6]; exact hD
      obtain ⟨tF6, hRF6⟩ := rm_keep2 eF6 (⟨by omega, by omega⟩) hRF1
      refine lv_iconst (v := 1) hx hb d_m_right_35 (by decide) ?_
      exact W.iret (v := 1) hx hb hr (fun t ht hW => ⟨⟨1, F6, rfl, ⟨hRF6, (show (((0 ≤ jt.toInt ∧ jt.toInt < (F 27 2).toInt) ∧ (0 ≤ jg.toInt ∧ jg.toInt ≤ 9) ∧ (1 : Int32).toInt = 1) ∨ ((0 ≤ jt.toInt ∧ jt.toInt < (F 27 2).toInt) ∧ ¬ (0 ≤ jg.toInt ∧ jg.toInt ≤ 9) ∧ (1 : Int32).toInt = -2) ∨ (¬ (0 ≤ jt.toInt ∧ jt.toInt < (F 27 2).toInt) ∧ (1 : Int32).toInt = -1)) ∧ (F6 27 2).toInt = (F 27 2).toInt ∧ (F6 27 3).toInt = (F 27 3).toInt ∧ (F6 27 4).toInt = (F 27 4).toInt ∧ (F6 27 5).toInt = (F 27 5).toInt by have q9 := rl_n1; omega)⟩, ⟨by rw [ht]; exact hP, hD⟩⟩, hS.F ht⟩) hS.2.2 d_m_right_36
    · refine lv_if_ne (tgt := 28) hx hb d_m_right_22 (by decide) (fun c9 => absurd c9 (by decide)) (fun _ => ?_)
      refine lv_bipush (v := (-2)) hx hb d_m_right_25 (by decide) ?_
      exact W.iret (v := (-2)) hx hb hr (fun t ht hW => ⟨⟨(-2), F1, rfl, ⟨hRF1, (show (((0 ≤ jt.toInt ∧ jt.toInt < (F 27 2).toInt) ∧ (0 ≤ jg.toInt ∧ jg.toInt ≤ 9) ∧ ((-2) : Int32).toInt = 1) ∨ ((0 ≤ jt.toInt ∧ jt.toInt < (F 27 2).toInt) ∧ ¬ (0 ≤ jg.toInt ∧ jg.toInt ≤ 9) ∧ ((-2) : Int32).toInt = -2) ∨ (¬ (0 ≤ jt.toInt ∧ jt.toInt < (F 27 2).toInt) ∧ ((-2) : Int32).toInt = -1)) ∧ (F1 27 2).toInt = (F 27 2).toInt ∧ (F1 27 3).toInt = (F 27 3).toInt ∧ (F1 27 4).toInt = (F 27 4).toInt ∧ (F1 27 5).toInt = (F 27 5).toInt by have q9 := rl_nm2; omega)⟩, ⟨by rw [ht]; exact hP, hD⟩⟩, hS.F ht⟩) hS.2.2 d_m_right_27
  · refine lv_if_ne (tgt := 15) hx hb d_m_right_10 (by decide) (fun c9 => absurd c9 (by decide)) (fun _ => ?_)
    refine lv_iconst (v := (-1)) hx hb d_m_right_13 (by decide) ?_
    exact W.iret (v := (-1)) hx hb hr (fun t ht hW => ⟨⟨(-1), F1, rfl, ⟨hRF1, (show (((0 ≤ jt.toInt ∧ jt.toInt < (F 27 2).toInt) ∧ (0 ≤ jg.toInt ∧ jg.toInt ≤ 9) ∧ ((-1) : Int32).toInt = 1) ∨ ((0 ≤ jt.toInt ∧ jt.toInt < (F 27 2).toInt) ∧ ¬ (0 ≤ jg.toInt ∧ jg.toInt ≤ 9) ∧ ((-1) : Int32).toInt = -2) ∨ (¬ (0 ≤ jt.toInt ∧ jt.toInt < (F 27 2).toInt) ∧ ((-1) : Int32).toInt = -1)) ∧ (F1 27 2).toInt = (F 27 2).toInt ∧ (F1 27 3).toInt = (F 27 3).toInt ∧ (F1 27 4).toInt = (F 27 4).toInt ∧ (F1 27 5).toInt = (F 27 5).toInt by have q9 := rl_nm1; omega)⟩, ⟨by rw [ht]; exact hP, hD⟩⟩, hS.F ht⟩) hS.2.2 d_m_right_14
set_option maxHeartbeats 4000000 in
set_option maxRecDepth 100000 in
theorem k_m_waive (l : Launch) (D : va_G) (a : Nat → Nat) (kI kZ : ClassId) (F : Nat → Nat → Int32) (jt jn : Int32) (hI : rm_I F) (sz : Nat) : rl_Ci (S := Nat → Nat → Int32) l ⟨"RightsLimitModel", "waive", "(II)I"⟩ (Cond.code ⟨"RightsLimitModel", "waive", "(II)I"⟩ prog_7_method_19_code 3 (some .int) :: rl_G) { frames := 2, cells := 0, slots := 0, locals := 43 } D rl_cl (rl_tys kI kZ) [] [.ref (a 0), .int jt, .int jn] (rm_w a kI kZ F) sz (fun (r : Int32) (F' : Nat → Nat → Int32) => rm_R F' ∧ ((F' 27 2).toInt = (F 27 2).toInt ∧ (F' 27 3).toInt = (F 27 3).toInt ∧ (F' 27 4).toInt = (F 27 4).toInt ∧ 0 ≤ (F' 27 5).toInt ∧ (F' 27 5).toInt ≤ 300)) (fun F' => rm_w a kI kZ F') 0 0 := by
  refine rl_meti (cc := prog_7_method_19_code) (maxL := 3) (ret := (some .int)) (by decide) rfl (Nat.le_of_ble_eq_true rfl) ?_
  intro p e s m below meth c A ls hx hb hr hml hown hts hlocks hnm hP hK hD hS hA hN hl
  have hown : s.vm.findClass "RightsLimitModel" = some m.cls := hown
  have hG : ∀ x ∈ rl_G, x.before _ s = true := fun x h => hts x (List.mem_cons_of_mem _ h)
  have hl : lv_has ls 3 [(0, .ref (a 0)), (1, .int jt), (2, .int jn)] := hl
  obtain ⟨hcnt, hR⟩ := id hI
  refine lv_aload_n hx hb d_m_waive_0 rfl (lv_at hl 0 rfl) ?_
  refine lv_iconst (v := 0) hx hb d_m_waive_1 (by decide) ?_
  refine va_put (D := D) (ci := 5) (v := .int 0) (ty := .int) (C := "RightsLimitModel") (T := fT_m) (N := 33) hx hb hG fi_m fy_m fo_m fn_m hown hK hP hD hS 0 rfl rfl 0 (by decide) (hG _ wd_483) (fun _ h9 => h9) rfl (by decide +kernel) rfl rfl (Nat.le_of_ble_eq_true rfl) d_m_waive_2 (fun H locs hP hD hS => ?_)
  obtain ⟨F1, eF1⟩ : ∃ G, G = rl_st F 27 0 0 := ⟨_, rfl⟩
  have hP : va_P D rl_cl (rm_w a kI kZ F1) H := by rw [eF1]; exact hP
  have hD : va_D A (rm_w a kI kZ F1) := by rw [eF1]; exact hD
  obtain ⟨tF1, hRF1⟩ := rm_putS eF1 (by decide) (by decide) (by decide) (by decide) hR
  refine lv_aload_n hx hb d_m_waive_5 rfl (lv_at hl 0 rfl) ?_
  refine lv_iload_n hx hb d_m_waive_6 rfl (lv_at hl 1 rfl) ?_
  have hpre := rl_BR.pre (av := .ref (a 0) :: [.int jt]) rl_nw0 hP hK hN
  refine rl_callr hS (va_runV (As := [.int jt]) (rest := []) ⟨hx, hb, hml, hown, hG⟩ (k_m_isTitle l D a kI kZ F1 jt ⟨by omega, hRF1⟩ _) (cwV 1 hG (rl_gV wd_594 wd_596 wd_6 wd_19 wd_597) rfl rfl rfl (by decide +kernel) ⟨Nat.le_of_ble_eq_true rfl, Nat.le_of_ble_eq_true rfl⟩) ⟨hpre.1, (va_recv hK hP (ci := 5) (q0 := 0) rfl rfl), hpre.2⟩ rfl rfl hl.1 rfl (lv_room (Nat.le_of_ble_eq_true rfl)) d_m_waive_7 ⟨Nat.le_of_ble_eq_true rfl, Nat.le_of_ble_eq_true rfl⟩) (fun r2 locs hw hS => ?_)
  rcases hw with ⟨rfl, h3⟩ | ⟨rfl, h3⟩
  · refine lv_if_ne (tgt := 15) hx hb d_m_waive_10 (by decide) (fun _ => ?_) (fun c9 => absurd c9 (by decide))
    refine lv_iload_n hx hb d_m_waive_15 rfl (lv_at hl 2 rfl) ?_
    refine lv_iconst (v := 0) hx hb d_m_waive_16 (by decide) ?_
    refine lv_bipush (v := 99) hx hb d_m_waive_17 (by decide) ?_
    refine rl_callr hS (va_runS (As := [.int jn, .int 0, .int 99]) (rest := []) ⟨hx, hb, hml, hown, hG⟩ (k_m_in l D a kI kZ jn 0 99 _) (cwS 3 hG (rl_gS wd_587 wd_588 wd_19 wd_589) rfl rfl rfl (by decide +kernel) ⟨Nat.le_of_ble_eq_true rfl, Nat.le_of_ble_eq_true rfl⟩) (rl_BR.pre rl_nw0 rl_P0 hK hN) rfl rfl hl.1 rfl (lv_room (Nat.le_of_ble_eq_true rfl)) d_m_waive_19 ⟨Nat.le_of_ble_eq_true rfl, Nat.le_of_ble_eq_true rfl⟩) (fun r4 locs hw hS => ?_)
    try simp only [rl_n0, rl_n99] at hw
    rcases hw with ⟨rfl, h5⟩ | ⟨rfl, h5⟩
    · refine lv_if_ne (tgt := 28) hx hb d_m_waive_22 (by decide) (fun _ => ?_) (fun c9 => absurd c9 (by decide))
      refine lv_aload_n hx hb d_m_waive_28 rfl (lv_at hl 0 rfl) ?_
      refine va_get (D := D) (ci := 5) (v := .ref (a 3)) (C := "RightsLimitModel") (T := fT_m) (N := 33) hx hb hG fi_m hown hK hP 0 rfl rfl 5 (by decide) (hG _ wd_488) (fun _ h9 => h9) rfl d_m_waive_29 ?_
      refine lv_iload_n hx hb d_m_waive_32 rfl (lv_at hl 1 rfl) ?_
      refine va_iald hx hb hK hP 3 0 rfl rfl (rl_in (n := 50) (by omega) (by omega)) d_m_waive_33 ?_
      refine lv_topi (fun v6 ev6 => ?_)
      have iv6 : 0 ≤ v6.toInt ∧ v6.toInt < 10 := by rw [ev6]; exact hRF1.2 _
      refine lv_if_eq (tgt := 56) hx hb d_m_waive_34 (by decide) (fun c7 => ?_) (fun c7 => ?_)
      · have ic7 := rl_ieq c7
        simp only [rl_n0] at ic7
        refine lv_bipush (v := (-3)) hx hb d_m_waive_56 (by decide) ?_
        exact W.iret (v := (-3)) hx hb hr (fun t ht hW => ⟨⟨(-3), F1, rfl, ⟨hRF1, (show (F1 27 2).toInt = (F 27 2).toInt ∧ (F1 27 3).toInt = (F 27 3).toInt ∧ (F1 27 4).toInt = (F 27 4).toInt ∧ 0 ≤ (F1 27 5).toInt ∧ (F1 27 5).toInt ≤ 300 by have q9 := rl_nm3; omega)⟩, ⟨by rw [ht]; exact hP, hD⟩⟩, hS.F ht⟩) hS.2.2 d_m_waive_58
      · have ic7 := rl_ine c7
        simp only [rl_n0] at ic7
        refine lv_aload_n hx hb d_m_waive_37 rfl (lv_at hl 0 rfl) ?_
        refine va_get (D := D) (ci := 5) (v := .ref (a 6)) (C := "RightsLimitModel") (T := fT_m) (N := 33) hx hb hG fi_m hown hK hP 0 rfl rfl 8 (by decide) (hG _ wd_491) (fun _ h9 => h9) rfl d_m_waive_38 ?_
        refine lv_bipush (v := 10) hx hb d_m_waive_41 (by decide) ?_
        refine lv_iload_n hx hb d_m_waive_43 rfl (lv_at hl 2 rfl) ?_
        refine lv_imul hx hb d_m_waive_44 ?_
        refine lv_topi (fun v8 ev8 => ?_)
        have iv8 : v8.toInt = 10 * jn.toInt := by rw [ev8]; exact rl_mulk (by decide) (by omega) (by omega)
        refine lv_aload_n hx hb d_m_waive_45 rfl (lv_at hl 0 rfl) ?_
        refine va_get (D := D) (ci := 5) (v := .ref (a 3)) (C := "RightsLimitModel") (T := fT_m) (N := 33) hx hb hG fi_m hown hK hP 0 rfl rfl 5 (by decide) (hG _ wd_488) (fun _ h9 => h9) rfl d_m_waive_46 ?_
        refine lv_iload_n hx hb d_m_waive_49 rfl (lv_at hl 1 rfl) ?_
        refine va_iald hx hb hK hP 3 0 rfl rfl (rl_in (n := 50) (by omega) (by omega)) d_m_waive_50 ?_
        refine lv_topi (fun v9 ev9 => ?_)
        have iv9 : 0 ≤ v9.toInt ∧ v9.toInt < 10 := by rw [ev9]; exact hRF1.2 _
        refine lv_iadd hx hb d_m_waive_51 ?_
        refine lv_topi (fun v10 ev10 => ?_)
        have iv10 : v10.toInt = v8.toInt + v9.toInt := by rw [ev10]; exact rl_addv (by omega) (by omega)
        refine va_zald hx hb hK hP 6 1 rfl rfl (rl_in (n := 1000) (by omega) (by omega)) d_m_waive_52 ?_
        refine lv_topi (fun v11 ev11 => ?_)
        refine lv_if_ne (tgt := 59) hx hb d_m_waive_53 (by decide) (fun c12 => ?_) (fun c12 => ?_)
        · have ic12 := rl_ine c12
          simp only [rl_n0] at ic12
          refine lv_aload_n hx hb d_m_waive_59 rfl (lv_at hl 0 rfl) ?_
          refine va_get (D := D) (ci := 5) (v := .ref (a 4)) (C := "RightsLimitModel") (T := fT_m) (N := 33) hx hb hG fi_m hown hK hP 0 rfl rfl 6 (by decide) (hG _ wd_489) (fun _ h9 => h9) rfl d_m_waive_60 ?_
          refine lv_iload_n hx hb d_m_waive_63 rfl (lv_at hl 1 rfl) ?_
          refine va_iald hx hb hK hP 4 0 rfl rfl (rl_in (n := 50) (by omega) (by omega)) d_m_waive_64 ?_
          refine lv_topi (fun v13 ev13 => ?_)
          refine lv_bipush (v := 20) hx hb d_m_waive_65 (by decide) ?_
          refine lv_icmp_ne (tgt := 73) hx hb d_m_waive_67 (by decide) (fun c14 => ?_) (fun c14 => ?_)
          · have ic14 := rl_ine c14
            simp only [rl_n20] at ic14
            refine lv_aload_n hx hb d_m_waive_73 rfl (lv_at hl 0 rfl) ?_
            refine va_get (D := D) (ci := 5) (v := .ref (a 4)) (C := "RightsLimitModel") (T := fT_m) (N := 33) hx hb hG fi_m hown hK hP 0 rfl rfl 6 (by decide) (hG _ wd_489) (fun _ h9 => h9) rfl d_m_waive_74 ?_
            refine lv_iload_n hx hb d_m_waive_77 rfl (lv_at hl 1 rfl) ?_
            refine lv_dup2_11 hx hb d_m_waive_78 rfl rfl ?_
            refine va_iald hx hb hK hP 4 0 rfl rfl (rl_in (n := 50) (by omega) (by omega)) d_m_waive_79 ?_
            refine lv_topi (fun v15 ev15 => ?_)
            refine lv_iconst (v := 1) hx hb d_m_waive_80 (by decide) ?_
            refine lv_iadd hx hb d_m_waive_81 ?_
            refine lv_topi (fun v16 ev16 => ?_)
            refine va_iast hx hb hK hP hD hS 4 0 rfl rfl (rl_in (n := 50) (by omega) (by omega)) d_m_waive_82 (fun H locs hP hD hS => ?_)
            obtain ⟨F17, eF17⟩ : ∃ G, G = rl_st F1 3 jt.toNatClampNeg v16 := ⟨_, rfl⟩
            have hP : va_P D rl_cl (rm_w a kI kZ F17) H := by rw [eF17]; exact hP
            have hD : va_D A (rm_w a kI kZ F17) := by rw [eF17]; exact hD
            obtain ⟨tF17, hRF17⟩ := rm_keep eF17 (by decide) (by decide) (by decide) hRF1
            refine lv_aload_n hx hb d_m_waive_83 rfl (lv_at hl 0 rfl) ?_
            refine va_get (D := D) (ci := 5) (v := .ref (a 4)) (C := "RightsLimitModel") (T := fT_m) (N := 33) hx hb hG fi_m hown hK hP 0 rfl rfl 6 (by decide) (hG _ wd_489) (fun _ h9 => h9) rfl d_m_waive_84 ?_
            refine lv_iload_n hx hb d_m_waive_87 rfl (lv_at hl 1 rfl) ?_
            refine va_iald hx hb hK hP 4 0 rfl rfl (rl_in (n := 50) (by omega) (by omega)) d_m_waive_88 ?_
            refine lv_topi (fun v18 ev18 => ?_)
            exact W.iret (v := v18) hx hb hr (fun t ht hW => ⟨⟨v18, F17, rfl, ⟨hRF17, (show (F17 27 2).toInt = (F 27 2).toInt ∧ (F17 27 3).toInt = (F 27 3).toInt ∧ (F17 27 4).toInt = (F 27 4).toInt ∧ 0 ≤ (F17 27 5).toInt ∧ (F17 27 5).toInt ≤ 300 by omega)⟩, ⟨by rw [ht]; exact hP, hD⟩⟩, hS.F ht⟩) hS.2.2 d_m_waive_89
          · have ic14 := rl_ieq c14
            simp only [rl_n20] at ic14
            refine lv_bipush (v := (-4)) hx hb d_m_waive_70 (by decide) ?_
            exact W.iret (v := (-4)) hx hb hr (fun t ht hW => ⟨⟨(-4), F1, rfl, ⟨hRF1, (show (F1 27 2).toInt = (F 27 2).toInt ∧ (F1 27 3).toInt = (F 27 3).toInt ∧ (F1 27 4).toInt = (F 27 4).toInt ∧ 0 ≤ (F1 27 5).toInt ∧ (F1 27 5).toInt ≤ 300 by have q9 := rl_nm4; omega)⟩, ⟨by rw [ht]; exact hP, hD⟩⟩, hS.F ht⟩) hS.2.2 d_m_waive_72
        · have ic12 := rl_ieq c12
          simp only [rl_n0] at ic12
          refine lv_bipush (v := (-3)) hx hb d_m_waive_56 (by decide) ?_
          exact W.iret (v := (-3)) hx hb hr (fun t ht hW => ⟨⟨(-3), F1, rfl, ⟨hRF1, (show (F1 27 2).toInt = (F 27 2).toInt ∧ (F1 27 3).toInt = (F 27 3).toInt ∧ (F1 27 4).toInt = (F 27 4).toInt ∧ 0 ≤ (F1 27 5).toInt ∧ (F1 27 5).toInt ≤ 300 by have q9 := rl_nm3; omega)⟩, ⟨by rw [ht]; exact hP, hD⟩⟩, hS.F ht⟩) hS.2.2 d_m_waive_58
    · refine lv_if_ne (tgt := 28) hx hb d_m_waive_22 (by decide) (fun c9 => absurd c9 (by decide)) (fun _ => ?_)
      refine lv_bipush (v := (-2)) hx hb d_m_waive_25 (by decide) ?_
      exact W.iret (v := (-2)) hx hb hr (fun t ht hW => ⟨⟨(-2), F1, rfl, ⟨hRF1, (show (F1 27 2).toInt = (F 27 2).toInt ∧ (F1 27 3).toInt = (F 27 3).toInt ∧ (F1 27 4).toInt = (F 27 4).toInt ∧ 0 ≤ (F1 27 5).toInt ∧ (F1 27 5).toInt ≤ 300 by have q9 := rl_nm2; omega)⟩, ⟨by rw [ht]; exact hP, hD⟩⟩, hS.F ht⟩) hS.2.2 d_m_waive_27
  · refine lv_if_ne (tgt := 15) hx hb d_m_waive_10 (by decide) (fun c9 => absurd c9 (by decide)) (fun _ => ?_)
    refine lv_iconst (v := (-1)) hx hb d_m_waive_13 (by decide) ?_
    exact W.iret (v := (-1)) hx hb hr (fun t ht hW => ⟨⟨(-1), F1, rfl, ⟨hRF1, (show (F1 27 2).toInt = (F 27 2).toInt ∧ (F1 27 3).toInt = (F 27 3).toInt ∧ (F1 27 4).toInt = (F 27 4).toInt ∧ 0 ≤ (F1 27 5).toInt ∧ (F1 27 5).toInt ≤ 300 by have q9 := rl_nm1; omega)⟩, ⟨by rw [ht]; exact hP, hD⟩⟩, hS.F ht⟩) hS.2.2 d_m_waive_14
set_option maxHeartbeats 4000000 in
set_option maxRecDepth 100000 in
theorem k_m_renew (l : Launch) (D : va_G) (a : Nat → Nat) (kI kZ : ClassId) (F : Nat → Nat → Int32) (jn jt : Int32) (hI : rm_I F) (sz : Nat) : rl_Ci (S := Nat → Nat → Int32) l ⟨"RightsLimitModel", "renew", "(II)I"⟩ (Cond.code ⟨"RightsLimitModel", "renew", "(II)I"⟩ prog_7_method_20_code 3 (some .int) :: rl_G) { frames := 2, cells := 0, slots := 0, locals := 43 } D rl_cl (rl_tys kI kZ) [] [.ref (a 0), .int jn, .int jt] (rm_w a kI kZ F) sz (fun (r : Int32) (F' : Nat → Nat → Int32) => rm_R F' ∧ ((F' 27 2).toInt = (F 27 2).toInt ∧ (F' 27 3).toInt = (F 27 3).toInt ∧ (F' 27 4).toInt = (F 27 4).toInt ∧ 0 ≤ (F' 27 5).toInt ∧ (F' 27 5).toInt ≤ 300)) (fun F' => rm_w a kI kZ F') 0 0 := by
  refine rl_meti (cc := prog_7_method_20_code) (maxL := 3) (ret := (some .int)) (by decide) rfl (Nat.le_of_ble_eq_true rfl) ?_
  intro p e s m below meth c A ls hx hb hr hml hown hts hlocks hnm hP hK hD hS hA hN hl
  have hown : s.vm.findClass "RightsLimitModel" = some m.cls := hown
  have hG : ∀ x ∈ rl_G, x.before _ s = true := fun x h => hts x (List.mem_cons_of_mem _ h)
  have hl : lv_has ls 3 [(0, .ref (a 0)), (1, .int jn), (2, .int jt)] := hl
  obtain ⟨hcnt, hR⟩ := id hI
  refine lv_aload_n hx hb d_m_renew_0 rfl (lv_at hl 0 rfl) ?_
  refine lv_iconst (v := 0) hx hb d_m_renew_1 (by decide) ?_
  refine va_put (D := D) (ci := 5) (v := .int 0) (ty := .int) (C := "RightsLimitModel") (T := fT_m) (N := 33) hx hb hG fi_m fy_m fo_m fn_m hown hK hP hD hS 0 rfl rfl 0 (by decide) (hG _ wd_483) (fun _ h9 => h9) rfl (by decide +kernel) rfl rfl (Nat.le_of_ble_eq_true rfl) d_m_renew_2 (fun H locs hP hD hS => ?_)
  obtain ⟨F1, eF1⟩ : ∃ G, G = rl_st F 27 0 0 := ⟨_, rfl⟩
  have hP : va_P D rl_cl (rm_w a kI kZ F1) H := by rw [eF1]; exact hP
  have hD : va_D A (rm_w a kI kZ F1) := by rw [eF1]; exact hD
  obtain ⟨tF1, hRF1⟩ := rm_putS eF1 (by decide) (by decide) (by decide) (by decide) hR
  refine lv_iload_n hx hb d_m_renew_5 rfl (lv_at hl 1 rfl) ?_
  refine lv_iconst (v := 0) hx hb d_m_renew_6 (by decide) ?_
  refine lv_aload_n hx hb d_m_renew_7 rfl (lv_at hl 0 rfl) ?_
  refine va_get (D := D) (ci := 5) (v := .int (F1 27 5)) (C := "RightsLimitModel") (T := fT_m) (N := 33) hx hb hG fi_m hown hK hP 0 rfl rfl 20 (by decide) (hG _ wd_503) (fun _ h9 => h9) rfl d_m_renew_8 ?_
  refine lv_iconst (v := 1) hx hb d_m_renew_11 (by decide) ?_
  refine lv_isub hx hb d_m_renew_12 ?_
  refine lv_topi (fun v2 ev2 => ?_)
  have iv2 : v2.toInt = (F1 27 5).toInt - 1 := by rw [ev2]; exact rl_subk (by decide) (by omega) (by omega)
  refine rl_callr hS (va_runS (As := [.int jn, .int 0, .int v2]) (rest := []) ⟨hx, hb, hml, hown, hG⟩ (k_m_in l D a kI kZ jn 0 v2 _) (cwS 3 hG (rl_gS wd_587 wd_588 wd_19 wd_589) rfl rfl rfl (by decide +kernel) ⟨Nat.le_of_ble_eq_true rfl, Nat.le_of_ble_eq_true rfl⟩) (rl_BR.pre rl_nw0 rl_P0 hK hN) rfl rfl hl.1 rfl (lv_room (Nat.le_of_ble_eq_true rfl)) d_m_renew_13 ⟨Nat.le_of_ble_eq_true rfl, Nat.le_of_ble_eq_true rfl⟩) (fun r3 locs hw hS => ?_)
  try simp only [rl_n0] at hw
  rcases hw with ⟨rfl, h4⟩ | ⟨rfl, h4⟩
  · refine lv_if_ne (tgt := 21) hx hb d_m_renew_16 (by decide) (fun _ => ?_) (fun c9 => absurd c9 (by decide))
    refine lv_aload_n hx hb d_m_renew_21 rfl (lv_at hl 0 rfl) ?_
    refine lv_iload_n hx hb d_m_renew_22 rfl (lv_at hl 2 rfl) ?_
    have hpre := rl_BR.pre (av := .ref (a 0) :: [.int jt]) rl_nw0 hP hK hN
    refine rl_callr hS (va_runV (As := [.int jt]) (rest := []) ⟨hx, hb, hml, hown, hG⟩ (k_m_isNow l D a kI kZ F1 jt ⟨by omega, hRF1⟩ _) (cwV 1 hG (rl_gV wd_615 wd_617 wd_7 wd_19 wd_618) rfl rfl rfl (by decide +kernel) ⟨Nat.le_of_ble_eq_true rfl, Nat.le_of_ble_eq_true rfl⟩) ⟨hpre.1, (va_recv hK hP (ci := 5) (q0 := 0) rfl rfl), hpre.2⟩ rfl rfl hl.1 rfl (lv_room (Nat.le_of_ble_eq_true rfl)) d_m_renew_23 ⟨Nat.le_of_ble_eq_true rfl, Nat.le_of_ble_eq_true rfl⟩) (fun r5 locs hw hS => ?_)
    rcases hw with ⟨rfl, h6⟩ | ⟨rfl, h6⟩
    · refine lv_if_ne (tgt := 32) hx hb d_m_renew_26 (by decide) (fun _ => ?_) (fun c9 => absurd c9 (by decide))
      refine lv_aload_n hx hb d_m_renew_32 rfl (lv_at hl 0 rfl) ?_
      refine va_get (D := D) (ci := 5) (v := .ref (a 21)) (C := "RightsLimitModel") (T := fT_m) (N := 33) hx hb hG fi_m hown hK hP 0 rfl rfl 26 (by decide) (hG _ wd_509) (fun _ h9 => h9) rfl d_m_renew_33 ?_
      refine lv_iload_n hx hb d_m_renew_36 rfl (lv_at hl 1 rfl) ?_
      refine va_iald hx hb hK hP 21 0 rfl rfl (rl_in (n := 300) (by omega) (by omega)) d_m_renew_37 ?_
      refine lv_topi (fun v7 ev7 => ?_)
      refine lv_if_eq (tgt := 70) hx hb d_m_renew_38 (by decide) (fun c8 => ?_) (fun c8 => ?_)
      · have ic8 := rl_ieq c8
        simp only [rl_n0] at ic8
        refine lv_bipush (v := (-3)) hx hb d_m_renew_70 (by decide) ?_
        exact W.iret (v := (-3)) hx hb hr (fun t ht hW => ⟨⟨(-3), F1, rfl, ⟨hRF1, (show (F1 27 2).toInt = (F 27 2).toInt ∧ (F1 27 3).toInt = (F 27 3).toInt ∧ (F1 27 4).toInt = (F 27 4).toInt ∧ 0 ≤ (F1 27 5).toInt ∧ (F1 27 5).toInt ≤ 300 by have q9 := rl_nm3; omega)⟩, ⟨by rw [ht]; exact hP, hD⟩⟩, hS.F ht⟩) hS.2.2 d_m_renew_72
      · have ic8 := rl_ine c8
        simp only [rl_n0] at ic8
        refine lv_aload_n hx hb d_m_renew_41 rfl (lv_at hl 0 rfl) ?_
        refine va_get (D := D) (ci := 5) (v := .ref (a 25)) (C := "RightsLimitModel") (T := fT_m) (N := 33) hx hb hG fi_m hown hK hP 0 rfl rfl 30 (by decide) (hG _ wd_513) (fun _ h9 => h9) rfl d_m_renew_42 ?_
        refine lv_iload_n hx hb d_m_renew_45 rfl (lv_at hl 1 rfl) ?_
        refine va_iald hx hb hK hP 25 0 rfl rfl (rl_in (n := 300) (by omega) (by omega)) d_m_renew_46 ?_
        refine lv_topi (fun v9 ev9 => ?_)
        refine lv_iconst (v := 2) hx hb d_m_renew_47 (by decide) ?_
        refine lv_icmp_eq (tgt := 70) hx hb d_m_renew_48 (by decide) (fun c10 => ?_) (fun c10 => ?_)
        · have ic10 := rl_ieq c10
          simp only [rl_n2] at ic10
          refine lv_bipush (v := (-3)) hx hb d_m_renew_70 (by decide) ?_
          exact W.iret (v := (-3)) hx hb hr (fun t ht hW => ⟨⟨(-3), F1, rfl, ⟨hRF1, (show (F1 27 2).toInt = (F 27 2).toInt ∧ (F1 27 3).toInt = (F 27 3).toInt ∧ (F1 27 4).toInt = (F 27 4).toInt ∧ 0 ≤ (F1 27 5).toInt ∧ (F1 27 5).toInt ≤ 300 by have q9 := rl_nm3; omega)⟩, ⟨by rw [ht]; exact hP, hD⟩⟩, hS.F ht⟩) hS.2.2 d_m_renew_72
        · have ic10 := rl_ine c10
          simp only [rl_n2] at ic10
          refine lv_aload_n hx hb d_m_renew_51 rfl (lv_at hl 0 rfl) ?_
          refine va_get (D := D) (ci := 5) (v := .ref (a 26)) (C := "RightsLimitModel") (T := fT_m) (N := 33) hx hb hG fi_m hown hK hP 0 rfl rfl 31 (by decide) (hG _ wd_514) (fun _ h9 => h9) rfl d_m_renew_52 ?_
          refine lv_iload_n hx hb d_m_renew_55 rfl (lv_at hl 1 rfl) ?_
          refine va_iald hx hb hK hP 26 0 rfl rfl (rl_in (n := 300) (by omega) (by omega)) d_m_renew_56 ?_
          refine lv_topi (fun v11 ev11 => ?_)
          refine lv_if_ge (tgt := 70) hx hb d_m_renew_57 (by decide) (fun c12 => ?_) (fun c12 => ?_)
          · have ic12 := rl_ile c12
            simp only [rl_n0] at ic12
            refine lv_bipush (v := (-3)) hx hb d_m_renew_70 (by decide) ?_
            exact W.iret (v := (-3)) hx hb hr (fun t ht hW => ⟨⟨(-3), F1, rfl, ⟨hRF1, (show (F1 27 2).toInt = (F 27 2).toInt ∧ (F1 27 3).toInt = (F 27 3).toInt ∧ (F1 27 4).toInt = (F 27 4).toInt ∧ 0 ≤ (F1 27 5).toInt ∧ (F1 27 5).toInt ≤ 300 by have q9 := rl_nm3; omega)⟩, ⟨by rw [ht]; exact hP, hD⟩⟩, hS.F ht⟩) hS.2.2 d_m_renew_72
          · have ic12 := rl_inle c12
            simp only [rl_n0] at ic12
            refine lv_iload_n hx hb d_m_renew_60 rfl (lv_at hl 2 rfl) ?_
            refine lv_aload_n hx hb d_m_renew_61 rfl (lv_at hl 0 rfl) ?_
            refine va_get (D := D) (ci := 5) (v := .ref (a 24)) (C := "RightsLimitModel") (T := fT_m) (N := 33) hx hb hG fi_m hown hK hP 0 rfl rfl 29 (by decide) (hG _ wd_512) (fun _ h9 => h9) rfl d_m_renew_62 ?_
            refine lv_iload_n hx hb d_m_renew_65 rfl (lv_at hl 1 rfl) ?_
            refine va_iald hx hb hK hP 24 0 rfl rfl (rl_in (n := 300) (by omega) (by omega)) d_m_renew_66 ?_
            refine lv_topi (fun v13 ev13 => ?_)
            refine lv_icmp_lt (tgt := 73) hx hb d_m_renew_67 (by decide) (fun c14 => ?_) (fun c14 => ?_)
            · have ic14 := rl_ilt c14
              refine lv_aload_n hx hb d_m_renew_73 rfl (lv_at hl 0 rfl) ?_
              refine lv_iload_n hx hb d_m_renew_74 rfl (lv_at hl 2 rfl) ?_
              refine va_put (D := D) (ci := 5) (v := .int jt) (ty := .int) (C := "RightsLimitModel") (T := fT_m) (N := 33) hx hb hG fi_m fy_m fo_m fn_m hown hK hP hD hS 0 rfl rfl 1 (by decide) (hG _ wd_484) (fun _ h9 => h9) rfl (by decide +kernel) rfl rfl (Nat.le_of_ble_eq_true rfl) d_m_renew_75 (fun H locs hP hD hS => ?_)
              obtain ⟨F15, eF15⟩ : ∃ G, G = rl_st F1 27 1 jt := ⟨_, rfl⟩
              have hP : va_P D rl_cl (rm_w a kI kZ F15) H := by rw [eF15]; exact hP
              have hD : va_D A (rm_w a kI kZ F15) := by rw [eF15]; exact hD
              obtain ⟨tF15, hRF15⟩ := rm_putS eF15 (by decide) (by decide) (by decide) (by decide) hRF1
              refine lv_aload_n hx hb d_m_renew_78 rfl (lv_at hl 0 rfl) ?_
              refine va_get (D := D) (ci := 5) (v := .ref (a 25)) (C := "RightsLimitModel") (T := fT_m) (N := 33) hx hb hG fi_m hown hK hP 0 rfl rfl 30 (by decide) (hG _ wd_513) (fun _ h9 => h9) rfl d_m_renew_79 ?_
              refine lv_iload_n hx hb d_m_renew_82 rfl (lv_at hl 1 rfl) ?_
              refine lv_dup2_11 hx hb d_m_renew_83 rfl rfl ?_
              refine va_iald hx hb hK hP 25 0 rfl rfl (rl_in (n := 300) (by omega) (by omega)) d_m_renew_84 ?_
              refine lv_topi (fun v16 ev16 => ?_)
              refine lv_iconst (v := 1) hx hb d_m_renew_85 (by decide) ?_
              refine lv_iadd hx hb d_m_renew_86 ?_
              refine lv_topi (fun v17 ev17 => ?_)
              refine va_iast hx hb hK hP hD hS 25 0 rfl rfl (rl_in (n := 300) (by omega) (by omega)) d_m_renew_87 (fun H locs hP hD hS => ?_)
              obtain ⟨F18, eF18⟩ : ∃ G, G = rl_st F15 24 jn.toNatClampNeg v17 := ⟨_, rfl⟩
              have hP : va_P D rl_cl (rm_w a kI kZ F18) H := by rw [eF18]; exact hP
              have hD : va_D A (rm_w a kI kZ F18) := by rw [eF18]; exact hD
              obtain ⟨tF18, hRF18⟩ := rm_keep eF18 (by decide) (by decide) (by decide) hRF15
              refine lv_aload_n hx hb d_m_renew_88 rfl (lv_at hl 0 rfl) ?_
              refine va_get (D := D) (ci := 5) (v := .ref (a 24)) (C := "RightsLimitModel") (T := fT_m) (N := 33) hx hb hG fi_m hown hK hP 0 rfl rfl 29 (by decide) (hG _ wd_512) (fun _ h9 => h9) rfl d_m_renew_89 ?_
              refine lv_iload_n hx hb d_m_renew_92 rfl (lv_at hl 1 rfl) ?_
              refine lv_dup2_11 hx hb d_m_renew_93 rfl rfl ?_
              refine va_iald hx hb hK hP 24 0 rfl rfl (rl_in (n := 300) (by omega) (by omega)) d_m_renew_94 ?_
              refine lv_topi (fun v19 ev19 => ?_)
              refine lv_ldc (v := 2592000) hx hb hown (hG _ wd_636) d_m_renew_95 ?_
              refine lv_iadd hx hb d_m_renew_97 ?_
              refine lv_topi (fun v20 ev20 => ?_)
              refine va_iast hx hb hK hP hD hS 24 0 rfl rfl (rl_in (n := 300) (by omega) (by omega)) d_m_renew_98 (fun H locs hP hD hS => ?_)
              obtain ⟨F21, eF21⟩ : ∃ G, G = rl_st F18 23 jn.toNatClampNeg v20 := ⟨_, rfl⟩
              have hP : va_P D rl_cl (rm_w a kI kZ F21) H := by rw [eF21]; exact hP
              have hD : va_D A (rm_w a kI kZ F21) := by rw [eF21]; exact hD
              obtain ⟨tF21, hRF21⟩ := rm_keep eF21 (by decide) (by decide) (by decide) hRF18
              refine lv_aload_n hx hb d_m_renew_99 rfl (lv_at hl 0 rfl) ?_
              refine va_get (D := D) (ci := 5) (v := .ref (a 24)) (C := "RightsLimitModel") (T := fT_m) (N := 33) hx hb hG fi_m hown hK hP 0 rfl rfl 29 (by decide) (hG _ wd_512) (fun _ h9 => h9) rfl d_m_renew_100 ?_
              refine lv_iload_n hx hb d_m_renew_103 rfl (lv_at hl 1 rfl) ?_
              refine va_iald hx hb hK hP 24 0 rfl rfl (rl_in (n := 300) (by omega) (by omega)) d_m_renew_104 ?_
              refine lv_topi (fun v22 ev22 => ?_)
              exact W.iret (v := v22) hx hb hr (fun t ht hW => ⟨⟨v22, F21, rfl, ⟨hRF21, (show (F21 27 2).toInt = (F 27 2).toInt ∧ (F21 27 3).toInt = (F 27 3).toInt ∧ (F21 27 4).toInt = (F 27 4).toInt ∧ 0 ≤ (F21 27 5).toInt ∧ (F21 27 5).toInt ≤ 300 by omega)⟩, ⟨by rw [ht]; exact hP, hD⟩⟩, hS.F ht⟩) hS.2.2 d_m_renew_105
            · have ic14 := rl_inlt c14
              refine lv_bipush (v := (-3)) hx hb d_m_renew_70 (by decide) ?_
              exact W.iret (v := (-3)) hx hb hr (fun t ht hW => ⟨⟨(-3), F1, rfl, ⟨hRF1, (show (F1 27 2).toInt = (F 27 2).toInt ∧ (F1 27 3).toInt = (F 27 3).toInt ∧ (F1 27 4).toInt = (F 27 4).toInt ∧ 0 ≤ (F1 27 5).toInt ∧ (F1 27 5).toInt ≤ 300 by have q9 := rl_nm3; omega)⟩, ⟨by rw [ht]; exact hP, hD⟩⟩, hS.F ht⟩) hS.2.2 d_m_renew_72
    · refine lv_if_ne (tgt := 32) hx hb d_m_renew_26 (by decide) (fun c9 => absurd c9 (by decide)) (fun _ => ?_)
      refine lv_bipush (v := (-2)) hx hb d_m_renew_29 (by decide) ?_
      exact W.iret (v := (-2)) hx hb hr (fun t ht hW => ⟨⟨(-2), F1, rfl, ⟨hRF1, (show (F1 27 2).toInt = (F 27 2).toInt ∧ (F1 27 3).toInt = (F 27 3).toInt ∧ (F1 27 4).toInt = (F 27 4).toInt ∧ 0 ≤ (F1 27 5).toInt ∧ (F1 27 5).toInt ≤ 300 by have q9 := rl_nm2; omega)⟩, ⟨by rw [ht]; exact hP, hD⟩⟩, hS.F ht⟩) hS.2.2 d_m_renew_31
  · refine lv_if_ne (tgt := 21) hx hb d_m_renew_16 (by decide) (fun c9 => absurd c9 (by decide)) (fun _ => ?_)
    refine lv_iconst (v := (-1)) hx hb d_m_renew_19 (by decide) ?_
    exact W.iret (v := (-1)) hx hb hr (fun t ht hW => ⟨⟨(-1), F1, rfl, ⟨hRF1, (show (F1 27 2).toInt = (F 27 2).toInt ∧ (F1 27 3).toInt = (F 27 3).toInt ∧ (F1 27 4).toInt = (F 27 4).toInt ∧ 0 ≤ (F1 27 5).toInt ∧ (F1 27 5).toInt ≤ 300 by have q9 := rl_nm1; omega)⟩, ⟨by rw [ht]; exact hP, hD⟩⟩, hS.F ht⟩) hS.2.2 d_m_renew_20
set_option maxHeartbeats 4000000 in
set_option maxRecDepth 100000 in
theorem k_m_delete (l : Launch) (D : va_G) (a : Nat → Nat) (kI kZ : ClassId) (F : Nat → Nat → Int32) (jn jt : Int32) (hI : rm_I F) (sz : Nat) : rl_Ci (S := Nat → Nat → Int32) l ⟨"RightsLimitModel", "delete", "(II)I"⟩ (Cond.code ⟨"RightsLimitModel", "delete", "(II)I"⟩ prog_7_method_21_code 3 (some .int) :: rl_G) { frames := 2, cells := 0, slots := 0, locals := 43 } D rl_cl (rl_tys kI kZ) [] [.ref (a 0), .int jn, .int jt] (rm_w a kI kZ F) sz (fun (r : Int32) (F' : Nat → Nat → Int32) => rm_R F' ∧ ((F' 27 2).toInt = (F 27 2).toInt ∧ (F' 27 3).toInt = (F 27 3).toInt ∧ (F' 27 4).toInt = (F 27 4).toInt ∧ 0 ≤ (F' 27 5).toInt ∧ (F' 27 5).toInt ≤ 300)) (fun F' => rm_w a kI kZ F') 0 0 := by
  refine rl_meti (cc := prog_7_method_21_code) (maxL := 3) (ret := (some .int)) (by decide) rfl (Nat.le_of_ble_eq_true rfl) ?_
  intro p e s m below meth c A ls hx hb hr hml hown hts hlocks hnm hP hK hD hS hA hN hl
  have hown : s.vm.findClass "RightsLimitModel" = some m.cls := hown
  have hG : ∀ x ∈ rl_G, x.before _ s = true := fun x h => hts x (List.mem_cons_of_mem _ h)
  have hl : lv_has ls 3 [(0, .ref (a 0)), (1, .int jn), (2, .int jt)] := hl
  obtain ⟨hcnt, hR⟩ := id hI
  refine lv_aload_n hx hb d_m_delete_0 rfl (lv_at hl 0 rfl) ?_
  refine lv_iconst (v := 0) hx hb d_m_delete_1 (by decide) ?_
  refine va_put (D := D) (ci := 5) (v := .int 0) (ty := .int) (C := "RightsLimitModel") (T := fT_m) (N := 33) hx hb hG fi_m fy_m fo_m fn_m hown hK hP hD hS 0 rfl rfl 0 (by decide) (hG _ wd_483) (fun _ h9 => h9) rfl (by decide +kernel) rfl rfl (Nat.le_of_ble_eq_true rfl) d_m_delete_2 (fun H locs hP hD hS => ?_)
  obtain ⟨F1, eF1⟩ : ∃ G, G = rl_st F 27 0 0 := ⟨_, rfl⟩
  have hP : va_P D rl_cl (rm_w a kI kZ F1) H := by rw [eF1]; exact hP
  have hD : va_D A (rm_w a kI kZ F1) := by rw [eF1]; exact hD
  obtain ⟨tF1, hRF1⟩ := rm_putS eF1 (by decide) (by decide) (by decide) (by decide) hR
  refine lv_iload_n hx hb d_m_delete_5 rfl (lv_at hl 1 rfl) ?_
  refine lv_iconst (v := 0) hx hb d_m_delete_6 (by decide) ?_
  refine lv_aload_n hx hb d_m_delete_7 rfl (lv_at hl 0 rfl) ?_
  refine va_get (D := D) (ci := 5) (v := .int (F1 27 5)) (C := "RightsLimitModel") (T := fT_m) (N := 33) hx hb hG fi_m hown hK hP 0 rfl rfl 20 (by decide) (hG _ wd_503) (fun _ h9 => h9) rfl d_m_delete_8 ?_
  refine lv_iconst (v := 1) hx hb d_m_delete_11 (by decide) ?_
  refine lv_isub hx hb d_m_delete_12 ?_
  refine lv_topi (fun v2 ev2 => ?_)
  have iv2 : v2.toInt = (F1 27 5).toInt - 1 := by rw [ev2]; exact rl_subk (by decide) (by omega) (by omega)
  refine rl_callr hS (va_runS (As := [.int jn, .int 0, .int v2]) (rest := []) ⟨hx, hb, hml, hown, hG⟩ (k_m_in l D a kI kZ jn 0 v2 _) (cwS 3 hG (rl_gS wd_587 wd_588 wd_19 wd_589) rfl rfl rfl (by decide +kernel) ⟨Nat.le_of_ble_eq_true rfl, Nat.le_of_ble_eq_true rfl⟩) (rl_BR.pre rl_nw0 rl_P0 hK hN) rfl rfl hl.1 rfl (lv_room (Nat.le_of_ble_eq_true rfl)) d_m_delete_13 ⟨Nat.le_of_ble_eq_true rfl, Nat.le_of_ble_eq_true rfl⟩) (fun r3 locs hw hS => ?_)
  try simp only [rl_n0] at hw
  rcases hw with ⟨rfl, h4⟩ | ⟨rfl, h4⟩
  · refine lv_if_ne (tgt := 21) hx hb d_m_delete_16 (by decide) (fun _ => ?_) (fun c9 => absurd c9 (by decide))
    refine lv_aload_n hx hb d_m_delete_21 rfl (lv_at hl 0 rfl) ?_
    refine lv_iload_n hx hb d_m_delete_22 rfl (lv_at hl 2 rfl) ?_
    have hpre := rl_BR.pre (av := .ref (a 0) :: [.int jt]) rl_nw0 hP hK hN
    refine rl_callr hS (va_runV (As := [.int jt]) (rest := []) ⟨hx, hb, hml, hown, hG⟩ (k_m_isNow l D a kI kZ F1 jt ⟨by omega, hRF1⟩ _) (cwV 1 hG (rl_gV wd_615 wd_617 wd_7 wd_19 wd_618) rfl rfl rfl (by decide +kernel) ⟨Nat.le_of_ble_eq_true rfl, Nat.le_of_ble_eq_true rfl⟩) ⟨hpre.1, (va_recv hK hP (ci := 5) (q0 := 0) rfl rfl), hpre.2⟩ rfl rfl hl.1 rfl (lv_room (Nat.le_of_ble_eq_true rfl)) d_m_delete_23 ⟨Nat.le_of_ble_eq_true rfl, Nat.le_of_ble_eq_true rfl⟩) (fun r5 locs hw hS => ?_)
    rcases hw with ⟨rfl, h6⟩ | ⟨rfl, h6⟩
    · refine lv_if_ne (tgt := 32) hx hb d_m_delete_26 (by decide) (fun _ => ?_) (fun c9 => absurd c9 (by decide))
      refine lv_aload_n hx hb d_m_delete_32 rfl (lv_at hl 0 rfl) ?_
      refine va_get (D := D) (ci := 5) (v := .ref (a 21)) (C := "RightsLimitModel") (T := fT_m) (N := 33) hx hb hG fi_m hown hK hP 0 rfl rfl 26 (by decide) (hG _ wd_509) (fun _ h9 => h9) rfl d_m_delete_33 ?_
      refine lv_iload_n hx hb d_m_delete_36 rfl (lv_at hl 1 rfl) ?_
      refine va_iald hx hb hK hP 21 0 rfl rfl (rl_in (n := 300) (by omega) (by omega)) d_m_delete_37 ?_
      refine lv_topi (fun v7 ev7 => ?_)
      refine lv_if_eq (tgt := 50) hx hb d_m_delete_38 (by decide) (fun c8 => ?_) (fun c8 => ?_)
      · have ic8 := rl_ieq c8
        simp only [rl_n0] at ic8
        refine lv_bipush (v := (-3)) hx hb d_m_delete_50 (by decide) ?_
        exact W.iret (v := (-3)) hx hb hr (fun t ht hW => ⟨⟨(-3), F1, rfl, ⟨hRF1, (show (F1 27 2).toInt = (F 27 2).toInt ∧ (F1 27 3).toInt = (F 27 3).toInt ∧ (F1 27 4).toInt = (F 27 4).toInt ∧ 0 ≤ (F1 27 5).toInt ∧ (F1 27 5).toInt ≤ 300 by have q9 := rl_nm3; omega)⟩, ⟨by rw [ht]; exact hP, hD⟩⟩, hS.F ht⟩) hS.2.2 d_m_delete_52
      · have ic8 := rl_ine c8
        simp only [rl_n0] at ic8
        refine lv_aload_n hx hb d_m_delete_41 rfl (lv_at hl 0 rfl) ?_
        refine va_get (D := D) (ci := 5) (v := .ref (a 26)) (C := "RightsLimitModel") (T := fT_m) (N := 33) hx hb hG fi_m hown hK hP 0 rfl rfl 31 (by decide) (hG _ wd_514) (fun _ h9 => h9) rfl d_m_delete_42 ?_
        refine lv_iload_n hx hb d_m_delete_45 rfl (lv_at hl 1 rfl) ?_
        refine va_iald hx hb hK hP 26 0 rfl rfl (rl_in (n := 300) (by omega) (by omega)) d_m_delete_46 ?_
        refine lv_topi (fun v9 ev9 => ?_)
        refine lv_if_lt (tgt := 53) hx hb d_m_delete_47 (by decide) (fun c10 => ?_) (fun c10 => ?_)
        · have ic10 := rl_ilt c10
          simp only [rl_n0] at ic10
          refine lv_aload_n hx hb d_m_delete_53 rfl (lv_at hl 0 rfl) ?_
          refine lv_iload_n hx hb d_m_delete_54 rfl (lv_at hl 2 rfl) ?_
          refine va_put (D := D) (ci := 5) (v := .int jt) (ty := .int) (C := "RightsLimitModel") (T := fT_m) (N := 33) hx hb hG fi_m fy_m fo_m fn_m hown hK hP hD hS 0 rfl rfl 1 (by decide) (hG _ wd_484) (fun _ h9 => h9) rfl (by decide +kernel) rfl rfl (Nat.le_of_ble_eq_true rfl) d_m_delete_55 (fun H locs hP hD hS => ?_)
          obtain ⟨F11, eF11⟩ : ∃ G, G = rl_st F1 27 1 jt := ⟨_, rfl⟩
          have hP : va_P D rl_cl (rm_w a kI kZ F11) H := by rw [eF11]; exact hP
          have hD : va_D A (rm_w a kI kZ F11) := by rw [eF11]; exact hD
          obtain ⟨tF11, hRF11⟩ := rm_putS eF11 (by decide) (by decide) (by decide) (by decide) hRF1
          refine lv_aload_n hx hb d_m_delete_58 rfl (lv_at hl 0 rfl) ?_
          refine va_get (D := D) (ci := 5) (v := .ref (a 26)) (C := "RightsLimitModel") (T := fT_m) (N := 33) hx hb hG fi_m hown hK hP 0 rfl rfl 31 (by decide) (hG _ wd_514) (fun _ h9 => h9) rfl d_m_delete_59 ?_
          refine lv_iload_n hx hb d_m_delete_62 rfl (lv_at hl 1 rfl) ?_
          refine lv_iload_n hx hb d_m_delete_63 rfl (lv_at hl 2 rfl) ?_
          refine va_iast hx hb hK hP hD hS 26 0 rfl rfl (rl_in (n := 300) (by omega) (by omega)) d_m_delete_64 (fun H locs hP hD hS => ?_)
          obtain ⟨F12, eF12⟩ : ∃ G, G = rl_st F11 25 jn.toNatClampNeg jt := ⟨_, rfl⟩
          have hP : va_P D rl_cl (rm_w a kI kZ F12) H := by rw [eF12]; exact hP
          have hD : va_D A (rm_w a kI kZ F12) := by rw [eF12]; exact hD
          obtain ⟨tF12, hRF12⟩ := rm_keep eF12 (by decide) (by decide) (by decide) hRF11
          refine lv_iload_n hx hb d_m_delete_65 rfl (lv_at hl 2 rfl) ?_
          refine lv_aload_n hx hb d_m_delete_66 rfl (lv_at hl 0 rfl) ?_
          refine va_get (D := D) (ci := 5) (v := .ref (a 24)) (C := "RightsLimitModel") (T := fT_m) (N := 33) hx hb hG fi_m hown hK hP 0 rfl rfl 29 (by decide) (hG _ wd_512) (fun _ h9 => h9) rfl d_m_delete_67 ?_
          refine lv_iload_n hx hb d_m_delete_70 rfl (lv_at hl 1 rfl) ?_
          refine va_iald hx hb hK hP 24 0 rfl rfl (rl_in (n := 300) (by omega) (by omega)) d_m_delete_71 ?_
          refine lv_topi (fun v13 ev13 => ?_)
          refine lv_icmp_lt (tgt := 79) hx hb d_m_delete_72 (by decide) (fun c14 => ?_) (fun c14 => ?_)
          · have ic14 := rl_ilt c14
            refine lv_iconst (v := 1) hx hb d_m_delete_79 (by decide) ?_
            exact W.iret (v := 1) hx hb hr (fun t ht hW => ⟨⟨1, F12, rfl, ⟨hRF12, (show (F12 27 2).toInt = (F 27 2).toInt ∧ (F12 27 3).toInt = (F 27 3).toInt ∧ (F12 27 4).toInt = (F 27 4).toInt ∧ 0 ≤ (F12 27 5).toInt ∧ (F12 27 5).toInt ≤ 300 by have q9 := rl_n1; omega)⟩, ⟨by rw [ht]; exact hP, hD⟩⟩, hS.F ht⟩) hS.2.2 d_m_delete_80
          · have ic14 := rl_inlt c14
            refine lv_iconst (v := 0) hx hb d_m_delete_75 (by decide) ?_
            refine lv_goto (tgt := 80) hx hb d_m_delete_76 (by decide) ?_
            exact W.iret (v := 0) hx hb hr (fun t ht hW => ⟨⟨0, F12, rfl, ⟨hRF12, (show (F12 27 2).toInt = (F 27 2).toInt ∧ (F12 27 3).toInt = (F 27 3).toInt ∧ (F12 27 4).toInt = (F 27 4).toInt ∧ 0 ≤ (F12 27 5).toInt ∧ (F12 27 5).toInt ≤ 300 by have q9 := rl_n0; omega)⟩, ⟨by rw [ht]; exact hP, hD⟩⟩, hS.F ht⟩) hS.2.2 d_m_delete_80
        · have ic10 := rl_inlt c10
          simp only [rl_n0] at ic10
          refine lv_bipush (v := (-3)) hx hb d_m_delete_50 (by decide) ?_
          exact W.iret (v := (-3)) hx hb hr (fun t ht hW => ⟨⟨(-3), F1, rfl, ⟨hRF1, (show (F1 27 2).toInt = (F 27 2).toInt ∧ (F1 27 3).toInt = (F 27 3).toInt ∧ (F1 27 4).toInt = (F 27 4).toInt ∧ 0 ≤ (F1 27 5).toInt ∧ (F1 27 5).toInt ≤ 300 by have q9 := rl_nm3; omega)⟩, ⟨by rw [ht]; exact hP, hD⟩⟩, hS.F ht⟩) hS.2.2 d_m_delete_52
    · refine lv_if_ne (tgt := 32) hx hb d_m_delete_26 (by decide) (fun c9 => absurd c9 (by decide)) (fun _ => ?_)
      refine lv_bipush (v := (-2)) hx hb d_m_delete_29 (by decide) ?_
      exact W.iret (v := (-2)) hx hb hr (fun t ht hW => ⟨⟨(-2), F1, rfl, ⟨hRF1, (show (F1 27 2).toInt = (F 27 2).toInt ∧ (F1 27 3).toInt = (F 27 3).toInt ∧ (F1 27 4).toInt = (F 27 4).toInt ∧ 0 ≤ (F1 27 5).toInt ∧ (F1 27 5).toInt ≤ 300 by have q9 := rl_nm2; omega)⟩, ⟨by rw [ht]; exact hP, hD⟩⟩, hS.F ht⟩) hS.2.2 d_m_delete_31
  · refine lv_if_ne (tgt := 21) hx hb d_m_delete_16 (by decide) (fun c9 => absurd c9 (by decide)) (fun _ => ?_)
    refine lv_iconst (v := (-1)) hx hb d_m_delete_19 (by decide) ?_
    exact W.iret (v := (-1)) hx hb hr (fun t ht hW => ⟨⟨(-1), F1, rfl, ⟨hRF1, (show (F1 27 2).toInt = (F 27 2).toInt ∧ (F1 27 3).toInt = (F 27 3).toInt ∧ (F1 27 4).toInt = (F 27 4).toInt ∧ 0 ≤ (F1 27 5).toInt ∧ (F1 27 5).toInt ≤ 300 by have q9 := rl_nm1; omega)⟩, ⟨by rw [ht]; exact hP, hD⟩⟩, hS.F ht⟩) hS.2.2 d_m_delete_20
set_option maxHeartbeats 4000000 in
set_option maxRecDepth 100000 in
theorem k_m_counted (l : Launch) (D : va_G) (a : Nat → Nat) (kI kZ : ClassId) (F : Nat → Nat → Int32) (jt jk jd ju : Int32) (hI : rm_I F) (sz : Nat) : rl_Ci (S := Nat → Nat → Int32) l ⟨"RightsLimitModel", "counted", "(IIII)I"⟩ (Cond.code ⟨"RightsLimitModel", "counted", "(IIII)I"⟩ prog_7_method_22_code 5 (some .int) :: rl_G) { frames := 2, cells := 0, slots := 0, locals := 43 } D rl_cl (rl_tys kI kZ) [] [.ref (a 0), .int jt, .int jk, .int jd, .int ju] (rm_w a kI kZ F) sz (fun (r : Int32) (F' : Nat → Nat → Int32) => rm_R F' ∧ ((F' 27 2).toInt = (F 27 2).toInt ∧ (F' 27 3).toInt = (F 27 3).toInt ∧ (F' 27 4).toInt = (F 27 4).toInt ∧ (F' 27 5).toInt = (F 27 5).toInt)) (fun F' => rm_w a kI kZ F') 0 0 := by
  refine rl_meti (cc := prog_7_method_22_code) (maxL := 5) (ret := (some .int)) (by decide) rfl (Nat.le_of_ble_eq_true rfl) ?_
  intro p e s m below meth c A ls hx hb hr hml hown hts hlocks hnm hP hK hD hS hA hN hl
  have hown : s.vm.findClass "RightsLimitModel" = some m.cls := hown
  have hG : ∀ x ∈ rl_G, x.before _ s = true := fun x h => hts x (List.mem_cons_of_mem _ h)
  have hl : lv_has ls 5 [(0, .ref (a 0)), (1, .int jt), (2, .int jk), (3, .int jd), (4, .int ju)] := hl
  obtain ⟨hcnt, hR⟩ := id hI
  refine lv_aload_n hx hb d_m_counted_0 rfl (lv_at hl 0 rfl) ?_
  refine lv_iconst (v := 0) hx hb d_m_counted_1 (by decide) ?_
  refine va_put (D := D) (ci := 5) (v := .int 0) (ty := .int) (C := "RightsLimitModel") (T := fT_m) (N := 33) hx hb hG fi_m fy_m fo_m fn_m hown hK hP hD hS 0 rfl rfl 0 (by decide) (hG _ wd_483) (fun _ h9 => h9) rfl (by decide +kernel) rfl rfl (Nat.le_of_ble_eq_true rfl) d_m_counted_2 (fun H locs hP hD hS => ?_)
  obtain ⟨F1, eF1⟩ : ∃ G, G = rl_st F 27 0 0 := ⟨_, rfl⟩
  have hP : va_P D rl_cl (rm_w a kI kZ F1) H := by rw [eF1]; exact hP
  have hD : va_D A (rm_w a kI kZ F1) := by rw [eF1]; exact hD
  obtain ⟨tF1, hRF1⟩ := rm_putS eF1 (by decide) (by decide) (by decide) (by decide) hR
  refine lv_aload_n hx hb d_m_counted_5 rfl (lv_at hl 0 rfl) ?_
  refine lv_iload_n hx hb d_m_counted_6 rfl (lv_at hl 1 rfl) ?_
  have hpre := rl_BR.pre (av := .ref (a 0) :: [.int jt]) rl_nw0 hP hK hN
  refine rl_callr hS (va_runV (As := [.int jt]) (rest := []) ⟨hx, hb, hml, hown, hG⟩ (k_m_isTitle l D a kI kZ F1 jt ⟨by omega, hRF1⟩ _) (cwV 1 hG (rl_gV wd_594 wd_596 wd_6 wd_19 wd_597) rfl rfl rfl (by decide +kernel) ⟨Nat.le_of_ble_eq_true rfl, Nat.le_of_ble_eq_true rfl⟩) ⟨hpre.1, (va_recv hK hP (ci := 5) (q0 := 0) rfl rfl), hpre.2⟩ rfl rfl hl.1 rfl (lv_room (Nat.le_of_ble_eq_true rfl)) d_m_counted_7 ⟨Nat.le_of_ble_eq_true rfl, Nat.le_of_ble_eq_true rfl⟩) (fun r2 locs hw hS => ?_)
  rcases hw with ⟨rfl, h3⟩ | ⟨rfl, h3⟩
  · refine lv_if_ne (tgt := 15) hx hb d_m_counted_10 (by decide) (fun _ => ?_) (fun c9 => absurd c9 (by decide))
    refine lv_iload_n hx hb d_m_counted_15 rfl (lv_at hl 2 rfl) ?_
    refine lv_iconst (v := 0) hx hb d_m_counted_16 (by decide) ?_
    refine lv_iconst (v := 1) hx hb d_m_counted_17 (by decide) ?_
    refine rl_callr hS (va_runS (As := [.int jk, .int 0, .int 1]) (rest := []) ⟨hx, hb, hml, hown, hG⟩ (k_m_in l D a kI kZ jk 0 1 _) (cwS 3 hG (rl_gS wd_587 wd_588 wd_19 wd_589) rfl rfl rfl (by decide +kernel) ⟨Nat.le_of_ble_eq_true rfl, Nat.le_of_ble_eq_true rfl⟩) (rl_BR.pre rl_nw0 rl_P0 hK hN) rfl rfl hl.1 rfl (lv_room (Nat.le_of_ble_eq_true rfl)) d_m_counted_18 ⟨Nat.le_of_ble_eq_true rfl, Nat.le_of_ble_eq_true rfl⟩) (fun r4 locs hw hS => ?_)
    try simp only [rl_n0, rl_n1] at hw
    rcases hw with ⟨rfl, h5⟩ | ⟨rfl, h5⟩
    · refine lv_if_eq (tgt := 46) hx hb d_m_counted_21 (by decide) (fun c9 => absurd c9 (by decide)) (fun _ => ?_)
      refine lv_iload_n hx hb d_m_counted_24 rfl (lv_at hl 3 rfl) ?_
      refine lv_iconst (v := 1) hx hb d_m_counted_25 (by decide) ?_
      refine lv_sipush (v := 5000) hx hb d_m_counted_26 (by decide) ?_
      refine rl_callr hS (va_runS (As := [.int jd, .int 1, .int 5000]) (rest := []) ⟨hx, hb, hml, hown, hG⟩ (k_m_in l D a kI kZ jd 1 5000 _) (cwS 3 hG (rl_gS wd_587 wd_588 wd_19 wd_589) rfl rfl rfl (by decide +kernel) ⟨Nat.le_of_ble_eq_true rfl, Nat.le_of_ble_eq_true rfl⟩) (rl_BR.pre rl_nw0 rl_P0 hK hN) rfl rfl hl.1 rfl (lv_room (Nat.le_of_ble_eq_true rfl)) d_m_counted_29 ⟨Nat.le_of_ble_eq_true rfl, Nat.le_of_ble_eq_true rfl⟩) (fun r6 locs hw hS => ?_)
      try simp only [rl_n1, rl_n5000] at hw
      rcases hw with ⟨rfl, h7⟩ | ⟨rfl, h7⟩
      · refine lv_if_eq (tgt := 46) hx hb d_m_counted_32 (by decide) (fun c9 => absurd c9 (by decide)) (fun _ => ?_)
        refine lv_iload hx hb d_m_counted_35 (lv_at hl 4 rfl) ?_
        refine lv_iconst (v := 0) hx hb d_m_counted_37 (by decide) ?_
        refine lv_ldc (v := 1000000000) hx hb hown (hG _ wd_606) d_m_counted_38 ?_
        refine rl_callr hS (va_runS (As := [.int ju, .int 0, .int 1000000000]) (rest := []) ⟨hx, hb, hml, hown, hG⟩ (k_m_in l D a kI kZ ju 0 1000000000 _) (cwS 3 hG (rl_gS wd_587 wd_588 wd_19 wd_589) rfl rfl rfl (by decide +kernel) ⟨Nat.le_of_ble_eq_true rfl, Nat.le_of_ble_eq_true rfl⟩) (rl_BR.pre rl_nw0 rl_P0 hK hN) rfl rfl hl.1 rfl (lv_room (Nat.le_of_ble_eq_true rfl)) d_m_counted_40 ⟨Nat.le_of_ble_eq_true rfl, Nat.le_of_ble_eq_true rfl⟩) (fun r8 locs hw hS => ?_)
        try simp only [rl_n0, rl_n1000000000] at hw
        rcases hw with ⟨rfl, h9⟩ | ⟨rfl, h9⟩
        · refine lv_if_ne (tgt := 49) hx hb d_m_counted_43 (by decide) (fun _ => ?_) (fun c9 => absurd c9 (by decide))
          refine lv_aload_n hx hb d_m_counted_49 rfl (lv_at hl 0 rfl) ?_
          refine lv_iload_n hx hb d_m_counted_50 rfl (lv_at hl 1 rfl) ?_
          refine lv_iload_n hx hb d_m_counted_51 rfl (lv_at hl 2 rfl) ?_
          refine lv_iload_n hx hb d_m_counted_52 rfl (lv_at hl 3 rfl) ?_
          refine lv_iload hx hb d_m_counted_53 (lv_at hl 4 rfl) ?_
          have hpre := rl_BR.pre (av := .ref (a 0) :: [.int jt, .int jk, .int jd, .int ju]) rl_nw0 hP hK hN
          refine rl_callr hS (va_runV (As := [.int jt, .int jk, .int jd, .int ju]) (rest := []) ⟨hx, hb, hml, hown, hG⟩ (k_m_count l D a kI kZ F1 jt jk jd ju ⟨by omega, hRF1⟩ _) (cwV 4 hG (rl_gV wd_631 wd_633 wd_11 wd_19 wd_634) rfl rfl rfl (by decide +kernel) ⟨Nat.le_of_ble_eq_true rfl, Nat.le_of_ble_eq_true rfl⟩) ⟨hpre.1, (va_recv hK hP (ci := 5) (q0 := 0) rfl rfl), hpre.2⟩ rfl rfl hl.1 rfl (lv_room (Nat.le_of_ble_eq_true rfl)) d_m_counted_55 ⟨Nat.le_of_ble_eq_true rfl, Nat.le_of_ble_eq_true rfl⟩) (fun r10 locs hw hS => ?_)
          have hwr10 := hw
          exact W.iret (v := r10) hx hb hr (fun t ht hW => ⟨⟨r10, F1, rfl, ⟨hRF1, (show (F1 27 2).toInt = (F 27 2).toInt ∧ (F1 27 3).toInt = (F 27 3).toInt ∧ (F1 27 4).toInt = (F 27 4).toInt ∧ (F1 27 5).toInt = (F 27 5).toInt by omega)⟩, ⟨by rw [ht]; exact hP, hD⟩⟩, hS.F ht⟩) hS.2.2 d_m_counted_58
        · refine lv_if_ne (tgt := 49) hx hb d_m_counted_43 (by decide) (fun c9 => absurd c9 (by decide)) (fun _ => ?_)
          refine lv_bipush (v := (-2)) hx hb d_m_counted_46 (by decide) ?_
          exact W.iret (v := (-2)) hx hb hr (fun t ht hW => ⟨⟨(-2), F1, rfl, ⟨hRF1, (show (F1 27 2).toInt = (F 27 2).toInt ∧ (F1 27 3).toInt = (F 27 3).toInt ∧ (F1 27 4).toInt = (F 27 4).toInt ∧ (F1 27 5).toInt = (F 27 5).toInt by have q9 := rl_nm2; omega)⟩, ⟨by rw [ht]; exact hP, hD⟩⟩, hS.F ht⟩) hS.2.2 d_m_counted_48
      · refine lv_if_eq (tgt := 46) hx hb d_m_counted_32 (by decide) (fun _ => ?_) (fun c9 => absurd c9 (by decide))
        refine lv_bipush (v := (-2)) hx hb d_m_counted_46 (by decide) ?_
        exact W.iret (v := (-2)) hx hb hr (fun t ht hW => ⟨⟨(-2), F1, rfl, ⟨hRF1, (show (F1 27 2).toInt = (F 27 2).toInt ∧ (F1 27 3).toInt = (F 27 3).toInt ∧ (F1 27 4).toInt = (F 27 4).toInt ∧ (F1 27 5).toInt = (F 27 5).toInt by have q9 := rl_nm2; omega)⟩, ⟨by rw [ht]; exact hP, hD⟩⟩, hS.F ht⟩) hS.2.2 d_m_counted_48
    · refine lv_if_eq (tgt := 46) hx hb d_m_counted_21 (by decide) (fun _ => ?_) (fun c9 => absurd c9 (by decide))
      refine lv_bipush (v := (-2)) hx hb d_m_counted_46 (by decide) ?_
      exact W.iret (v := (-2)) hx hb hr (fun t ht hW => ⟨⟨(-2), F1, rfl, ⟨hRF1, (show (F1 27 2).toInt = (F 27 2).toInt ∧ (F1 27 3).toInt = (F 27 3).toInt ∧ (F1 27 4).toInt = (F 27 4).toInt ∧ (F1 27 5).toInt = (F 27 5).toInt by have q9 := rl_nm2; omega)⟩, ⟨by rw [ht]; exact hP, hD⟩⟩, hS.F ht⟩) hS.2.2 d_m_counted_48
  · refine lv_if_ne (tgt := 15) hx hb d_m_counted_10 (by decide) (fun c9 => absurd c9 (by decide)) (fun _ => ?_)
    refine lv_iconst (v := (-1)) hx hb d_m_counted_13 (by decide) ?_
    exact W.iret (v := (-1)) hx hb hr (fun t ht hW => ⟨⟨(-1), F1, rfl, ⟨hRF1, (show (F1 27 2).toInt = (F 27 2).toInt ∧ (F1 27 3).toInt = (F 27 3).toInt ∧ (F1 27 4).toInt = (F 27 4).toInt ∧ (F1 27 5).toInt = (F 27 5).toInt by have q9 := rl_nm1; omega)⟩, ⟨by rw [ht]; exact hP, hD⟩⟩, hS.F ht⟩) hS.2.2 d_m_counted_14
set_option maxHeartbeats 4000000 in
set_option maxRecDepth 100000 in
theorem k_m_left (l : Launch) (D : va_G) (a : Nat → Nat) (kI kZ : ClassId) (F : Nat → Nat → Int32) (jn : Int32) (hI : rm_I F) (sz : Nat) : rl_Ci (S := Nat → Nat → Int32) l ⟨"RightsLimitModel", "left", "(I)I"⟩ (Cond.code ⟨"RightsLimitModel", "left", "(I)I"⟩ prog_7_method_25_code 2 (some .int) :: rl_G) { frames := 1, cells := 0, slots := 0, locals := 22 } D rl_cl (rl_tys kI kZ) [] [.ref (a 0), .int jn] (rm_w a kI kZ F) sz (fun (r : Int32) (F' : Nat → Nat → Int32) => rm_R F' ∧ ((F' 27 2).toInt = (F 27 2).toInt ∧ (F' 27 3).toInt = (F 27 3).toInt ∧ (F' 27 4).toInt = (F 27 4).toInt ∧ (F' 27 5).toInt = (F 27 5).toInt)) (fun F' => rm_w a kI kZ F') 0 0 := by
  refine rl_meti (cc := prog_7_method_25_code) (maxL := 2) (ret := (some .int)) (by decide) rfl (Nat.le_of_ble_eq_true rfl) ?_
  intro p e s m below meth c A ls hx hb hr hml hown hts hlocks hnm hP hK hD hS hA hN hl
  have hown : s.vm.findClass "RightsLimitModel" = some m.cls := hown
  have hG : ∀ x ∈ rl_G, x.before _ s = true := fun x h => hts x (List.mem_cons_of_mem _ h)
  have hl : lv_has ls 2 [(0, .ref (a 0)), (1, .int jn)] := hl
  obtain ⟨hcnt, hR⟩ := id hI
  refine lv_aload_n hx hb d_m_left_0 rfl (lv_at hl 0 rfl) ?_
  refine lv_iconst (v := 0) hx hb d_m_left_1 (by decide) ?_
  refine va_put (D := D) (ci := 5) (v := .int 0) (ty := .int) (C := "RightsLimitModel") (T := fT_m) (N := 33) hx hb hG fi_m fy_m fo_m fn_m hown hK hP hD hS 0 rfl rfl 0 (by decide) (hG _ wd_483) (fun _ h9 => h9) rfl (by decide +kernel) rfl rfl (Nat.le_of_ble_eq_true rfl) d_m_left_2 (fun H locs hP hD hS => ?_)
  obtain ⟨F1, eF1⟩ : ∃ G, G = rl_st F 27 0 0 := ⟨_, rfl⟩
  have hP : va_P D rl_cl (rm_w a kI kZ F1) H := by rw [eF1]; exact hP
  have hD : va_D A (rm_w a kI kZ F1) := by rw [eF1]; exact hD
  obtain ⟨tF1, hRF1⟩ := rm_putS eF1 (by decide) (by decide) (by decide) (by decide) hR
  refine lv_iload_n hx hb d_m_left_5 rfl (lv_at hl 1 rfl) ?_
  refine lv_iconst (v := 0) hx hb d_m_left_6 (by decide) ?_
  refine lv_aload_n hx hb d_m_left_7 rfl (lv_at hl 0 rfl) ?_
  refine va_get (D := D) (ci := 5) (v := .int (F1 27 4)) (C := "RightsLimitModel") (T := fT_m) (N := 33) hx hb hG fi_m hown hK hP 0 rfl rfl 14 (by decide) (hG _ wd_497) (fun _ h9 => h9) rfl d_m_left_8 ?_
  refine lv_iconst (v := 1) hx hb d_m_left_11 (by decide) ?_
  refine lv_isub hx hb d_m_left_12 ?_
  refine lv_topi (fun v2 ev2 => ?_)
  have iv2 : v2.toInt = (F1 27 4).toInt - 1 := by rw [ev2]; exact rl_subk (by decide) (by omega) (by omega)
  refine rl_callr hS (va_runS (As := [.int jn, .int 0, .int v2]) (rest := []) ⟨hx, hb, hml, hown, hG⟩ (k_m_in l D a kI kZ jn 0 v2 _) (cwS 3 hG (rl_gS wd_587 wd_588 wd_19 wd_589) rfl rfl rfl (by decide +kernel) ⟨Nat.le_of_ble_eq_true rfl, Nat.le_of_ble_eq_true rfl⟩) (rl_BR.pre rl_nw0 rl_P0 hK hN) rfl rfl hl.1 rfl (lv_room (Nat.le_of_ble_eq_true rfl)) d_m_left_13 ⟨Nat.le_of_ble_eq_true rfl, Nat.le_of_ble_eq_true rfl⟩) (fun r3 locs hw hS => ?_)
  try simp only [rl_n0] at hw
  rcases hw with ⟨rfl, h4⟩ | ⟨rfl, h4⟩
  · refine lv_if_eq (tgt := 28) hx hb d_m_left_16 (by decide) (fun c9 => absurd c9 (by decide)) (fun _ => ?_)
    refine lv_aload_n hx hb d_m_left_19 rfl (lv_at hl 0 rfl) ?_
    refine va_get (D := D) (ci := 5) (v := .ref (a 13)) (C := "RightsLimitModel") (T := fT_m) (N := 33) hx hb hG fi_m hown hK hP 0 rfl rfl 17 (by decide) (hG _ wd_500) (fun _ h9 => h9) rfl d_m_left_20 ?_
    refine lv_iload_n hx hb d_m_left_23 rfl (lv_at hl 1 rfl) ?_
    refine va_iald hx hb hK hP 13 0 rfl rfl (rl_in (n := 50) (by omega) (by omega)) d_m_left_24 ?_
    refine lv_topi (fun v5 ev5 => ?_)
    refine lv_goto (tgt := 29) hx hb d_m_left_25 (by decide) ?_
    exact W.iret (v := v5) hx hb hr (fun t ht hW => ⟨⟨v5, F1, rfl, ⟨hRF1, (show (F1 27 2).toInt = (F 27 2).toInt ∧ (F1 27 3).toInt = (F 27 3).toInt ∧ (F1 27 4).toInt = (F 27 4).toInt ∧ (F1 27 5).toInt = (F 27 5).toInt by omega)⟩, ⟨by rw [ht]; exact hP, hD⟩⟩, hS.F ht⟩) hS.2.2 d_m_left_29
  · refine lv_if_eq (tgt := 28) hx hb d_m_left_16 (by decide) (fun _ => ?_) (fun c9 => absurd c9 (by decide))
    refine lv_iconst (v := (-1)) hx hb d_m_left_28 (by decide) ?_
    exact W.iret (v := (-1)) hx hb hr (fun t ht hW => ⟨⟨(-1), F1, rfl, ⟨hRF1, (show (F1 27 2).toInt = (F 27 2).toInt ∧ (F1 27 3).toInt = (F 27 3).toInt ∧ (F1 27 4).toInt = (F 27 4).toInt ∧ (F1 27 5).toInt = (F 27 5).toInt by have q9 := rl_nm1; omega)⟩, ⟨by rw [ht]; exact hP, hD⟩⟩, hS.F ht⟩) hS.2.2 d_m_left_29
set_option maxHeartbeats 4000000 in
set_option maxRecDepth 100000 in
theorem k_m_statistics (l : Launch) (D : va_G) (a : Nat → Nat) (kI kZ : ClassId) (F : Nat → Nat → Int32) (jn jw : Int32) (hI : rm_I F) (sz : Nat) : rl_Ci (S := Nat → Nat → Int32) l ⟨"RightsLimitModel", "statistics", "(II)I"⟩ (Cond.code ⟨"RightsLimitModel", "statistics", "(II)I"⟩ prog_7_method_26_code 5 (some .int) :: rl_G) { frames := 1, cells := 0, slots := 0, locals := 22 } D rl_cl (rl_tys kI kZ) [] [.ref (a 0), .int jn, .int jw] (rm_w a kI kZ F) sz (fun (r : Int32) (F' : Nat → Nat → Int32) => rm_R F' ∧ ((F' 27 2).toInt = (F 27 2).toInt ∧ (F' 27 3).toInt = (F 27 3).toInt ∧ (F' 27 4).toInt = (F 27 4).toInt ∧ (F' 27 5).toInt = (F 27 5).toInt)) (fun F' => rm_w a kI kZ F') 0 0 := by
  refine rl_meti (cc := prog_7_method_26_code) (maxL := 5) (ret := (some .int)) (by decide) rfl (Nat.le_of_ble_eq_true rfl) ?_
  intro p e s m below meth c A ls hx hb hr hml hown hts hlocks hnm hP hK hD hS hA hN hl
  have hown : s.vm.findClass "RightsLimitModel" = some m.cls := hown
  have hG : ∀ x ∈ rl_G, x.before _ s = true := fun x h => hts x (List.mem_cons_of_mem _ h)
  have hl : lv_has ls 5 [(0, .ref (a 0)), (1, .int jn), (2, .int jw)] := hl
  obtain ⟨hcnt, hR⟩ := id hI
  refine lv_aload_n hx hb d_m_statistics_0 rfl (lv_at hl 0 rfl) ?_
  refine lv_iconst (v := 0) hx hb d_m_statistics_1 (by decide) ?_
  refine va_put (D := D) (ci := 5) (v := .int 0) (ty := .int) (C := "RightsLimitModel") (T := fT_m) (N := 33) hx hb hG fi_m fy_m fo_m fn_m hown hK hP hD hS 0 rfl rfl 0 (by decide) (hG _ wd_483) (fun _ h9 => h9) rfl (by decide +kernel) rfl rfl (Nat.le_of_ble_eq_true rfl) d_m_statistics_2 (fun H locs hP hD hS => ?_)
  obtain ⟨F1, eF1⟩ : ∃ G, G = rl_st F 27 0 0 := ⟨_, rfl⟩
  have hP : va_P D rl_cl (rm_w a kI kZ F1) H := by rw [eF1]; exact hP
  have hD : va_D A (rm_w a kI kZ F1) := by rw [eF1]; exact hD
  obtain ⟨tF1, hRF1⟩ := rm_putS eF1 (by decide) (by decide) (by decide) (by decide) hR
  refine lv_iload_n hx hb d_m_statistics_5 rfl (lv_at hl 1 rfl) ?_
  refine lv_iconst (v := 0) hx hb d_m_statistics_6 (by decide) ?_
  refine lv_bipush (v := 99) hx hb d_m_statistics_7 (by decide) ?_
  refine rl_callr hS (va_runS (As := [.int jn, .int 0, .int 99]) (rest := []) ⟨hx, hb, hml, hown, hG⟩ (k_m_in l D a kI kZ jn 0 99 _) (cwS 3 hG (rl_gS wd_587 wd_588 wd_19 wd_589) rfl rfl rfl (by decide +kernel) ⟨Nat.le_of_ble_eq_true rfl, Nat.le_of_ble_eq_true rfl⟩) (rl_BR.pre rl_nw0 rl_P0 hK hN) rfl rfl hl.1 rfl (lv_room (Nat.le_of_ble_eq_true rfl)) d_m_statistics_9 ⟨Nat.le_of_ble_eq_true rfl, Nat.le_of_ble_eq_true rfl⟩) (fun r2 locs hw hS => ?_)
  try simp only [rl_n0, rl_n99] at hw
  rcases hw with ⟨rfl, h3⟩ | ⟨rfl, h3⟩
  · refine lv_if_eq (tgt := 24) hx hb d_m_statistics_12 (by decide) (fun c9 => absurd c9 (by decide)) (fun _ => ?_)
    refine lv_iload_n hx hb d_m_statistics_15 rfl (lv_at hl 2 rfl) ?_
    refine lv_iconst (v := 0) hx hb d_m_statistics_16 (by decide) ?_
    refine lv_iconst (v := 3) hx hb d_m_statistics_17 (by decide) ?_
    refine rl_callr hS (va_runS (As := [.int jw, .int 0, .int 3]) (rest := []) ⟨hx, hb, hml, hown, hG⟩ (k_m_in l D a kI kZ jw 0 3 _) (cwS 3 hG (rl_gS wd_587 wd_588 wd_19 wd_589) rfl rfl rfl (by decide +kernel) ⟨Nat.le_of_ble_eq_true rfl, Nat.le_of_ble_eq_true rfl⟩) (rl_BR.pre rl_nw0 rl_P0 hK hN) rfl rfl hl.1 rfl (lv_room (Nat.le_of_ble_eq_true rfl)) d_m_statistics_18 ⟨Nat.le_of_ble_eq_true rfl, Nat.le_of_ble_eq_true rfl⟩) (fun r4 locs hw hS => ?_)
    try simp only [rl_n0, rl_n3] at hw
    rcases hw with ⟨rfl, h5⟩ | ⟨rfl, h5⟩
    · refine lv_if_ne (tgt := 26) hx hb d_m_statistics_21 (by decide) (fun _ => ?_) (fun c9 => absurd c9 (by decide))
      refine lv_iconst (v := 0) hx hb d_m_statistics_26 (by decide) ?_
      refine lv_istore_n (lv' := [(3, .int 0), (0, .ref (a 0)), (1, .int jn), (2, .int jw)]) hx hb d_m_statistics_27 rfl hl (by decide) rfl (fun ls hl => ?_)
      refine lv_iconst (v := 0) hx hb d_m_statistics_28 (by decide) ?_
      refine lv_istore (lv' := [(4, .int 0), (3, .int 0), (0, .ref (a 0)), (1, .int jn), (2, .int jw)]) hx hb d_m_statistics_29 hl (by decide) rfl (fun ls hl => ?_)
      have loop : ∀ (n : Nat) (fo i : Int32), 0 ≤ i.toInt → i.toInt ≤ (F1 27 5).toInt → (F1 27 5).toInt - i.toInt < n → ∀ (H : Heap) (locs : List Loc) (ls : Array Slot), va_P D rl_cl (rm_w a kI kZ F1) H → va_D A (rm_w a kI kZ F1) → va_S A s.heap H locs → lv_has ls 5 [(0, .ref (a 0)), (1, .int jn), (2, .int jw), (3, .int fo), (4, .int i)] → W p l e ({ frames := 1, cells := 0, slots := 0, locals := 22 } : Room) s m ([.ref (a 0), .int jn, .int jw] : List Value).toArray below meth c H locs 0 0 (MQ below (va_Qi (S := Nat → Nat → Int32) (fun (r : Int32) (F' : Nat → Nat → Int32) => rm_R F' ∧ ((F' 27 2).toInt = (F 27 2).toInt ∧ (F' 27 3).toInt = (F 27 3).toInt ∧ (F' 27 4).toInt = (F 27 4).toInt ∧ (F' 27 5).toInt = (F 27 5).toInt)) (fun u t => va_P D rl_cl (rm_w a kI kZ u) t.heap ∧ va_D A (rm_w a kI kZ u)) A) ([.ref (a 0), .int jn, .int jw] : List Value).toArray s 0 0 A) (F0 m 31 ls []) := by
        intro n
        induction n with
        | zero => intro fo i h1 h2 h3; exact absurd h3 (by omega)
        | succ n ih =>
          intro fo i h1 h2 h3 H locs ls hP hD hS hl
          refine lv_iload hx hb d_m_statistics_31 (lv_at hl 4 rfl) ?_
          refine lv_aload_n hx hb d_m_statistics_33 rfl (lv_at hl 0 rfl) ?_
          refine va_get (D := D) (ci := 5) (v := .int (F1 27 5)) (C := "RightsLimitModel") (T := fT_m) (N := 33) hx hb hG fi_m hown hK hP 0 rfl rfl 20 (by decide) (hG _ wd_503) (fun _ h9 => h9) rfl d_m_statistics_34 ?_
          refine lv_icmp_ge (tgt := 129) hx hb d_m_statistics_37 (by decide) (fun c6 => ?_) (fun c6 => ?_)
          · have ic6 := rl_ile c6
            refine lv_iload_n hx hb d_m_statistics_129 rfl (lv_at hl 3 rfl) ?_
            exact W.iret (v := fo) hx hb hr (fun t ht hW => ⟨⟨fo, F1, rfl, ⟨hRF1, (show (F1 27 2).toInt = (F 27 2).toInt ∧ (F1 27 3).toInt = (F 27 3).toInt ∧ (F1 27 4).toInt = (F 27 4).toInt ∧ (F1 27 5).toInt = (F 27 5).toInt by omega)⟩, ⟨by rw [ht]; exact hP, hD⟩⟩, hS.F ht⟩) hS.2.2 d_m_statistics_130
          · have ic6 := rl_inle c6
            refine lv_aload_n hx hb d_m_statistics_40 rfl (lv_at hl 0 rfl) ?_
            refine va_get (D := D) (ci := 5) (v := .ref (a 16)) (C := "RightsLimitModel") (T := fT_m) (N := 33) hx hb hG fi_m hown hK hP 0 rfl rfl 21 (by decide) (hG _ wd_504) (fun _ h9 => h9) rfl d_m_statistics_41 ?_
            refine lv_iload hx hb d_m_statistics_44 (lv_at hl 4 rfl) ?_
            refine va_iald hx hb hK hP 16 0 rfl rfl (rl_in (n := 300) (by omega) (by omega)) d_m_statistics_46 ?_
            refine lv_topi (fun v7 ev7 => ?_)
            refine lv_iload_n hx hb d_m_statistics_47 rfl (lv_at hl 1 rfl) ?_
            refine lv_icmp_eq (tgt := 54) hx hb d_m_statistics_48 (by decide) (fun c8 => ?_) (fun c8 => ?_)
            · have ic8 := rl_ieq c8
              refine lv_iload_n hx hb d_m_statistics_54 rfl (lv_at hl 3 rfl) ?_
              refine lv_iload_n hx hb d_m_statistics_55 rfl (lv_at hl 2 rfl) ?_
              refine lv_if_ne (tgt := 63) hx hb d_m_statistics_56 (by decide) (fun c9 => ?_) (fun c9 => ?_)
              · have ic9 := rl_ine c9
                simp only [rl_n0] at ic9
                refine lv_iload_n hx hb d_m_statistics_63 rfl (lv_at hl 2 rfl) ?_
                refine lv_iconst (v := 1) hx hb d_m_statistics_64 (by decide) ?_
                refine lv_icmp_ne (tgt := 86) hx hb d_m_statistics_65 (by decide) (fun c10 => ?_) (fun c10 => ?_)
                · have ic10 := rl_ine c10
                  simp only [rl_n1] at ic10
                  refine lv_iload_n hx hb d_m_statistics_86 rfl (lv_at hl 2 rfl) ?_
                  refine lv_iconst (v := 2) hx hb d_m_statistics_87 (by decide) ?_
                  refine lv_icmp_ne (tgt := 115) hx hb d_m_statistics_88 (by decide) (fun c11 => ?_) (fun c11 => ?_)
                  · have ic11 := rl_ine c11
                    simp only [rl_n2] at ic11
                    refine lv_aload_n hx hb d_m_statistics_115 rfl (lv_at hl 0 rfl) ?_
                    refine lv_iload hx hb d_m_statistics_116 (lv_at hl 4 rfl) ?_
                    have hpre := rl_BR.pre (av := .ref (a 0) :: [.int i]) rl_nw0 hP hK hN
                    refine rl_callr hS (va_runV (As := [.int i]) (rest := [.int fo]) ⟨hx, hb, hml, hown, hG⟩ (k_m_cents l D a kI kZ F1 i ⟨by omega, hRF1⟩ (by omega) (by omega) _) (cwV 1 hG (rl_gV wd_669 wd_671 wd_12 wd_19 wd_672) rfl rfl rfl (by decide +kernel) ⟨Nat.le_of_ble_eq_true rfl, Nat.le_of_ble_eq_true rfl⟩) ⟨hpre.1, (va_recv hK hP (ci := 5) (q0 := 0) rfl rfl), hpre.2⟩ rfl rfl hl.1 rfl (lv_room (Nat.le_of_ble_eq_true rfl)) d_m_statistics_118 ⟨Nat.le_of_ble_eq_true rfl, Nat.le_of_ble_eq_true rfl⟩) (fun r12 locs hw hS => ?_)
                    have hwr12 := hw
                    refine lv_iadd hx hb d_m_statistics_121 ?_
                    refine lv_topi (fun v13 ev13 => ?_)
                    refine lv_istore_n (lv' := [(3, .int v13), (0, .ref (a 0)), (1, .int jn), (2, .int jw), (4, .int i)]) hx hb d_m_statistics_122 rfl hl (by decide) rfl (fun ls hl => ?_)
                    obtain ⟨x14, ex14⟩ : ∃ y : Int32, y = i + 1 := ⟨_, rfl⟩
                    refine lv_iinc (v := x14) (lv' := [(4, .int x14), (3, .int v13), (0, .ref (a 0)), (1, .int jn), (2, .int jw)]) hx hb d_m_statistics_123 hl (k := 4) rfl (by rw [ex14]; rfl) (by decide) rfl (fun ls hl => ?_)
                    have ix14 : x14.toInt = i.toInt + 1 := by rw [ex14]; exact rl_inc (by omega)
                    refine lv_goto (tgt := 31) hx hb d_m_statistics_126 (by decide) ?_
                    exact ih v13 x14 (by omega) (by omega) (by omega) _ _ _ hP hD hS (lv_sub hl [2, 3, 4, 1, 0] rfl)
                  · have ic11 := rl_ieq c11
                    simp only [rl_n2] at ic11
                    refine lv_aload_n hx hb d_m_statistics_91 rfl (lv_at hl 0 rfl) ?_
                    refine va_get (D := D) (ci := 5) (v := .ref (a 21)) (C := "RightsLimitModel") (T := fT_m) (N := 33) hx hb hG fi_m hown hK hP 0 rfl rfl 26 (by decide) (hG _ wd_509) (fun _ h9 => h9) rfl d_m_statistics_92 ?_
                    refine lv_iload hx hb d_m_statistics_95 (lv_at hl 4 rfl) ?_
                    refine va_iald hx hb hK hP 21 0 rfl rfl (rl_in (n := 300) (by omega) (by omega)) d_m_statistics_97 ?_
                    refine lv_topi (fun v15 ev15 => ?_)
                    refine lv_if_ne (tgt := 105) hx hb d_m_statistics_98 (by decide) (fun c16 => ?_) (fun c16 => ?_)
                    · have ic16 := rl_ine c16
                      simp only [rl_n0] at ic16
                      refine lv_aload_n hx hb d_m_statistics_105 rfl (lv_at hl 0 rfl) ?_
                      refine va_get (D := D) (ci := 5) (v := .ref (a 19)) (C := "RightsLimitModel") (T := fT_m) (N := 33) hx hb hG fi_m hown hK hP 0 rfl rfl 24 (by decide) (hG _ wd_507) (fun _ h9 => h9) rfl d_m_statistics_106 ?_
                      refine lv_iload hx hb d_m_statistics_109 (lv_at hl 4 rfl) ?_
                      refine va_iald hx hb hK hP 19 0 rfl rfl (rl_in (n := 300) (by omega) (by omega)) d_m_statistics_111 ?_
                      refine lv_topi (fun v17 ev17 => ?_)
                      refine lv_goto (tgt := 121) hx hb d_m_statistics_112 (by decide) ?_
                      refine lv_iadd hx hb d_m_statistics_121 ?_
                      refine lv_topi (fun v18 ev18 => ?_)
                      refine lv_istore_n (lv' := [(3, .int v18), (0, .ref (a 0)), (1, .int jn), (2, .int jw), (4, .int i)]) hx hb d_m_statistics_122 rfl hl (by decide) rfl (fun ls hl => ?_)
                      obtain ⟨x19, ex19⟩ : ∃ y : Int32, y = i + 1 := ⟨_, rfl⟩
                      refine lv_iinc (v := x19) (lv' := [(4, .int x19), (3, .int v18), (0, .ref (a 0)), (1, .int jn), (2, .int jw)]) hx hb d_m_statistics_123 hl (k := 4) rfl (by rw [ex19]; rfl) (by decide) rfl (fun ls hl => ?_)
                      have ix19 : x19.toInt = i.toInt + 1 := by rw [ex19]; exact rl_inc (by omega)
                      refine lv_goto (tgt := 31) hx hb d_m_statistics_126 (by decide) ?_
                      exact ih v18 x19 (by omega) (by omega) (by omega) _ _ _ hP hD hS (lv_sub hl [2, 3, 4, 1, 0] rfl)
                    · have ic16 := rl_ieq c16
                      simp only [rl_n0] at ic16
                      refine lv_iconst (v := 0) hx hb d_m_statistics_101 (by decide) ?_
                      refine lv_goto (tgt := 121) hx hb d_m_statistics_102 (by decide) ?_
                      refine lv_iadd hx hb d_m_statistics_121 ?_
                      refine lv_topi (fun v20 ev20 => ?_)
                      refine lv_istore_n (lv' := [(3, .int v20), (0, .ref (a 0)), (1, .int jn), (2, .int jw), (4, .int i)]) hx hb d_m_statistics_122 rfl hl (by decide) rfl (fun ls hl => ?_)
                      obtain ⟨x21, ex21⟩ : ∃ y : Int32, y = i + 1 := ⟨_, rfl⟩
                      refine lv_iinc (v := x21) (lv' := [(4, .int x21), (3, .int v20), (0, .ref (a 0)), (1, .int jn), (2, .int jw)]) hx hb d_m_statistics_123 hl (k := 4) rfl (by rw [ex21]; rfl) (by decide) rfl (fun ls hl => ?_)
                      have ix21 : x21.toInt = i.toInt + 1 := by rw [ex21]; exact rl_inc (by omega)
                      refine lv_goto (tgt := 31) hx hb d_m_statistics_126 (by decide) ?_
                      exact ih v20 x21 (by omega) (by omega) (by omega) _ _ _ hP hD hS (lv_sub hl [2, 3, 4, 1, 0] rfl)
                · have ic10 := rl_ieq c10
                  simp only [rl_n1] at ic10
                  refine lv_aload_n hx hb d_m_statistics_68 rfl (lv_at hl 0 rfl) ?_
                  refine va_get (D := D) (ci := 5) (v := .ref (a 21)) (C := "RightsLimitModel") (T := fT_m) (N := 33) hx hb hG fi_m hown hK hP 0 rfl rfl 26 (by decide) (hG _ wd_509) (fun _ h9 => h9) rfl d_m_statistics_69 ?_
                  refine lv_iload hx hb d_m_statistics_72 (lv_at hl 4 rfl) ?_
                  refine va_iald hx hb hK hP 21 0 rfl rfl (rl_in (n := 300) (by omega) (by omega)) d_m_statistics_74 ?_
                  refine lv_topi (fun v22 ev22 => ?_)
                  refine lv_if_ne (tgt := 82) hx hb d_m_statistics_75 (by decide) (fun c23 => ?_) (fun c23 => ?_)
                  · have ic23 := rl_ine c23
                    simp only [rl_n0] at ic23
                    refine lv_iconst (v := 0) hx hb d_m_statistics_82 (by decide) ?_
                    refine lv_goto (tgt := 121) hx hb d_m_statistics_83 (by decide) ?_
                    refine lv_iadd hx hb d_m_statistics_121 ?_
                    refine lv_topi (fun v24 ev24 => ?_)
                    refine lv_istore_n (lv' := [(3, .int v24), (0, .ref (a 0)), (1, .int jn), (2, .int jw), (4, .int i)]) hx hb d_m_statistics_122 rfl hl (by decide) rfl (fun ls hl => ?_)
                    obtain ⟨x25, ex25⟩ : ∃ y : Int32, y = i + 1 := ⟨_, rfl⟩
                    refine lv_iinc (v := x25) (lv' := [(4, .int x25), (3, .int v24), (0, .ref (a 0)), (1, .int jn), (2, .int jw)]) hx hb d_m_statistics_123 hl (k := 4) rfl (by rw [ex25]; rfl) (by decide) rfl (fun ls hl => ?_)
                    have ix25 : x25.toInt = i.toInt + 1 := by rw [ex25]; exact rl_inc (by omega)
                    refine lv_goto (tgt := 31) hx hb d_m_statistics_126 (by decide) ?_
                    exact ih v24 x25 (by omega) (by omega) (by omega) _ _ _ hP hD hS (lv_sub hl [2, 3, 4, 1, 0] rfl)
                  · have ic23 := rl_ieq c23
                    simp only [rl_n0] at ic23
                    refine lv_iconst (v := 1) hx hb d_m_statistics_78 (by decide) ?_
                    refine lv_goto (tgt := 121) hx hb d_m_statistics_79 (by decide) ?_
                    refine lv_iadd hx hb d_m_statistics_121 ?_
                    refine lv_topi (fun v26 ev26 => ?_)
                    refine lv_istore_n (lv' := [(3, .int v26), (0, .ref (a 0)), (1, .int jn), (2, .int jw), (4, .int i)]) hx hb d_m_statistics_122 rfl hl (by decide) rfl (fun ls hl => ?_)
                    obtain ⟨x27, ex27⟩ : ∃ y : Int32, y = i + 1 := ⟨_, rfl⟩
                    refine lv_iinc (v := x27) (lv' := [(4, .int x27), (3, .int v26), (0, .ref (a 0)), (1, .int jn), (2, .int jw)]) hx hb d_m_statistics_123 hl (k := 4) rfl (by rw [ex27]; rfl) (by decide) rfl (fun ls hl => ?_)
                    have ix27 : x27.toInt = i.toInt + 1 := by rw [ex27]; exact rl_inc (by omega)
                    refine lv_goto (tgt := 31) hx hb d_m_statistics_126 (by decide) ?_
                    exact ih v26 x27 (by omega) (by omega) (by omega) _ _ _ hP hD hS (lv_sub hl [2, 3, 4, 1, 0] rfl)
              · have ic9 := rl_ieq c9
                simp only [rl_n0] at ic9
                refine lv_iconst (v := 1) hx hb d_m_statistics_59 (by decide) ?_
                refine lv_goto (tgt := 121) hx hb d_m_statistics_60 (by decide) ?_
                refine lv_iadd hx hb d_m_statistics_121 ?_
                refine lv_topi (fun v28 ev28 => ?_)
                refine lv_istore_n (lv' := [(3, .int v28), (0, .ref (a 0)), (1, .int jn), (2, .int jw), (4, .int i)]) hx hb d_m_statistics_122 rfl hl (by decide) rfl (fun ls hl => ?_)
                obtain ⟨x29, ex29⟩ : ∃ y : Int32, y = i + 1 := ⟨_, rfl⟩
                refine lv_iinc (v := x29) (lv' := [(4, .int x29), (3, .int v28), (0, .ref (a 0)), (1, .int jn), (2, .int jw)]) hx hb d_m_statistics_123 hl (k := 4) rfl (by rw [ex29]; rfl) (by decide) rfl (fun ls hl => ?_)
                have ix29 : x29.toInt = i.toInt + 1 := by rw [ex29]; exact rl_inc (by omega)
                refine lv_goto (tgt := 31) hx hb d_m_statistics_126 (by decide) ?_
                exact ih v28 x29 (by omega) (by omega) (by omega) _ _ _ hP hD hS (lv_sub hl [2, 3, 4, 1, 0] rfl)
            · have ic8 := rl_ine c8
              refine lv_goto (tgt := 123) hx hb d_m_statistics_51 (by decide) ?_
              obtain ⟨x30, ex30⟩ : ∃ y : Int32, y = i + 1 := ⟨_, rfl⟩
              refine lv_iinc (v := x30) (lv' := [(4, .int x30), (0, .ref (a 0)), (1, .int jn), (2, .int jw), (3, .int fo)]) hx hb d_m_statistics_123 hl (k := 4) rfl (by rw [ex30]; rfl) (by decide) rfl (fun ls hl => ?_)
              have ix30 : x30.toInt = i.toInt + 1 := by rw [ex30]; exact rl_inc (by omega)
              refine lv_goto (tgt := 31) hx hb d_m_statistics_126 (by decide) ?_
              exact ih fo x30 (by omega) (by omega) (by omega) _ _ _ hP hD hS (lv_sub hl [1, 2, 3, 4, 0] rfl)
      exact loop 400 0 0 (by decide) (by simp only [rl_n0]; omega) (by simp only [rl_n0]; omega) _ _ _ hP hD hS (lv_sub hl [2, 3, 4, 1, 0] rfl)
    · refine lv_if_ne (tgt := 26) hx hb d_m_statistics_21 (by decide) (fun c9 => absurd c9 (by decide)) (fun _ => ?_)
      refine lv_iconst (v := (-1)) hx hb d_m_statistics_24 (by decide) ?_
      exact W.iret (v := (-1)) hx hb hr (fun t ht hW => ⟨⟨(-1), F1, rfl, ⟨hRF1, (show (F1 27 2).toInt = (F 27 2).toInt ∧ (F1 27 3).toInt = (F 27 3).toInt ∧ (F1 27 4).toInt = (F 27 4).toInt ∧ (F1 27 5).toInt = (F 27 5).toInt by have q9 := rl_nm1; omega)⟩, ⟨by rw [ht]; exact hP, hD⟩⟩, hS.F ht⟩) hS.2.2 d_m_statistics_25
  · refine lv_if_eq (tgt := 24) hx hb d_m_statistics_12 (by decide) (fun _ => ?_) (fun c9 => absurd c9 (by decide))
    refine lv_iconst (v := (-1)) hx hb d_m_statistics_24 (by decide) ?_
    exact W.iret (v := (-1)) hx hb hr (fun t ht hW => ⟨⟨(-1), F1, rfl, ⟨hRF1, (show (F1 27 2).toInt = (F 27 2).toInt ∧ (F1 27 3).toInt = (F 27 3).toInt ∧ (F1 27 4).toInt = (F 27 4).toInt ∧ (F1 27 5).toInt = (F 27 5).toInt by have q9 := rl_nm1; omega)⟩, ⟨by rw [ht]; exact hP, hD⟩⟩, hS.F ht⟩) hS.2.2 d_m_statistics_25
set_option maxHeartbeats 4000000 in
set_option maxRecDepth 100000 in
theorem k_m_request (l : Launch) (D : va_G) (a : Nat → Nat) (kI kZ : ClassId) (F : Nat → Nat → Int32) (jn jw : Int32) (hI : rm_I F) (sz : Nat) : rl_Ci (S := Nat → Nat → Int32) l ⟨"RightsLimitModel", "request", "(II)I"⟩ (Cond.code ⟨"RightsLimitModel", "request", "(II)I"⟩ prog_7_method_24_code 3 (some .int) :: rl_G) { frames := 1, cells := 0, slots := 0, locals := 22 } D rl_cl (rl_tys kI kZ) [] [.ref (a 0), .int jn, .int jw] (rm_w a kI kZ F) sz (fun (r : Int32) (F' : Nat → Nat → Int32) => rm_R F' ∧ ((F' 27 2).toInt = (F 27 2).toInt ∧ (F' 27 3).toInt = (F 27 3).toInt ∧ (F' 27 4).toInt = (F 27 4).toInt ∧ (F' 27 5).toInt = (F 27 5).toInt)) (fun F' => rm_w a kI kZ F') 0 0 := by
  refine rl_meti (cc := prog_7_method_24_code) (maxL := 3) (ret := (some .int)) (by decide) rfl (Nat.le_of_ble_eq_true rfl) ?_
  intro p e s m below meth c A ls hx hb hr hml hown hts hlocks hnm hP hK hD hS hA hN hl
  have hown : s.vm.findClass "RightsLimitModel" = some m.cls := hown
  have hG : ∀ x ∈ rl_G, x.before _ s = true := fun x h => hts x (List.mem_cons_of_mem _ h)
  have hl : lv_has ls 3 [(0, .ref (a 0)), (1, .int jn), (2, .int jw)] := hl
  obtain ⟨hcnt, hR⟩ := id hI
  refine lv_aload_n hx hb d_m_request_0 rfl (lv_at hl 0 rfl) ?_
  refine lv_iload_n hx hb d_m_request_1 rfl (lv_at hl 1 rfl) ?_
  refine lv_iconst (v := 0) hx hb d_m_request_2 (by decide) ?_
  refine lv_aload_n hx hb d_m_request_3 rfl (lv_at hl 0 rfl) ?_
  refine va_get (D := D) (ci := 5) (v := .int (F 27 5)) (C := "RightsLimitModel") (T := fT_m) (N := 33) hx hb hG fi_m hown hK hP 0 rfl rfl 20 (by decide) (hG _ wd_503) (fun _ h9 => h9) rfl d_m_request_4 ?_
  refine lv_iconst (v := 1) hx hb d_m_request_7 (by decide) ?_
  refine lv_isub hx hb d_m_request_8 ?_
  refine lv_topi (fun v1 ev1 => ?_)
  have iv1 : v1.toInt = (F 27 5).toInt - 1 := by rw [ev1]; exact rl_subk (by decide) (by omega) (by omega)
  refine rl_callr hS (va_runS (As := [.int jn, .int 0, .int v1]) (rest := [.ref (a 0)]) ⟨hx, hb, hml, hown, hG⟩ (k_m_in l D a kI kZ jn 0 v1 _) (cwS 3 hG (rl_gS wd_587 wd_588 wd_19 wd_589) rfl rfl rfl (by decide +kernel) ⟨Nat.le_of_ble_eq_true rfl, Nat.le_of_ble_eq_true rfl⟩) (rl_BR.pre rl_nw0 rl_P0 hK hN) rfl rfl hl.1 rfl (lv_room (Nat.le_of_ble_eq_true rfl)) d_m_request_9 ⟨Nat.le_of_ble_eq_true rfl, Nat.le_of_ble_eq_true rfl⟩) (fun r2 locs hw hS => ?_)
  try simp only [rl_n0] at hw
  rcases hw with ⟨rfl, h3⟩ | ⟨rfl, h3⟩
  · refine lv_if_eq (tgt := 25) hx hb d_m_request_12 (by decide) (fun c9 => absurd c9 (by decide)) (fun _ => ?_)
    refine lv_iload_n hx hb d_m_request_15 rfl (lv_at hl 2 rfl) ?_
    refine lv_iconst (v := 0) hx hb d_m_request_16 (by decide) ?_
    refine lv_bipush (v := 10) hx hb d_m_request_17 (by decide) ?_
    refine rl_callr hS (va_runS (As := [.int jw, .int 0, .int 10]) (rest := [.ref (a 0)]) ⟨hx, hb, hml, hown, hG⟩ (k_m_in l D a kI kZ jw 0 10 _) (cwS 3 hG (rl_gS wd_587 wd_588 wd_19 wd_589) rfl rfl rfl (by decide +kernel) ⟨Nat.le_of_ble_eq_true rfl, Nat.le_of_ble_eq_true rfl⟩) (rl_BR.pre rl_nw0 rl_P0 hK hN) rfl rfl hl.1 rfl (lv_room (Nat.le_of_ble_eq_true rfl)) d_m_request_19 ⟨Nat.le_of_ble_eq_true rfl, Nat.le_of_ble_eq_true rfl⟩) (fun r4 locs hw hS => ?_)
    try simp only [rl_n0, rl_n10] at hw
    rcases hw with ⟨rfl, h5⟩ | ⟨rfl, h5⟩
    · refine lv_if_ne (tgt := 29) hx hb d_m_request_22 (by decide) (fun _ => ?_) (fun c9 => absurd c9 (by decide))
      refine lv_iconst (v := 0) hx hb d_m_request_29 (by decide) ?_
      refine va_put (D := D) (ci := 5) (v := .int 0) (ty := .int) (C := "RightsLimitModel") (T := fT_m) (N := 33) hx hb hG fi_m fy_m fo_m fn_m hown hK hP hD hS 0 rfl rfl 0 (by decide) (hG _ wd_483) (fun _ h9 => h9) rfl (by decide +kernel) rfl rfl (Nat.le_of_ble_eq_true rfl) d_m_request_30 (fun H locs hP hD hS => ?_)
      obtain ⟨F6, eF6⟩ : ∃ G, G = rl_st F 27 0 0 := ⟨_, rfl⟩
      have hP : va_P D rl_cl (rm_w a kI kZ F6) H := by rw [eF6]; exact hP
      have hD : va_D A (rm_w a kI kZ F6) := by rw [eF6]; exact hD
      obtain ⟨tF6, hRF6⟩ := rm_putS eF6 (by decide) (by decide) (by decide) (by decide) hR
      refine lv_aload_n hx hb d_m_request_33 rfl (lv_at hl 0 rfl) ?_
      refine va_get (D := D) (ci := 5) (v := .int (F6 27 0)) (C := "RightsLimitModel") (T := fT_m) (N := 33) hx hb hG fi_m hown hK hP 0 rfl rfl 0 (by decide) (hG _ wd_483) (fun _ h9 => h9) rfl d_m_request_34 ?_
      refine lv_if_le (tgt := 42) hx hb d_m_request_37 (by decide) (fun c7 => ?_) (fun c7 => ?_)
      · have ic7 := rl_ile c7
        simp only [rl_n0] at ic7
        refine lv_iload_n hx hb d_m_request_42 rfl (lv_at hl 2 rfl) ?_
        by_cases hsw : jw.toInt < 0 ∨ 9 < jw.toInt
        · refine lv_tableOut (tgt := 165) hx hb d_m_request_43 hsw (by decide) ?_
          refine lv_aload_n hx hb d_m_request_165 rfl (lv_at hl 0 rfl) ?_
          refine va_get (D := D) (ci := 5) (v := .ref (a 26)) (C := "RightsLimitModel") (T := fT_m) (N := 33) hx hb hG fi_m hown hK hP 0 rfl rfl 31 (by decide) (hG _ wd_514) (fun _ h9 => h9) rfl d_m_request_166 ?_
          refine lv_iload_n hx hb d_m_request_169 rfl (lv_at hl 1 rfl) ?_
          refine va_iald hx hb hK hP 26 0 rfl rfl (rl_in (n := 300) (by omega) (by omega)) d_m_request_170 ?_
          refine lv_topi (fun v8 ev8 => ?_)
          exact W.iret (v := v8) hx hb hr (fun t ht hW => ⟨⟨v8, F6, rfl, ⟨hRF6, (show (F6 27 2).toInt = (F 27 2).toInt ∧ (F6 27 3).toInt = (F 27 3).toInt ∧ (F6 27 4).toInt = (F 27 4).toInt ∧ (F6 27 5).toInt = (F 27 5).toInt by omega)⟩, ⟨by rw [ht]; exact hP, hD⟩⟩, hS.F ht⟩) hS.2.2 d_m_request_171
        · have hsk : jw.toInt = 0 ∨ jw.toInt = 1 ∨ jw.toInt = 2 ∨ jw.toInt = 3 ∨ jw.toInt = 4 ∨ jw.toInt = 5 ∨ jw.toInt = 6 ∨ jw.toInt = 7 ∨ jw.toInt = 8 ∨ jw.toInt = 9 := by omega
          rcases hsk with hsk | hsk | hsk | hsk | hsk | hsk | hsk | hsk | hsk | hsk
          · refine lv_tableIn (off := 53) (tgt := 96) hx hb d_m_request_43 (by omega) (by omega) (by rw [hsk]; rfl) (by decide) ?_
            refine lv_aload_n hx hb d_m_request_96 rfl (lv_at hl 0 rfl) ?_
            refine va_get (D := D) (ci := 5) (v := .ref (a 16)) (C := "RightsLimitModel") (T := fT_m) (N := 33) hx hb hG fi_m hown hK hP 0 rfl rfl 21 (by decide) (hG _ wd_504) (fun _ h9 => h9) rfl d_m_request_97 ?_
            refine lv_iload_n hx hb d_m_request_100 rfl (lv_at hl 1 rfl) ?_
            refine va_iald hx hb hK hP 16 0 rfl rfl (rl_in (n := 300) (by omega) (by omega)) d_m_request_101 ?_
            refine lv_topi (fun v9 ev9 => ?_)
            exact W.iret (v := v9) hx hb hr (fun t ht hW => ⟨⟨v9, F6, rfl, ⟨hRF6, (show (F6 27 2).toInt = (F 27 2).toInt ∧ (F6 27 3).toInt = (F 27 3).toInt ∧ (F6 27 4).toInt = (F 27 4).toInt ∧ (F6 27 5).toInt = (F 27 5).toInt by omega)⟩, ⟨by rw [ht]; exact hP, hD⟩⟩, hS.F ht⟩) hS.2.2 d_m_request_102
          · refine lv_tableIn (off := 60) (tgt := 103) hx hb d_m_request_43 (by omega) (by omega) (by rw [hsk]; rfl) (by decide) ?_
            refine lv_aload_n hx hb d_m_request_103 rfl (lv_at hl 0 rfl) ?_
            refine va_get (D := D) (ci := 5) (v := .ref (a 17)) (C := "RightsLimitModel") (T := fT_m) (N := 33) hx hb hG fi_m hown hK hP 0 rfl rfl 22 (by decide) (hG _ wd_505) (fun _ h9 => h9) rfl d_m_request_104 ?_
            refine lv_iload_n hx hb d_m_request_107 rfl (lv_at hl 1 rfl) ?_
            refine va_iald hx hb hK hP 17 0 rfl rfl (rl_in (n := 300) (by omega) (by omega)) d_m_request_108 ?_
            refine lv_topi (fun v10 ev10 => ?_)
            exact W.iret (v := v10) hx hb hr (fun t ht hW => ⟨⟨v10, F6, rfl, ⟨hRF6, (show (F6 27 2).toInt = (F 27 2).toInt ∧ (F6 27 3).toInt = (F 27 3).toInt ∧ (F6 27 4).toInt = (F 27 4).toInt ∧ (F6 27 5).toInt = (F 27 5).toInt by omega)⟩, ⟨by rw [ht]; exact hP, hD⟩⟩, hS.F ht⟩) hS.2.2 d_m_request_109
          · refine lv_tableIn (off := 67) (tgt := 110) hx hb d_m_request_43 (by omega) (by omega) (by rw [hsk]; rfl) (by decide) ?_
            refine lv_aload_n hx hb d_m_request_110 rfl (lv_at hl 0 rfl) ?_
            refine va_get (D := D) (ci := 5) (v := .ref (a 18)) (C := "RightsLimitModel") (T := fT_m) (N := 33) hx hb hG fi_m hown hK hP 0 rfl rfl 23 (by decide) (hG _ wd_506) (fun _ h9 => h9) rfl d_m_request_111 ?_
            refine lv_iload_n hx hb d_m_request_114 rfl (lv_at hl 1 rfl) ?_
            refine va_iald hx hb hK hP 18 0 rfl rfl (rl_in (n := 300) (by omega) (by omega)) d_m_request_115 ?_
            refine lv_topi (fun v11 ev11 => ?_)
            exact W.iret (v := v11) hx hb hr (fun t ht hW => ⟨⟨v11, F6, rfl, ⟨hRF6, (show (F6 27 2).toInt = (F 27 2).toInt ∧ (F6 27 3).toInt = (F 27 3).toInt ∧ (F6 27 4).toInt = (F 27 4).toInt ∧ (F6 27 5).toInt = (F 27 5).toInt by omega)⟩, ⟨by rw [ht]; exact hP, hD⟩⟩, hS.F ht⟩) hS.2.2 d_m_request_116
          · refine lv_tableIn (off := 74) (tgt := 117) hx hb d_m_request_43 (by omega) (by omega) (by rw [hsk]; rfl) (by decide) ?_
            refine lv_aload_n hx hb d_m_request_117 rfl (lv_at hl 0 rfl) ?_
            refine va_get (D := D) (ci := 5) (v := .ref (a 19)) (C := "RightsLimitModel") (T := fT_m) (N := 33) hx hb hG fi_m hown hK hP 0 rfl rfl 24 (by decide) (hG _ wd_507) (fun _ h9 => h9) rfl d_m_request_118 ?_
            refine lv_iload_n hx hb d_m_request_121 rfl (lv_at hl 1 rfl) ?_
            refine va_iald hx hb hK hP 19 0 rfl rfl (rl_in (n := 300) (by omega) (by omega)) d_m_request_122 ?_
            refine lv_topi (fun v12 ev12 => ?_)
            exact W.iret (v := v12) hx hb hr (fun t ht hW => ⟨⟨v12, F6, rfl, ⟨hRF6, (show (F6 27 2).toInt = (F 27 2).toInt ∧ (F6 27 3).toInt = (F 27 3).toInt ∧ (F6 27 4).toInt = (F 27 4).toInt ∧ (F6 27 5).toInt = (F 27 5).toInt by omega)⟩, ⟨by rw [ht]; exact hP, hD⟩⟩, hS.F ht⟩) hS.2.2 d_m_request_123
          · refine lv_tableIn (off := 81) (tgt := 124) hx hb d_m_request_43 (by omega) (by omega) (by rw [hsk]; rfl) (by decide) ?_
            refine lv_aload_n hx hb d_m_request_124 rfl (lv_at hl 0 rfl) ?_
            refine va_get (D := D) (ci := 5) (v := .ref (a 20)) (C := "RightsLimitModel") (T := fT_m) (N := 33) hx hb hG fi_m hown hK hP 0 rfl rfl 25 (by decide) (hG _ wd_508) (fun _ h9 => h9) rfl d_m_request_125 ?_
            refine lv_iload_n hx hb d_m_request_128 rfl (lv_at hl 1 rfl) ?_
            refine va_iald hx hb hK hP 20 0 rfl rfl (rl_in (n := 300) (by omega) (by omega)) d_m_request_129 ?_
            refine lv_topi (fun v13 ev13 => ?_)
            exact W.iret (v := v13) hx hb hr (fun t ht hW => ⟨⟨v13, F6, rfl, ⟨hRF6, (show (F6 27 2).toInt = (F 27 2).toInt ∧ (F6 27 3).toInt = (F 27 3).toInt ∧ (F6 27 4).toInt = (F 27 4).toInt ∧ (F6 27 5).toInt = (F 27 5).toInt by omega)⟩, ⟨by rw [ht]; exact hP, hD⟩⟩, hS.F ht⟩) hS.2.2 d_m_request_130
          · refine lv_tableIn (off := 88) (tgt := 131) hx hb d_m_request_43 (by omega) (by omega) (by rw [hsk]; rfl) (by decide) ?_
            refine lv_aload_n hx hb d_m_request_131 rfl (lv_at hl 0 rfl) ?_
            refine va_get (D := D) (ci := 5) (v := .ref (a 21)) (C := "RightsLimitModel") (T := fT_m) (N := 33) hx hb hG fi_m hown hK hP 0 rfl rfl 26 (by decide) (hG _ wd_509) (fun _ h9 => h9) rfl d_m_request_132 ?_
            refine lv_iload_n hx hb d_m_request_135 rfl (lv_at hl 1 rfl) ?_
            refine va_iald hx hb hK hP 21 0 rfl rfl (rl_in (n := 300) (by omega) (by omega)) d_m_request_136 ?_
            refine lv_topi (fun v14 ev14 => ?_)
            exact W.iret (v := v14) hx hb hr (fun t ht hW => ⟨⟨v14, F6, rfl, ⟨hRF6, (show (F6 27 2).toInt = (F 27 2).toInt ∧ (F6 27 3).toInt = (F 27 3).toInt ∧ (F6 27 4).toInt = (F 27 4).toInt ∧ (F6 27 5).toInt = (F 27 5).toInt by omega)⟩, ⟨by rw [ht]; exact hP, hD⟩⟩, hS.F ht⟩) hS.2.2 d_m_request_137
          · refine lv_tableIn (off := 95) (tgt := 138) hx hb d_m_request_43 (by omega) (by omega) (by rw [hsk]; rfl) (by decide) ?_
            refine lv_aload_n hx hb d_m_request_138 rfl (lv_at hl 0 rfl) ?_
            refine va_get (D := D) (ci := 5) (v := .ref (a 22)) (C := "RightsLimitModel") (T := fT_m) (N := 33) hx hb hG fi_m hown hK hP 0 rfl rfl 27 (by decide) (hG _ wd_510) (fun _ h9 => h9) rfl d_m_request_139 ?_
            refine lv_iload_n hx hb d_m_request_142 rfl (lv_at hl 1 rfl) ?_
            refine va_iald hx hb hK hP 22 0 rfl rfl (rl_in (n := 300) (by omega) (by omega)) d_m_request_143 ?_
            refine lv_topi (fun v15 ev15 => ?_)
            exact W.iret (v := v15) hx hb hr (fun t ht hW => ⟨⟨v15, F6, rfl, ⟨hRF6, (show (F6 27 2).toInt = (F 27 2).toInt ∧ (F6 27 3).toInt = (F 27 3).toInt ∧ (F6 27 4).toInt = (F 27 4).toInt ∧ (F6 27 5).toInt = (F 27 5).toInt by omega)⟩, ⟨by rw [ht]; exact hP, hD⟩⟩, hS.F ht⟩) hS.2.2 d_m_request_144
          · refine lv_tableIn (off := 102) (tgt := 145) hx hb d_m_request_43 (by omega) (by omega) (by rw [hsk]; rfl) (by decide) ?_
            refine lv_aload_n hx hb d_m_request_145 rfl (lv_at hl 0 rfl) ?_
            refine lv_iload_n hx hb d_m_request_146 rfl (lv_at hl 1 rfl) ?_
            have hpre := rl_BR.pre (av := .ref (a 0) :: [.int jn]) rl_nw0 hP hK hN
            refine rl_callr hS (va_runV (As := [.int jn]) (rest := []) ⟨hx, hb, hml, hown, hG⟩ (k_m_cents l D a kI kZ F6 jn ⟨by omega, hRF6⟩ (by omega) (by omega) _) (cwV 1 hG (rl_gV wd_669 wd_671 wd_12 wd_19 wd_672) rfl rfl rfl (by decide +kernel) ⟨Nat.le_of_ble_eq_true rfl, Nat.le_of_ble_eq_true rfl⟩) ⟨hpre.1, (va_recv hK hP (ci := 5) (q0 := 0) rfl rfl), hpre.2⟩ rfl rfl hl.1 rfl (lv_room (Nat.le_of_ble_eq_true rfl)) d_m_request_147 ⟨Nat.le_of_ble_eq_true rfl, Nat.le_of_ble_eq_true rfl⟩) (fun r16 locs hw hS => ?_)
            have hwr16 := hw
            exact W.iret (v := r16) hx hb hr (fun t ht hW => ⟨⟨r16, F6, rfl, ⟨hRF6, (show (F6 27 2).toInt = (F 27 2).toInt ∧ (F6 27 3).toInt = (F 27 3).toInt ∧ (F6 27 4).toInt = (F 27 4).toInt ∧ (F6 27 5).toInt = (F 27 5).toInt by omega)⟩, ⟨by rw [ht]; exact hP, hD⟩⟩, hS.F ht⟩) hS.2.2 d_m_request_150
          · refine lv_tableIn (off := 108) (tgt := 151) hx hb d_m_request_43 (by omega) (by omega) (by rw [hsk]; rfl) (by decide) ?_
            refine lv_aload_n hx hb d_m_request_151 rfl (lv_at hl 0 rfl) ?_
            refine va_get (D := D) (ci := 5) (v := .ref (a 24)) (C := "RightsLimitModel") (T := fT_m) (N := 33) hx hb hG fi_m hown hK hP 0 rfl rfl 29 (by decide) (hG _ wd_512) (fun _ h9 => h9) rfl d_m_request_152 ?_
            refine lv_iload_n hx hb d_m_request_155 rfl (lv_at hl 1 rfl) ?_
            refine va_iald hx hb hK hP 24 0 rfl rfl (rl_in (n := 300) (by omega) (by omega)) d_m_request_156 ?_
            refine lv_topi (fun v17 ev17 => ?_)
            exact W.iret (v := v17) hx hb hr (fun t ht hW => ⟨⟨v17, F6, rfl, ⟨hRF6, (show (F6 27 2).toInt = (F 27 2).toInt ∧ (F6 27 3).toInt = (F 27 3).toInt ∧ (F6 27 4).toInt = (F 27 4).toInt ∧ (F6 27 5).toInt = (F 27 5).toInt by omega)⟩, ⟨by rw [ht]; exact hP, hD⟩⟩, hS.F ht⟩) hS.2.2 d_m_request_157
          · refine lv_tableIn (off := 115) (tgt := 158) hx hb d_m_request_43 (by omega) (by omega) (by rw [hsk]; rfl) (by decide) ?_
            refine lv_aload_n hx hb d_m_request_158 rfl (lv_at hl 0 rfl) ?_
            refine va_get (D := D) (ci := 5) (v := .ref (a 25)) (C := "RightsLimitModel") (T := fT_m) (N := 33) hx hb hG fi_m hown hK hP 0 rfl rfl 30 (by decide) (hG _ wd_513) (fun _ h9 => h9) rfl d_m_request_159 ?_
            refine lv_iload_n hx hb d_m_request_162 rfl (lv_at hl 1 rfl) ?_
            refine va_iald hx hb hK hP 25 0 rfl rfl (rl_in (n := 300) (by omega) (by omega)) d_m_request_163 ?_
            refine lv_topi (fun v18 ev18 => ?_)
            exact W.iret (v := v18) hx hb hr (fun t ht hW => ⟨⟨v18, F6, rfl, ⟨hRF6, (show (F6 27 2).toInt = (F 27 2).toInt ∧ (F6 27 3).toInt = (F 27 3).toInt ∧ (F6 27 4).toInt = (F 27 4).toInt ∧ (F6 27 5).toInt = (F 27 5).toInt by omega)⟩, ⟨by rw [ht]; exact hP, hD⟩⟩, hS.F ht⟩) hS.2.2 d_m_request_164
      · have ic7 := rl_inle c7
        simp only [rl_n0] at ic7
        refine lv_iconst (v := 0) hx hb d_m_request_40 (by decide) ?_
        exact W.iret (v := 0) hx hb hr (fun t ht hW => ⟨⟨0, F6, rfl, ⟨hRF6, (show (F6 27 2).toInt = (F 27 2).toInt ∧ (F6 27 3).toInt = (F 27 3).toInt ∧ (F6 27 4).toInt = (F 27 4).toInt ∧ (F6 27 5).toInt = (F 27 5).toInt by have q9 := rl_n0; omega)⟩, ⟨by rw [ht]; exact hP, hD⟩⟩, hS.F ht⟩) hS.2.2 d_m_request_41
    · refine lv_if_ne (tgt := 29) hx hb d_m_request_22 (by decide) (fun c9 => absurd c9 (by decide)) (fun _ => ?_)
      refine lv_iconst (v := 1) hx hb d_m_request_25 (by decide) ?_
      refine lv_goto (tgt := 30) hx hb d_m_request_26 (by decide) ?_
      refine va_put (D := D) (ci := 5) (v := .int 1) (ty := .int) (C := "RightsLimitModel") (T := fT_m) (N := 33) hx hb hG fi_m fy_m fo_m fn_m hown hK hP hD hS 0 rfl rfl 0 (by decide) (hG _ wd_483) (fun _ h9 => h9) rfl (by decide +kernel) rfl rfl (Nat.le_of_ble_eq_true rfl) d_m_request_30 (fun H locs hP hD hS => ?_)
      obtain ⟨F19, eF19⟩ : ∃ G, G = rl_st F 27 0 1 := ⟨_, rfl⟩
      have hP : va_P D rl_cl (rm_w a kI kZ F19) H := by rw [eF19]; exact hP
      have hD : va_D A (rm_w a kI kZ F19) := by rw [eF19]; exact hD
      obtain ⟨tF19, hRF19⟩ := rm_putS eF19 (by decide) (by decide) (by decide) (by decide) hR
      refine lv_aload_n hx hb d_m_request_33 rfl (lv_at hl 0 rfl) ?_
      refine va_get (D := D) (ci := 5) (v := .int (F19 27 0)) (C := "RightsLimitModel") (T := fT_m) (N := 33) hx hb hG fi_m hown hK hP 0 rfl rfl 0 (by decide) (hG _ wd_483) (fun _ h9 => h9) rfl d_m_request_34 ?_
      refine lv_if_le (tgt := 42) hx hb d_m_request_37 (by decide) (fun c20 => ?_) (fun c20 => ?_)
      · have ic20 := rl_ile c20
        simp only [rl_n0] at ic20
        refine lv_iload_n hx hb d_m_request_42 rfl (lv_at hl 2 rfl) ?_
        by_cases hsw : jw.toInt < 0 ∨ 9 < jw.toInt
        · refine lv_tableOut (tgt := 165) hx hb d_m_request_43 hsw (by decide) ?_
          refine lv_aload_n hx hb d_m_request_165 rfl (lv_at hl 0 rfl) ?_
          refine va_get (D := D) (ci := 5) (v := .ref (a 26)) (C := "RightsLimitModel") (T := fT_m) (N := 33) hx hb hG fi_m hown hK hP 0 rfl rfl 31 (by decide) (hG _ wd_514) (fun _ h9 => h9) rfl d_m_request_166 ?_
          refine lv_iload_n hx hb d_m_request_169 rfl (lv_at hl 1 rfl) ?_
          refine va_iald hx hb hK hP 26 0 rfl rfl (rl_in (n := 300) (by omega) (by omega)) d_m_request_170 ?_
          refine lv_topi (fun v21 ev21 => ?_)
          exact W.iret (v := v21) hx hb hr (fun t ht hW => ⟨⟨v21, F19, rfl, ⟨hRF19, (show (F19 27 2).toInt = (F 27 2).toInt ∧ (F19 27 3).toInt = (F 27 3).toInt ∧ (F19 27 4).toInt = (F 27 4).toInt ∧ (F19 27 5).toInt = (F 27 5).toInt by omega)⟩, ⟨by rw [ht]; exact hP, hD⟩⟩, hS.F ht⟩) hS.2.2 d_m_request_171
        · have hsk : jw.toInt = 0 ∨ jw.toInt = 1 ∨ jw.toInt = 2 ∨ jw.toInt = 3 ∨ jw.toInt = 4 ∨ jw.toInt = 5 ∨ jw.toInt = 6 ∨ jw.toInt = 7 ∨ jw.toInt = 8 ∨ jw.toInt = 9 := by omega
          rcases hsk with hsk | hsk | hsk | hsk | hsk | hsk | hsk | hsk | hsk | hsk
          · refine lv_tableIn (off := 53) (tgt := 96) hx hb d_m_request_43 (by omega) (by omega) (by rw [hsk]; rfl) (by decide) ?_
            refine lv_aload_n hx hb d_m_request_96 rfl (lv_at hl 0 rfl) ?_
            refine va_get (D := D) (ci := 5) (v := .ref (a 16)) (C := "RightsLimitModel") (T := fT_m) (N := 33) hx hb hG fi_m hown hK hP 0 rfl rfl 21 (by decide) (hG _ wd_504) (fun _ h9 => h9) rfl d_m_request_97 ?_
            refine lv_iload_n hx hb d_m_request_100 rfl (lv_at hl 1 rfl) ?_
            refine va_iald hx hb hK hP 16 0 rfl rfl (rl_in (n := 300) (by omega) (by omega)) d_m_request_101 ?_
            refine lv_topi (fun v22 ev22 => ?_)
            exact W.iret (v := v22) hx hb hr (fun t ht hW => ⟨⟨v22, F19, rfl, ⟨hRF19, (show (F19 27 2).toInt = (F 27 2).toInt ∧ (F19 27 3).toInt = (F 27 3).toInt ∧ (F19 27 4).toInt = (F 27 4).toInt ∧ (F19 27 5).toInt = (F 27 5).toInt by omega)⟩, ⟨by rw [ht]; exact hP, hD⟩⟩, hS.F ht⟩) hS.2.2 d_m_request_102
          · refine lv_tableIn (off := 60) (tgt := 103) hx hb d_m_request_43 (by omega) (by omega) (by rw [hsk]; rfl) (by decide) ?_
            refine lv_aload_n hx hb d_m_request_103 rfl (lv_at hl 0 rfl) ?_
            refine va_get (D := D) (ci := 5) (v := .ref (a 17)) (C := "RightsLimitModel") (T := fT_m) (N := 33) hx hb hG fi_m hown hK hP 0 rfl rfl 22 (by decide) (hG _ wd_505) (fun _ h9 => h9) rfl d_m_request_104 ?_
            refine lv_iload_n hx hb d_m_request_107 rfl (lv_at hl 1 rfl) ?_
            refine va_iald hx hb hK hP 17 0 rfl rfl (rl_in (n := 300) (by omega) (by omega)) d_m_request_108 ?_
            refine lv_topi (fun v23 ev23 => ?_)
            exact W.iret (v := v23) hx hb hr (fun t ht hW => ⟨⟨v23, F19, rfl, ⟨hRF19, (show (F19 27 2).toInt = (F 27 2).toInt ∧ (F19 27 3).toInt = (F 27 3).toInt ∧ (F19 27 4).toInt = (F 27 4).toInt ∧ (F19 27 5).toInt = (F 27 5).toInt by omega)⟩, ⟨by rw [ht]; exact hP, hD⟩⟩, hS.F ht⟩) hS.2.2 d_m_request_109
          · refine lv_tableIn (off := 67) (tgt := 110) hx hb d_m_request_43 (by omega) (by omega) (by rw [hsk]; rfl) (by decide) ?_
            refine lv_aload_n hx hb d_m_request_110 rfl (lv_at hl 0 rfl) ?_
            refine va_get (D := D) (ci := 5) (v := .ref (a 18)) (C := "RightsLimitModel") (T := fT_m) (N := 33) hx hb hG fi_m hown hK hP 0 rfl rfl 23 (by decide) (hG _ wd_506) (fun _ h9 => h9) rfl d_m_request_111 ?_
            refine lv_iload_n hx hb d_m_request_114 rfl (lv_at hl 1 rfl) ?_
            refine va_iald hx hb hK hP 18 0 rfl rfl (rl_in (n := 300) (by omega) (by omega)) d_m_request_115 ?_
            refine lv_topi (fun v24 ev24 => ?_)
            exact W.iret (v := v24) hx hb hr (fun t ht hW => ⟨⟨v24, F19, rfl, ⟨hRF19, (show (F19 27 2).toInt = (F 27 2).toInt ∧ (F19 27 3).toInt = (F 27 3).toInt ∧ (F19 27 4).toInt = (F 27 4).toInt ∧ (F19 27 5).toInt = (F 27 5).toInt by omega)⟩, ⟨by rw [ht]; exact hP, hD⟩⟩, hS.F ht⟩) hS.2.2 d_m_request_116
          · refine lv_tableIn (off := 74) (tgt := 117) hx hb d_m_request_43 (by omega) (by omega) (by rw [hsk]; rfl) (by decide) ?_
            refine lv_aload_n hx hb d_m_request_117 rfl (lv_at hl 0 rfl) ?_
            refine va_get (D := D) (ci := 5) (v := .ref (a 19)) (C := "RightsLimitModel") (T := fT_m) (N := 33) hx hb hG fi_m hown hK hP 0 rfl rfl 24 (by decide) (hG _ wd_507) (fun _ h9 => h9) rfl d_m_request_118 ?_
            refine lv_iload_n hx hb d_m_request_121 rfl (lv_at hl 1 rfl) ?_
            refine va_iald hx hb hK hP 19 0 rfl rfl (rl_in (n := 300) (by omega) (by omega)) d_m_request_122 ?_
            refine lv_topi (fun v25 ev25 => ?_)
            exact W.iret (v := v25) hx hb hr (fun t ht hW => ⟨⟨v25, F19, rfl, ⟨hRF19, (show (F19 27 2).toInt = (F 27 2).toInt ∧ (F19 27 3).toInt = (F 27 3).toInt ∧ (F19 27 4).toInt = (F 27 4).toInt ∧ (F19 27 5).toInt = (F 27 5).toInt by omega)⟩, ⟨by rw [ht]; exact hP, hD⟩⟩, hS.F ht⟩) hS.2.2 d_m_request_123
          · refine lv_tableIn (off := 81) (tgt := 124) hx hb d_m_request_43 (by omega) (by omega) (by rw [hsk]; rfl) (by decide) ?_
            refine lv_aload_n hx hb d_m_request_124 rfl (lv_at hl 0 rfl) ?_
            refine va_get (D := D) (ci := 5) (v := .ref (a 20)) (C := "RightsLimitModel") (T := fT_m) (N := 33) hx hb hG fi_m hown hK hP 0 rfl rfl 25 (by decide) (hG _ wd_508) (fun _ h9 => h9) rfl d_m_request_125 ?_
            refine lv_iload_n hx hb d_m_request_128 rfl (lv_at hl 1 rfl) ?_
            refine va_iald hx hb hK hP 20 0 rfl rfl (rl_in (n := 300) (by omega) (by omega)) d_m_request_129 ?_
            refine lv_topi (fun v26 ev26 => ?_)
            exact W.iret (v := v26) hx hb hr (fun t ht hW => ⟨⟨v26, F19, rfl, ⟨hRF19, (show (F19 27 2).toInt = (F 27 2).toInt ∧ (F19 27 3).toInt = (F 27 3).toInt ∧ (F19 27 4).toInt = (F 27 4).toInt ∧ (F19 27 5).toInt = (F 27 5).toInt by omega)⟩, ⟨by rw [ht]; exact hP, hD⟩⟩, hS.F ht⟩) hS.2.2 d_m_request_130
          · refine lv_tableIn (off := 88) (tgt := 131) hx hb d_m_request_43 (by omega) (by omega) (by rw [hsk]; rfl) (by decide) ?_
            refine lv_aload_n hx hb d_m_request_131 rfl (lv_at hl 0 rfl) ?_
            refine va_get (D := D) (ci := 5) (v := .ref (a 21)) (C := "RightsLimitModel") (T := fT_m) (N := 33) hx hb hG fi_m hown hK hP 0 rfl rfl 26 (by decide) (hG _ wd_509) (fun _ h9 => h9) rfl d_m_request_132 ?_
            refine lv_iload_n hx hb d_m_request_135 rfl (lv_at hl 1 rfl) ?_
            refine va_iald hx hb hK hP 21 0 rfl rfl (rl_in (n := 300) (by omega) (by omega)) d_m_request_136 ?_
            refine lv_topi (fun v27 ev27 => ?_)
            exact W.iret (v := v27) hx hb hr (fun t ht hW => ⟨⟨v27, F19, rfl, ⟨hRF19, (show (F19 27 2).toInt = (F 27 2).toInt ∧ (F19 27 3).toInt = (F 27 3).toInt ∧ (F19 27 4).toInt = (F 27 4).toInt ∧ (F19 27 5).toInt = (F 27 5).toInt by omega)⟩, ⟨by rw [ht]; exact hP, hD⟩⟩, hS.F ht⟩) hS.2.2 d_m_request_137
          · refine lv_tableIn (off := 95) (tgt := 138) hx hb d_m_request_43 (by omega) (by omega) (by rw [hsk]; rfl) (by decide) ?_
            refine lv_aload_n hx hb d_m_request_138 rfl (lv_at hl 0 rfl) ?_
            refine va_get (D := D) (ci := 5) (v := .ref (a 22)) (C := "RightsLimitModel") (T := fT_m) (N := 33) hx hb hG fi_m hown hK hP 0 rfl rfl 27 (by decide) (hG _ wd_510) (fun _ h9 => h9) rfl d_m_request_139 ?_
            refine lv_iload_n hx hb d_m_request_142 rfl (lv_at hl 1 rfl) ?_
            refine va_iald hx hb hK hP 22 0 rfl rfl (rl_in (n := 300) (by omega) (by omega)) d_m_request_143 ?_
            refine lv_topi (fun v28 ev28 => ?_)
            exact W.iret (v := v28) hx hb hr (fun t ht hW => ⟨⟨v28, F19, rfl, ⟨hRF19, (show (F19 27 2).toInt = (F 27 2).toInt ∧ (F19 27 3).toInt = (F 27 3).toInt ∧ (F19 27 4).toInt = (F 27 4).toInt ∧ (F19 27 5).toInt = (F 27 5).toInt by omega)⟩, ⟨by rw [ht]; exact hP, hD⟩⟩, hS.F ht⟩) hS.2.2 d_m_request_144
          · refine lv_tableIn (off := 102) (tgt := 145) hx hb d_m_request_43 (by omega) (by omega) (by rw [hsk]; rfl) (by decide) ?_
            refine lv_aload_n hx hb d_m_request_145 rfl (lv_at hl 0 rfl) ?_
            refine lv_iload_n hx hb d_m_request_146 rfl (lv_at hl 1 rfl) ?_
            have hpre := rl_BR.pre (av := .ref (a 0) :: [.int jn]) rl_nw0 hP hK hN
            refine rl_callr hS (va_runV (As := [.int jn]) (rest := []) ⟨hx, hb, hml, hown, hG⟩ (k_m_cents l D a kI kZ F19 jn ⟨by omega, hRF19⟩ (by omega) (by omega) _) (cwV 1 hG (rl_gV wd_669 wd_671 wd_12 wd_19 wd_672) rfl rfl rfl (by decide +kernel) ⟨Nat.le_of_ble_eq_true rfl, Nat.le_of_ble_eq_true rfl⟩) ⟨hpre.1, (va_recv hK hP (ci := 5) (q0 := 0) rfl rfl), hpre.2⟩ rfl rfl hl.1 rfl (lv_room (Nat.le_of_ble_eq_true rfl)) d_m_request_147 ⟨Nat.le_of_ble_eq_true rfl, Nat.le_of_ble_eq_true rfl⟩) (fun r29 locs hw hS => ?_)
            have hwr29 := hw
            exact W.iret (v := r29) hx hb hr (fun t ht hW => ⟨⟨r29, F19, rfl, ⟨hRF19, (show (F19 27 2).toInt = (F 27 2).toInt ∧ (F19 27 3).toInt = (F 27 3).toInt ∧ (F19 27 4).toInt = (F 27 4).toInt ∧ (F19 27 5).toInt = (F 27 5).toInt by omega)⟩, ⟨by rw [ht]; exact hP, hD⟩⟩, hS.F ht⟩) hS.2.2 d_m_request_150
          · refine lv_tableIn (off := 108) (tgt := 151) hx hb d_m_request_43 (by omega) (by omega) (by rw [hsk]; rfl) (by decide) ?_
            refine lv_aload_n hx hb d_m_request_151 rfl (lv_at hl 0 rfl) ?_
            refine va_get (D := D) (ci := 5) (v := .ref (a 24)) (C := "RightsLimitModel") (T := fT_m) (N := 33) hx hb hG fi_m hown hK hP 0 rfl rfl 29 (by decide) (hG _ wd_512) (fun _ h9 => h9) rfl d_m_request_152 ?_
            refine lv_iload_n hx hb d_m_request_155 rfl (lv_at hl 1 rfl) ?_
            refine va_iald hx hb hK hP 24 0 rfl rfl (rl_in (n := 300) (by omega) (by omega)) d_m_request_156 ?_
            refine lv_topi (fun v30 ev30 => ?_)
            exact W.iret (v := v30) hx hb hr (fun t ht hW => ⟨⟨v30, F19, rfl, ⟨hRF19, (show (F19 27 2).toInt = (F 27 2).toInt ∧ (F19 27 3).toInt = (F 27 3).toInt ∧ (F19 27 4).toInt = (F 27 4).toInt ∧ (F19 27 5).toInt = (F 27 5).toInt by omega)⟩, ⟨by rw [ht]; exact hP, hD⟩⟩, hS.F ht⟩) hS.2.2 d_m_request_157
          · refine lv_tableIn (off := 115) (tgt := 158) hx hb d_m_request_43 (by omega) (by omega) (by rw [hsk]; rfl) (by decide) ?_
            refine lv_aload_n hx hb d_m_request_158 rfl (lv_at hl 0 rfl) ?_
            refine va_get (D := D) (ci := 5) (v := .ref (a 25)) (C := "RightsLimitModel") (T := fT_m) (N := 33) hx hb hG fi_m hown hK hP 0 rfl rfl 30 (by decide) (hG _ wd_513) (fun _ h9 => h9) rfl d_m_request_159 ?_
            refine lv_iload_n hx hb d_m_request_162 rfl (lv_at hl 1 rfl) ?_
            refine va_iald hx hb hK hP 25 0 rfl rfl (rl_in (n := 300) (by omega) (by omega)) d_m_request_163 ?_
            refine lv_topi (fun v31 ev31 => ?_)
            exact W.iret (v := v31) hx hb hr (fun t ht hW => ⟨⟨v31, F19, rfl, ⟨hRF19, (show (F19 27 2).toInt = (F 27 2).toInt ∧ (F19 27 3).toInt = (F 27 3).toInt ∧ (F19 27 4).toInt = (F 27 4).toInt ∧ (F19 27 5).toInt = (F 27 5).toInt by omega)⟩, ⟨by rw [ht]; exact hP, hD⟩⟩, hS.F ht⟩) hS.2.2 d_m_request_164
      · have ic20 := rl_inle c20
        simp only [rl_n0] at ic20
        refine lv_iconst (v := 0) hx hb d_m_request_40 (by decide) ?_
        exact W.iret (v := 0) hx hb hr (fun t ht hW => ⟨⟨0, F19, rfl, ⟨hRF19, (show (F19 27 2).toInt = (F 27 2).toInt ∧ (F19 27 3).toInt = (F 27 3).toInt ∧ (F19 27 4).toInt = (F 27 4).toInt ∧ (F19 27 5).toInt = (F 27 5).toInt by have q9 := rl_n0; omega)⟩, ⟨by rw [ht]; exact hP, hD⟩⟩, hS.F ht⟩) hS.2.2 d_m_request_41
  · refine lv_if_eq (tgt := 25) hx hb d_m_request_12 (by decide) (fun _ => ?_) (fun c9 => absurd c9 (by decide))
    refine lv_iconst (v := 1) hx hb d_m_request_25 (by decide) ?_
    refine lv_goto (tgt := 30) hx hb d_m_request_26 (by decide) ?_
    refine va_put (D := D) (ci := 5) (v := .int 1) (ty := .int) (C := "RightsLimitModel") (T := fT_m) (N := 33) hx hb hG fi_m fy_m fo_m fn_m hown hK hP hD hS 0 rfl rfl 0 (by decide) (hG _ wd_483) (fun _ h9 => h9) rfl (by decide +kernel) rfl rfl (Nat.le_of_ble_eq_true rfl) d_m_request_30 (fun H locs hP hD hS => ?_)
    obtain ⟨F32, eF32⟩ : ∃ G, G = rl_st F 27 0 1 := ⟨_, rfl⟩
    have hP : va_P D rl_cl (rm_w a kI kZ F32) H := by rw [eF32]; exact hP
    have hD : va_D A (rm_w a kI kZ F32) := by rw [eF32]; exact hD
    obtain ⟨tF32, hRF32⟩ := rm_putS eF32 (by decide) (by decide) (by decide) (by decide) hR
    refine lv_aload_n hx hb d_m_request_33 rfl (lv_at hl 0 rfl) ?_
    refine va_get (D := D) (ci := 5) (v := .int (F32 27 0)) (C := "RightsLimitModel") (T := fT_m) (N := 33) hx hb hG fi_m hown hK hP 0 rfl rfl 0 (by decide) (hG _ wd_483) (fun _ h9 => h9) rfl d_m_request_34 ?_
    refine lv_if_le (tgt := 42) hx hb d_m_request_37 (by decide) (fun c33 => ?_) (fun c33 => ?_)
    · have ic33 := rl_ile c33
      simp only [rl_n0] at ic33
      refine lv_iload_n hx hb d_m_request_42 rfl (lv_at hl 2 rfl) ?_
      by_cases hsw : jw.toInt < 0 ∨ 9 < jw.toInt
      · refine lv_tableOut (tgt := 165) hx hb d_m_request_43 hsw (by decide) ?_
        refine lv_aload_n hx hb d_m_request_165 rfl (lv_at hl 0 rfl) ?_
        refine va_get (D := D) (ci := 5) (v := .ref (a 26)) (C := "RightsLimitModel") (T := fT_m) (N := 33) hx hb hG fi_m hown hK hP 0 rfl rfl 31 (by decide) (hG _ wd_514) (fun _ h9 => h9) rfl d_m_request_166 ?_
        refine lv_iload_n hx hb d_m_request_169 rfl (lv_at hl 1 rfl) ?_
        refine va_iald hx hb hK hP 26 0 rfl rfl (rl_in (n := 300) (by omega) (by omega)) d_m_request_170 ?_
        refine lv_topi (fun v34 ev34 => ?_)
        exact W.iret (v := v34) hx hb hr (fun t ht hW => ⟨⟨v34, F32, rfl, ⟨hRF32, (show (F32 27 2).toInt = (F 27 2).toInt ∧ (F32 27 3).toInt = (F 27 3).toInt ∧ (F32 27 4).toInt = (F 27 4).toInt ∧ (F32 27 5).toInt = (F 27 5).toInt by omega)⟩, ⟨by rw [ht]; exact hP, hD⟩⟩, hS.F ht⟩) hS.2.2 d_m_request_171
      · have hsk : jw.toInt = 0 ∨ jw.toInt = 1 ∨ jw.toInt = 2 ∨ jw.toInt = 3 ∨ jw.toInt = 4 ∨ jw.toInt = 5 ∨ jw.toInt = 6 ∨ jw.toInt = 7 ∨ jw.toInt = 8 ∨ jw.toInt = 9 := by omega
        rcases hsk with hsk | hsk | hsk | hsk | hsk | hsk | hsk | hsk | hsk | hsk
        · refine lv_tableIn (off := 53) (tgt := 96) hx hb d_m_request_43 (by omega) (by omega) (by rw [hsk]; rfl) (by decide) ?_
          refine lv_aload_n hx hb d_m_request_96 rfl (lv_at hl 0 rfl) ?_
          refine va_get (D := D) (ci := 5) (v := .ref (a 16)) (C := "RightsLimitModel") (T := fT_m) (N := 33) hx hb hG fi_m hown hK hP 0 rfl rfl 21 (by decide) (hG _ wd_504) (fun _ h9 => h9) rfl d_m_request_97 ?_
          refine lv_iload_n hx hb d_m_request_100 rfl (lv_at hl 1 rfl) ?_
          refine va_iald hx hb hK hP 16 0 rfl rfl (rl_in (n := 300) (by omega) (by omega)) d_m_request_101 ?_
          refine lv_topi (fun v35 ev35 => ?_)
          exact W.iret (v := v35) hx hb hr (fun t ht hW => ⟨⟨v35, F32, rfl, ⟨hRF32, (show (F32 27 2).toInt = (F 27 2).toInt ∧ (F32 27 3).toInt = (F 27 3).toInt ∧ (F32 27 4).toInt = (F 27 4).toInt ∧ (F32 27 5).toInt = (F 27 5).toInt by omega)⟩, ⟨by rw [ht]; exact hP, hD⟩⟩, hS.F ht⟩) hS.2.2 d_m_request_102
        · refine lv_tableIn (off := 60) (tgt := 103) hx hb d_m_request_43 (by omega) (by omega) (by rw [hsk]; rfl) (by decide) ?_
          refine lv_aload_n hx hb d_m_request_103 rfl (lv_at hl 0 rfl) ?_
          refine va_get (D := D) (ci := 5) (v := .ref (a 17)) (C := "RightsLimitModel") (T := fT_m) (N := 33) hx hb hG fi_m hown hK hP 0 rfl rfl 22 (by decide) (hG _ wd_505) (fun _ h9 => h9) rfl d_m_request_104 ?_
          refine lv_iload_n hx hb d_m_request_107 rfl (lv_at hl 1 rfl) ?_
          refine va_iald hx hb hK hP 17 0 rfl rfl (rl_in (n := 300) (by omega) (by omega)) d_m_request_108 ?_
          refine lv_topi (fun v36 ev36 => ?_)
          exact W.iret (v := v36) hx hb hr (fun t ht hW => ⟨⟨v36, F32, rfl, ⟨hRF32, (show (F32 27 2).toInt = (F 27 2).toInt ∧ (F32 27 3).toInt = (F 27 3).toInt ∧ (F32 27 4).toInt = (F 27 4).toInt ∧ (F32 27 5).toInt = (F 27 5).toInt by omega)⟩, ⟨by rw [ht]; exact hP, hD⟩⟩, hS.F ht⟩) hS.2.2 d_m_request_109
        · refine lv_tableIn (off := 67) (tgt := 110) hx hb d_m_request_43 (by omega) (by omega) (by rw [hsk]; rfl) (by decide) ?_
          refine lv_aload_n hx hb d_m_request_110 rfl (lv_at hl 0 rfl) ?_
          refine va_get (D := D) (ci := 5) (v := .ref (a 18)) (C := "RightsLimitModel") (T := fT_m) (N := 33) hx hb hG fi_m hown hK hP 0 rfl rfl 23 (by decide) (hG _ wd_506) (fun _ h9 => h9) rfl d_m_request_111 ?_
          refine lv_iload_n hx hb d_m_request_114 rfl (lv_at hl 1 rfl) ?_
          refine va_iald hx hb hK hP 18 0 rfl rfl (rl_in (n := 300) (by omega) (by omega)) d_m_request_115 ?_
          refine lv_topi (fun v37 ev37 => ?_)
          exact W.iret (v := v37) hx hb hr (fun t ht hW => ⟨⟨v37, F32, rfl, ⟨hRF32, (show (F32 27 2).toInt = (F 27 2).toInt ∧ (F32 27 3).toInt = (F 27 3).toInt ∧ (F32 27 4).toInt = (F 27 4).toInt ∧ (F32 27 5).toInt = (F 27 5).toInt by omega)⟩, ⟨by rw [ht]; exact hP, hD⟩⟩, hS.F ht⟩) hS.2.2 d_m_request_116
        · refine lv_tableIn (off := 74) (tgt := 117) hx hb d_m_request_43 (by omega) (by omega) (by rw [hsk]; rfl) (by decide) ?_
          refine lv_aload_n hx hb d_m_request_117 rfl (lv_at hl 0 rfl) ?_
          refine va_get (D := D) (ci := 5) (v := .ref (a 19)) (C := "RightsLimitModel") (T := fT_m) (N := 33) hx hb hG fi_m hown hK hP 0 rfl rfl 24 (by decide) (hG _ wd_507) (fun _ h9 => h9) rfl d_m_request_118 ?_
          refine lv_iload_n hx hb d_m_request_121 rfl (lv_at hl 1 rfl) ?_
          refine va_iald hx hb hK hP 19 0 rfl rfl (rl_in (n := 300) (by omega) (by omega)) d_m_request_122 ?_
          refine lv_topi (fun v38 ev38 => ?_)
          exact W.iret (v := v38) hx hb hr (fun t ht hW => ⟨⟨v38, F32, rfl, ⟨hRF32, (show (F32 27 2).toInt = (F 27 2).toInt ∧ (F32 27 3).toInt = (F 27 3).toInt ∧ (F32 27 4).toInt = (F 27 4).toInt ∧ (F32 27 5).toInt = (F 27 5).toInt by omega)⟩, ⟨by rw [ht]; exact hP, hD⟩⟩, hS.F ht⟩) hS.2.2 d_m_request_123
        · refine lv_tableIn (off := 81) (tgt := 124) hx hb d_m_request_43 (by omega) (by omega) (by rw [hsk]; rfl) (by decide) ?_
          refine lv_aload_n hx hb d_m_request_124 rfl (lv_at hl 0 rfl) ?_
          refine va_get (D := D) (ci := 5) (v := .ref (a 20)) (C := "RightsLimitModel") (T := fT_m) (N := 33) hx hb hG fi_m hown hK hP 0 rfl rfl 25 (by decide) (hG _ wd_508) (fun _ h9 => h9) rfl d_m_request_125 ?_
          refine lv_iload_n hx hb d_m_request_128 rfl (lv_at hl 1 rfl) ?_
          refine va_iald hx hb hK hP 20 0 rfl rfl (rl_in (n := 300) (by omega) (by omega)) d_m_request_129 ?_
          refine lv_topi (fun v39 ev39 => ?_)
          exact W.iret (v := v39) hx hb hr (fun t ht hW => ⟨⟨v39, F32, rfl, ⟨hRF32, (show (F32 27 2).toInt = (F 27 2).toInt ∧ (F32 27 3).toInt = (F 27 3).toInt ∧ (F32 27 4).toInt = (F 27 4).toInt ∧ (F32 27 5).toInt = (F 27 5).toInt by omega)⟩, ⟨by rw [ht]; exact hP, hD⟩⟩, hS.F ht⟩) hS.2.2 d_m_request_130
        · refine lv_tableIn (off := 88) (tgt := 131) hx hb d_m_request_43 (by omega) (by omega) (by rw [hsk]; rfl) (by decide) ?_
          refine lv_aload_n hx hb d_m_request_131 rfl (lv_at hl 0 rfl) ?_
          refine va_get (D := D) (ci := 5) (v := .ref (a 21)) (C := "RightsLimitModel") (T := fT_m) (N := 33) hx hb hG fi_m hown hK hP 0 rfl rfl 26 (by decide) (hG _ wd_509) (fun _ h9 => h9) rfl d_m_request_132 ?_
          refine lv_iload_n hx hb d_m_request_135 rfl (lv_at hl 1 rfl) ?_
          refine va_iald hx hb hK hP 21 0 rfl rfl (rl_in (n := 300) (by omega) (by omega)) d_m_request_136 ?_
          refine lv_topi (fun v40 ev40 => ?_)
          exact W.iret (v := v40) hx hb hr (fun t ht hW => ⟨⟨v40, F32, rfl, ⟨hRF32, (show (F32 27 2).toInt = (F 27 2).toInt ∧ (F32 27 3).toInt = (F 27 3).toInt ∧ (F32 27 4).toInt = (F 27 4).toInt ∧ (F32 27 5).toInt = (F 27 5).toInt by omega)⟩, ⟨by rw [ht]; exact hP, hD⟩⟩, hS.F ht⟩) hS.2.2 d_m_request_137
        · refine lv_tableIn (off := 95) (tgt := 138) hx hb d_m_request_43 (by omega) (by omega) (by rw [hsk]; rfl) (by decide) ?_
          refine lv_aload_n hx hb d_m_request_138 rfl (lv_at hl 0 rfl) ?_
          refine va_get (D := D) (ci := 5) (v := .ref (a 22)) (C := "RightsLimitModel") (T := fT_m) (N := 33) hx hb hG fi_m hown hK hP 0 rfl rfl 27 (by decide) (hG _ wd_510) (fun _ h9 => h9) rfl d_m_request_139 ?_
          refine lv_iload_n hx hb d_m_request_142 rfl (lv_at hl 1 rfl) ?_
          refine va_iald hx hb hK hP 22 0 rfl rfl (rl_in (n := 300) (by omega) (by omega)) d_m_request_143 ?_
          refine lv_topi (fun v41 ev41 => ?_)
          exact W.iret (v := v41) hx hb hr (fun t ht hW => ⟨⟨v41, F32, rfl, ⟨hRF32, (show (F32 27 2).toInt = (F 27 2).toInt ∧ (F32 27 3).toInt = (F 27 3).toInt ∧ (F32 27 4).toInt = (F 27 4).toInt ∧ (F32 27 5).toInt = (F 27 5).toInt by omega)⟩, ⟨by rw [ht]; exact hP, hD⟩⟩, hS.F ht⟩) hS.2.2 d_m_request_144
        · refine lv_tableIn (off := 102) (tgt := 145) hx hb d_m_request_43 (by omega) (by omega) (by rw [hsk]; rfl) (by decide) ?_
          refine lv_aload_n hx hb d_m_request_145 rfl (lv_at hl 0 rfl) ?_
          refine lv_iload_n hx hb d_m_request_146 rfl (lv_at hl 1 rfl) ?_
          have hpre := rl_BR.pre (av := .ref (a 0) :: [.int jn]) rl_nw0 hP hK hN
          refine rl_callr hS (va_runV (As := [.int jn]) (rest := []) ⟨hx, hb, hml, hown, hG⟩ (k_m_cents l D a kI kZ F32 jn ⟨by omega, hRF32⟩ (by omega) (by omega) _) (cwV 1 hG (rl_gV wd_669 wd_671 wd_12 wd_19 wd_672) rfl rfl rfl (by decide +kernel) ⟨Nat.le_of_ble_eq_true rfl, Nat.le_of_ble_eq_true rfl⟩) ⟨hpre.1, (va_recv hK hP (ci := 5) (q0 := 0) rfl rfl), hpre.2⟩ rfl rfl hl.1 rfl (lv_room (Nat.le_of_ble_eq_true rfl)) d_m_request_147 ⟨Nat.le_of_ble_eq_true rfl, Nat.le_of_ble_eq_true rfl⟩) (fun r42 locs hw hS => ?_)
          have hwr42 := hw
          exact W.iret (v := r42) hx hb hr (fun t ht hW => ⟨⟨r42, F32, rfl, ⟨hRF32, (show (F32 27 2).toInt = (F 27 2).toInt ∧ (F32 27 3).toInt = (F 27 3).toInt ∧ (F32 27 4).toInt = (F 27 4).toInt ∧ (F32 27 5).toInt = (F 27 5).toInt by omega)⟩, ⟨by rw [ht]; exact hP, hD⟩⟩, hS.F ht⟩) hS.2.2 d_m_request_150
        · refine lv_tableIn (off := 108) (tgt := 151) hx hb d_m_request_43 (by omega) (by omega) (by rw [hsk]; rfl) (by decide) ?_
          refine lv_aload_n hx hb d_m_request_151 rfl (lv_at hl 0 rfl) ?_
          refine va_get (D := D) (ci := 5) (v := .ref (a 24)) (C := "RightsLimitModel") (T := fT_m) (N := 33) hx hb hG fi_m hown hK hP 0 rfl rfl 29 (by decide) (hG _ wd_512) (fun _ h9 => h9) rfl d_m_request_152 ?_
          refine lv_iload_n hx hb d_m_request_155 rfl (lv_at hl 1 rfl) ?_
          refine va_iald hx hb hK hP 24 0 rfl rfl (rl_in (n := 300) (by omega) (by omega)) d_m_request_156 ?_
          refine lv_topi (fun v43 ev43 => ?_)
          exact W.iret (v := v43) hx hb hr (fun t ht hW => ⟨⟨v43, F32, rfl, ⟨hRF32, (show (F32 27 2).toInt = (F 27 2).toInt ∧ (F32 27 3).toInt = (F 27 3).toInt ∧ (F32 27 4).toInt = (F 27 4).toInt ∧ (F32 27 5).toInt = (F 27 5).toInt by omega)⟩, ⟨by rw [ht]; exact hP, hD⟩⟩, hS.F ht⟩) hS.2.2 d_m_request_157
        · refine lv_tableIn (off := 115) (tgt := 158) hx hb d_m_request_43 (by omega) (by omega) (by rw [hsk]; rfl) (by decide) ?_
          refine lv_aload_n hx hb d_m_request_158 rfl (lv_at hl 0 rfl) ?_
          refine va_get (D := D) (ci := 5) (v := .ref (a 25)) (C := "RightsLimitModel") (T := fT_m) (N := 33) hx hb hG fi_m hown hK hP 0 rfl rfl 30 (by decide) (hG _ wd_513) (fun _ h9 => h9) rfl d_m_request_159 ?_
          refine lv_iload_n hx hb d_m_request_162 rfl (lv_at hl 1 rfl) ?_
          refine va_iald hx hb hK hP 25 0 rfl rfl (rl_in (n := 300) (by omega) (by omega)) d_m_request_163 ?_
          refine lv_topi (fun v44 ev44 => ?_)
          exact W.iret (v := v44) hx hb hr (fun t ht hW => ⟨⟨v44, F32, rfl, ⟨hRF32, (show (F32 27 2).toInt = (F 27 2).toInt ∧ (F32 27 3).toInt = (F 27 3).toInt ∧ (F32 27 4).toInt = (F 27 4).toInt ∧ (F32 27 5).toInt = (F 27 5).toInt by omega)⟩, ⟨by rw [ht]; exact hP, hD⟩⟩, hS.F ht⟩) hS.2.2 d_m_request_164
    · have ic33 := rl_inle c33
      simp only [rl_n0] at ic33
      refine lv_iconst (v := 0) hx hb d_m_request_40 (by decide) ?_
      exact W.iret (v := 0) hx hb hr (fun t ht hW => ⟨⟨0, F32, rfl, ⟨hRF32, (show (F32 27 2).toInt = (F 27 2).toInt ∧ (F32 27 3).toInt = (F 27 3).toInt ∧ (F32 27 4).toInt = (F 27 4).toInt ∧ (F32 27 5).toInt = (F 27 5).toInt by have q9 := rl_n0; omega)⟩, ⟨by rw [ht]; exact hP, hD⟩⟩, hS.F ht⟩) hS.2.2 d_m_request_41
set_option maxHeartbeats 4000000 in
set_option maxRecDepth 100000 in
theorem k_m_past (l : Launch) (D : va_G) (a : Nat → Nat) (kI kZ : ClassId) (F : Nat → Nat → Int32) (jt jn : Int32) (hI : rm_I F) (sz : Nat) : rl_Ci (S := Nat → Nat → Int32) l ⟨"RightsLimitModel", "past", "(II)I"⟩ (Cond.code ⟨"RightsLimitModel", "past", "(II)I"⟩ prog_7_method_27_code 5 (some .int) :: rl_G) { frames := 0, cells := 0, slots := 0, locals := 0 } D rl_cl (rl_tys kI kZ) [] [.ref (a 0), .int jt, .int jn] (rm_w a kI kZ F) sz (fun (r : Int32) (F' : Nat → Nat → Int32) => rm_R F' ∧ ((F' 27 2).toInt = (F 27 2).toInt ∧ (F' 27 3).toInt = (F 27 3).toInt ∧ (F' 27 4).toInt = (F 27 4).toInt ∧ (F' 27 5).toInt = (F 27 5).toInt)) (fun F' => rm_w a kI kZ F') 0 0 := by
  refine rl_meti (cc := prog_7_method_27_code) (maxL := 5) (ret := (some .int)) (by decide) rfl (Nat.le_of_ble_eq_true rfl) ?_
  intro p e s m below meth c A ls hx hb hr hml hown hts hlocks hnm hP hK hD hS hA hN hl
  have hown : s.vm.findClass "RightsLimitModel" = some m.cls := hown
  have hG : ∀ x ∈ rl_G, x.before _ s = true := fun x h => hts x (List.mem_cons_of_mem _ h)
  have hl : lv_has ls 5 [(0, .ref (a 0)), (1, .int jt), (2, .int jn)] := hl
  obtain ⟨hcnt, hR⟩ := id hI
  refine lv_iload_n hx hb d_m_past_0 rfl (lv_at hl 2 rfl) ?_
  refine lv_istore_n (lv' := [(3, .int jn), (0, .ref (a 0)), (1, .int jt), (2, .int jn)]) hx hb d_m_past_1 rfl hl (by decide) rfl (fun ls hl => ?_)
  refine lv_iconst (v := 0) hx hb d_m_past_2 (by decide) ?_
  refine lv_istore (lv' := [(4, .int 0), (3, .int jn), (0, .ref (a 0)), (1, .int jt), (2, .int jn)]) hx hb d_m_past_3 hl (by decide) rfl (fun ls hl => ?_)
  have loop : ∀ (n : Nat) (fo i : Int32), 0 ≤ i.toInt → i.toInt ≤ (F 27 5).toInt → (F 27 5).toInt - i.toInt < n → ∀ (H : Heap) (locs : List Loc) (ls : Array Slot), va_P D rl_cl (rm_w a kI kZ F) H → va_D A (rm_w a kI kZ F) → va_S A s.heap H locs → lv_has ls 5 [(0, .ref (a 0)), (1, .int jt), (2, .int jn), (3, .int fo), (4, .int i)] → W p l e ({ frames := 0, cells := 0, slots := 0, locals := 0 } : Room) s m ([.ref (a 0), .int jt, .int jn] : List Value).toArray below meth c H locs 0 0 (MQ below (va_Qi (S := Nat → Nat → Int32) (fun (r : Int32) (F' : Nat → Nat → Int32) => rm_R F' ∧ ((F' 27 2).toInt = (F 27 2).toInt ∧ (F' 27 3).toInt = (F 27 3).toInt ∧ (F' 27 4).toInt = (F 27 4).toInt ∧ (F' 27 5).toInt = (F 27 5).toInt)) (fun u t => va_P D rl_cl (rm_w a kI kZ u) t.heap ∧ va_D A (rm_w a kI kZ u)) A) ([.ref (a 0), .int jt, .int jn] : List Value).toArray s 0 0 A) (F0 m 5 ls []) := by
    intro n
    induction n with
    | zero => intro fo i h1 h2 h3; exact absurd h3 (by omega)
    | succ n ih =>
      intro fo i h1 h2 h3 H locs ls hP hD hS hl
      refine lv_iload hx hb d_m_past_5 (lv_at hl 4 rfl) ?_
      refine lv_aload_n hx hb d_m_past_7 rfl (lv_at hl 0 rfl) ?_
      refine va_get (D := D) (ci := 5) (v := .int (F 27 5)) (C := "RightsLimitModel") (T := fT_m) (N := 33) hx hb hG fi_m hown hK hP 0 rfl rfl 20 (by decide) (hG _ wd_503) (fun _ h9 => h9) rfl d_m_past_8 ?_
      refine lv_icmp_ge (tgt := 69) hx hb d_m_past_11 (by decide) (fun c1 => ?_) (fun c1 => ?_)
      · have ic1 := rl_ile c1
        refine lv_aload_n hx hb d_m_past_69 rfl (lv_at hl 0 rfl) ?_
        refine lv_iconst (v := 1) hx hb d_m_past_70 (by decide) ?_
        refine va_put (D := D) (ci := 5) (v := .int 1) (ty := .int) (C := "RightsLimitModel") (T := fT_m) (N := 33) hx hb hG fi_m fy_m fo_m fn_m hown hK hP hD hS 0 rfl rfl 0 (by decide) (hG _ wd_483) (fun _ h9 => h9) rfl (by decide +kernel) rfl rfl (Nat.le_of_ble_eq_true rfl) d_m_past_71 (fun H locs hP hD hS => ?_)
        obtain ⟨F2, eF2⟩ : ∃ G, G = rl_st F 27 0 1 := ⟨_, rfl⟩
        have hP : va_P D rl_cl (rm_w a kI kZ F2) H := by rw [eF2]; exact hP
        have hD : va_D A (rm_w a kI kZ F2) := by rw [eF2]; exact hD
        obtain ⟨tF2, hRF2⟩ := rm_putS eF2 (by decide) (by decide) (by decide) (by decide) hR
        refine lv_iconst (v := 0) hx hb d_m_past_74 (by decide) ?_
        exact W.iret (v := 0) hx hb hr (fun t ht hW => ⟨⟨0, F2, rfl, ⟨hRF2, (show (F2 27 2).toInt = (F 27 2).toInt ∧ (F2 27 3).toInt = (F 27 3).toInt ∧ (F2 27 4).toInt = (F 27 4).toInt ∧ (F2 27 5).toInt = (F 27 5).toInt by have q9 := rl_n0; omega)⟩, ⟨by rw [ht]; exact hP, hD⟩⟩, hS.F ht⟩) hS.2.2 d_m_past_75
      · have ic1 := rl_inle c1
        refine lv_aload_n hx hb d_m_past_14 rfl (lv_at hl 0 rfl) ?_
        refine va_get (D := D) (ci := 5) (v := .ref (a 21)) (C := "RightsLimitModel") (T := fT_m) (N := 33) hx hb hG fi_m hown hK hP 0 rfl rfl 26 (by decide) (hG _ wd_509) (fun _ h9 => h9) rfl d_m_past_15 ?_
        refine lv_iload hx hb d_m_past_18 (lv_at hl 4 rfl) ?_
        refine va_iald hx hb hK hP 21 0 rfl rfl (rl_in (n := 300) (by omega) (by omega)) d_m_past_20 ?_
        refine lv_topi (fun v3 ev3 => ?_)
        refine lv_if_eq (tgt := 63) hx hb d_m_past_21 (by decide) (fun c4 => ?_) (fun c4 => ?_)
        · have ic4 := rl_ieq c4
          simp only [rl_n0] at ic4
          obtain ⟨x5, ex5⟩ : ∃ y : Int32, y = i + 1 := ⟨_, rfl⟩
          refine lv_iinc (v := x5) (lv' := [(4, .int x5), (0, .ref (a 0)), (1, .int jt), (2, .int jn), (3, .int fo)]) hx hb d_m_past_63 hl (k := 4) rfl (by rw [ex5]; rfl) (by decide) rfl (fun ls hl => ?_)
          have ix5 : x5.toInt = i.toInt + 1 := by rw [ex5]; exact rl_inc (by omega)
          refine lv_goto (tgt := 5) hx hb d_m_past_66 (by decide) ?_
          exact ih fo x5 (by omega) (by omega) (by omega) _ _ _ hP hD hS (lv_sub hl [1, 2, 3, 4, 0] rfl)
        · have ic4 := rl_ine c4
          simp only [rl_n0] at ic4
          refine lv_aload_n hx hb d_m_past_24 rfl (lv_at hl 0 rfl) ?_
          refine va_get (D := D) (ci := 5) (v := .ref (a 26)) (C := "RightsLimitModel") (T := fT_m) (N := 33) hx hb hG fi_m hown hK hP 0 rfl rfl 31 (by decide) (hG _ wd_514) (fun _ h9 => h9) rfl d_m_past_25 ?_
          refine lv_iload hx hb d_m_past_28 (lv_at hl 4 rfl) ?_
          refine va_iald hx hb hK hP 26 0 rfl rfl (rl_in (n := 300) (by omega) (by omega)) d_m_past_30 ?_
          refine lv_topi (fun v6 ev6 => ?_)
          refine lv_if_ge (tgt := 63) hx hb d_m_past_31 (by decide) (fun c7 => ?_) (fun c7 => ?_)
          · have ic7 := rl_ile c7
            simp only [rl_n0] at ic7
            obtain ⟨x8, ex8⟩ : ∃ y : Int32, y = i + 1 := ⟨_, rfl⟩
            refine lv_iinc (v := x8) (lv' := [(4, .int x8), (0, .ref (a 0)), (1, .int jt), (2, .int jn), (3, .int fo)]) hx hb d_m_past_63 hl (k := 4) rfl (by rw [ex8]; rfl) (by decide) rfl (fun ls hl => ?_)
            have ix8 : x8.toInt = i.toInt + 1 := by rw [ex8]; exact rl_inc (by omega)
            refine lv_goto (tgt := 5) hx hb d_m_past_66 (by decide) ?_
            exact ih fo x8 (by omega) (by omega) (by omega) _ _ _ hP hD hS (lv_sub hl [1, 2, 3, 4, 0] rfl)
          · have ic7 := rl_inle c7
            simp only [rl_n0] at ic7
            refine lv_aload_n hx hb d_m_past_34 rfl (lv_at hl 0 rfl) ?_
            refine va_get (D := D) (ci := 5) (v := .ref (a 24)) (C := "RightsLimitModel") (T := fT_m) (N := 33) hx hb hG fi_m hown hK hP 0 rfl rfl 29 (by decide) (hG _ wd_512) (fun _ h9 => h9) rfl d_m_past_35 ?_
            refine lv_iload hx hb d_m_past_38 (lv_at hl 4 rfl) ?_
            refine va_iald hx hb hK hP 24 0 rfl rfl (rl_in (n := 300) (by omega) (by omega)) d_m_past_40 ?_
            refine lv_topi (fun v9 ev9 => ?_)
            refine lv_iload_n hx hb d_m_past_41 rfl (lv_at hl 1 rfl) ?_
            refine lv_icmp_le (tgt := 48) hx hb d_m_past_42 (by decide) (fun c10 => ?_) (fun c10 => ?_)
            · have ic10 := rl_ile c10
              refine lv_iload_n hx hb d_m_past_48 rfl (lv_at hl 3 rfl) ?_
              refine lv_if_ne (tgt := 60) hx hb d_m_past_49 (by decide) (fun c11 => ?_) (fun c11 => ?_)
              · have ic11 := rl_ine c11
                simp only [rl_n0] at ic11
                obtain ⟨x12, ex12⟩ : ∃ y : Int32, y = fo + (-1) := ⟨_, rfl⟩
                refine lv_iinc (v := x12) (lv' := [(3, .int x12), (0, .ref (a 0)), (1, .int jt), (2, .int jn), (4, .int i)]) hx hb d_m_past_60 hl (k := 3) rfl (by rw [ex12]; rfl) (by decide) rfl (fun ls hl => ?_)
                obtain ⟨x13, ex13⟩ : ∃ y : Int32, y = i + 1 := ⟨_, rfl⟩
                refine lv_iinc (v := x13) (lv' := [(4, .int x13), (3, .int x12), (0, .ref (a 0)), (1, .int jt), (2, .int jn)]) hx hb d_m_past_63 hl (k := 4) rfl (by rw [ex13]; rfl) (by decide) rfl (fun ls hl => ?_)
                have ix13 : x13.toInt = i.toInt + 1 := by rw [ex13]; exact rl_inc (by omega)
                refine lv_goto (tgt := 5) hx hb d_m_past_66 (by decide) ?_
                exact ih x12 x13 (by omega) (by omega) (by omega) _ _ _ hP hD hS (lv_sub hl [2, 3, 4, 1, 0] rfl)
              · have ic11 := rl_ieq c11
                simp only [rl_n0] at ic11
                refine lv_aload_n hx hb d_m_past_52 rfl (lv_at hl 0 rfl) ?_
                refine lv_iconst (v := 0) hx hb d_m_past_53 (by decide) ?_
                refine va_put (D := D) (ci := 5) (v := .int 0) (ty := .int) (C := "RightsLimitModel") (T := fT_m) (N := 33) hx hb hG fi_m fy_m fo_m fn_m hown hK hP hD hS 0 rfl rfl 0 (by decide) (hG _ wd_483) (fun _ h9 => h9) rfl (by decide +kernel) rfl rfl (Nat.le_of_ble_eq_true rfl) d_m_past_54 (fun H locs hP hD hS => ?_)
                obtain ⟨F14, eF14⟩ : ∃ G, G = rl_st F 27 0 0 := ⟨_, rfl⟩
                have hP : va_P D rl_cl (rm_w a kI kZ F14) H := by rw [eF14]; exact hP
                have hD : va_D A (rm_w a kI kZ F14) := by rw [eF14]; exact hD
                obtain ⟨tF14, hRF14⟩ := rm_putS eF14 (by decide) (by decide) (by decide) (by decide) hR
                refine lv_iload hx hb d_m_past_57 (lv_at hl 4 rfl) ?_
                exact W.iret (v := i) hx hb hr (fun t ht hW => ⟨⟨i, F14, rfl, ⟨hRF14, (show (F14 27 2).toInt = (F 27 2).toInt ∧ (F14 27 3).toInt = (F 27 3).toInt ∧ (F14 27 4).toInt = (F 27 4).toInt ∧ (F14 27 5).toInt = (F 27 5).toInt by omega)⟩, ⟨by rw [ht]; exact hP, hD⟩⟩, hS.F ht⟩) hS.2.2 d_m_past_59
            · have ic10 := rl_inle c10
              refine lv_goto (tgt := 63) hx hb d_m_past_45 (by decide) ?_
              obtain ⟨x15, ex15⟩ : ∃ y : Int32, y = i + 1 := ⟨_, rfl⟩
              refine lv_iinc (v := x15) (lv' := [(4, .int x15), (0, .ref (a 0)), (1, .int jt), (2, .int jn), (3, .int fo)]) hx hb d_m_past_63 hl (k := 4) rfl (by rw [ex15]; rfl) (by decide) rfl (fun ls hl => ?_)
              have ix15 : x15.toInt = i.toInt + 1 := by rw [ex15]; exact rl_inc (by omega)
              refine lv_goto (tgt := 5) hx hb d_m_past_66 (by decide) ?_
              exact ih fo x15 (by omega) (by omega) (by omega) _ _ _ hP hD hS (lv_sub hl [1, 2, 3, 4, 0] rfl)
  exact loop 400 jn 0 (by decide) (by simp only [rl_n0]; omega) (by simp only [rl_n0]; omega) _ _ _ hP hD hS (lv_sub hl [2, 3, 4, 1, 0] rfl)
