set_option maxHeartbeats 4000000 in
set_option maxRecDepth 100000 in
theorem k_m_title (l : Launch) (D : va_G) (a : Nat → Nat) (kI kZ : ClassId) (F : Nat → Nat → Int32) (jp : Int32) (hI : rm_I F) (sz : Nat) : rl_Ci (S := Nat → Nat → Int32) l ⟨"RightsLimitModel", "title", "(I)I"⟩ (Cond.code ⟨"RightsLimitModel", "title", "(I)I"⟩ prog_7_method_6_code 2 (some .int) :: rl_G) { frames := 1, cells := 0, slots := 0, locals := 22 } D rl_cl (rl_tys kI kZ) [] [.ref (a 0), .int jp] (rm_w a kI kZ F) sz (fun (r : Int32) (F' : Nat → Nat → Int32) => rm_R F' ∧ (((0 ≤ jp.toInt ∧ jp.toInt ≤ 99) ∧ (F 27 2).toInt < 50 ∧ r.toInt = (F 27 2).toInt ∧ (F' 27 2).toInt = (F 27 2).toInt + 1 ∧ (F' 27 3).toInt = (F 27 3).toInt ∧ (F' 27 4).toInt = (F 27 4).toInt ∧ (F' 27 5).toInt = (F 27 5).toInt) ∨ ((0 ≤ jp.toInt ∧ jp.toInt ≤ 99) ∧ 50 ≤ (F 27 2).toInt ∧ r.toInt = -4 ∧ (F' 27 2).toInt = (F 27 2).toInt ∧ (F' 27 3).toInt = (F 27 3).toInt ∧ (F' 27 4).toInt = (F 27 4).toInt ∧ (F' 27 5).toInt = (F 27 5).toInt) ∨ (¬ (0 ≤ jp.toInt ∧ jp.toInt ≤ 99) ∧ r.toInt = -2 ∧ (F' 27 2).toInt = (F 27 2).toInt ∧ (F' 27 3).toInt = (F 27 3).toInt ∧ (F' 27 4).toInt = (F 27 4).toInt ∧ (F' 27 5).toInt = (F 27 5).toInt))) (fun F' => rm_w a kI kZ F') 0 0 := by
  refine rl_meti (cc := prog_7_method_6_code) (maxL := 2) (ret := (some .int)) (by decide) rfl (Nat.le_of_ble_eq_true rfl) ?_
  intro p e s m below meth c A ls hx hb hr hml hown hts hlocks hnm hP hK hD hS hA hN hl
  have hown : s.vm.findClass "RightsLimitModel" = some m.cls := hown
  have hG : ∀ x ∈ rl_G, x.before _ s = true := fun x h => hts x (List.mem_cons_of_mem _ h)
  have hl : lv_has ls 2 [(0, .ref (a 0)), (1, .int jp)] := hl
  obtain ⟨hcnt, hR⟩ := id hI
  refine lv_aload_n hx hb d_m_title_0 rfl (lv_at hl 0 rfl) ?_
  refine lv_iconst (v := 0) hx hb d_m_title_1 (by decide) ?_
  refine va_put (D := D) (ci := 5) (v := .int 0) (ty := .int) (C := "RightsLimitModel") (T := fT_m) (N := 33) hx hb hG fi_m fy_m fo_m fn_m hown hK hP hD hS 0 rfl rfl 0 (by decide) (hG _ wd_483) (fun _ h9 => h9) rfl (by decide +kernel) rfl rfl (Nat.le_of_ble_eq_true rfl) d_m_title_2 (fun H locs hP hD hS => ?_)
  obtain ⟨F1, eF1⟩ : ∃ G, G = rl_st F 27 0 0 := ⟨_, rfl⟩
  have hP : va_P D rl_cl (rm_w a kI kZ F1) H := by rw [eF1]; exact hP
  have hD : va_D A (rm_w a kI kZ F1) := by rw [eF1]; exact hD
  obtain ⟨tF1, hRF1⟩ := rm_putS eF1 (by decide) (by decide) (by decide) (by decide) hR
  refine lv_iload_n hx hb d_m_title_5 rfl (lv_at hl 1 rfl) ?_
  refine lv_iconst (v := 0) hx hb d_m_title_6 (by decide) ?_
  refine lv_bipush (v := 99) hx hb d_m_title_7 (by decide) ?_
  refine rl_callr hS (va_runS (As := [.int jp, .int 0, .int 99]) (rest := []) ⟨hx, hb, hml, hown, hG⟩ (k_m_in l D a kI kZ jp 0 99 _) (cwS 3 hG (rl_gS wd_587 wd_588 wd_19 wd_589) rfl rfl rfl (by decide +kernel) ⟨Nat.le_of_ble_eq_true rfl, Nat.le_of_ble_eq_true rfl⟩) (rl_BR.pre rl_nw0 rl_P0 hK hN) rfl rfl hl.1 rfl (lv_room (Nat.le_of_ble_eq_true rfl)) d_m_title_9 ⟨Nat.le_of_ble_eq_true rfl, Nat.le_of_ble_eq_true rfl⟩) (fun r2 locs hw hS => ?_)
  try simp only [rl_n0, rl_n99] at hw
  rcases hw with ⟨rfl, h3⟩ | ⟨rfl, h3⟩
  · refine lv_if_ne (tgt := 18) hx hb d_m_title_12 (by decide) (fun _ => ?_) (fun c9 => absurd c9 (by decide))
    refine lv_aload_n hx hb d_m_title_18 rfl (lv_at hl 0 rfl) ?_
    refine va_get (D := D) (ci := 5) (v := .int (F1 27 2)) (C := "RightsLimitModel") (T := fT_m) (N := 33) hx hb hG fi_m hown hK hP 0 rfl rfl 2 (by decide) (hG _ wd_485) (fun _ h9 => h9) rfl d_m_title_19 ?_
    refine lv_bipush (v := 50) hx hb d_m_title_22 (by decide) ?_
    refine lv_icmp_ne (tgt := 30) hx hb d_m_title_24 (by decide) (fun c4 => ?_) (fun c4 => ?_)
    · have ic4 := rl_ine c4
      simp only [rl_n50] at ic4
      refine lv_aload_n hx hb d_m_title_30 rfl (lv_at hl 0 rfl) ?_
      refine va_get (D := D) (ci := 5) (v := .ref (a 1)) (C := "RightsLimitModel") (T := fT_m) (N := 33) hx hb hG fi_m hown hK hP 0 rfl rfl 3 (by decide) (hG _ wd_486) (fun _ h9 => h9) rfl d_m_title_31 ?_
      refine lv_aload_n hx hb d_m_title_34 rfl (lv_at hl 0 rfl) ?_
      refine va_get (D := D) (ci := 5) (v := .int (F1 27 2)) (C := "RightsLimitModel") (T := fT_m) (N := 33) hx hb hG fi_m hown hK hP 0 rfl rfl 2 (by decide) (hG _ wd_485) (fun _ h9 => h9) rfl d_m_title_35 ?_
      refine lv_iload_n hx hb d_m_title_38 rfl (lv_at hl 1 rfl) ?_
      refine va_iast hx hb hK hP hD hS 1 0 rfl rfl (rl_in (n := 50) (by omega) (by omega)) d_m_title_39 (fun H locs hP hD hS => ?_)
      obtain ⟨F5, eF5⟩ : ∃ G, G = rl_st F1 0 ((F1 27 2).toNatClampNeg) jp := ⟨_, rfl⟩
      have hP : va_P D rl_cl (rm_w a kI kZ F5) H := by rw [eF5]; exact hP
      have hD : va_D A (rm_w a kI kZ F5) := by rw [eF5]; exact hD
      obtain ⟨tF5, hRF5⟩ := rm_keep0 eF5 (⟨by omega, by omega⟩) hRF1
      refine lv_aload_n hx hb d_m_title_40 rfl (lv_at hl 0 rfl) ?_
      refine lv_dup hx hb d_m_title_41 rfl ?_
      refine va_get (D := D) (ci := 5) (v := .int (F5 27 2)) (C := "RightsLimitModel") (T := fT_m) (N := 33) hx hb hG fi_m hown hK hP 0 rfl rfl 2 (by decide) (hG _ wd_485) (fun _ h9 => h9) rfl d_m_title_42 ?_
      refine lv_iconst (v := 1) hx hb d_m_title_45 (by decide) ?_
      refine lv_iadd hx hb d_m_title_46 ?_
      refine lv_topi (fun v6 ev6 => ?_)
      have iv6 : v6.toInt = (F5 27 2).toInt + 1 := by rw [ev6]; exact rl_addk (by decide) (by omega) (by omega)
      refine va_put (D := D) (ci := 5) (v := .int v6) (ty := .int) (C := "RightsLimitModel") (T := fT_m) (N := 33) hx hb hG fi_m fy_m fo_m fn_m hown hK hP hD hS 0 rfl rfl 2 (by decide) (hG _ wd_485) (fun _ h9 => h9) rfl (by decide +kernel) rfl rfl (Nat.le_of_ble_eq_true rfl) d_m_title_47 (fun H locs hP hD hS => ?_)
      obtain ⟨F7, eF7⟩ : ∃ G, G = rl_st F5 27 2 v6 := ⟨_, rfl⟩
      have hP : va_P D rl_cl (rm_w a kI kZ F7) H := by rw [eF7]; exact hP
      have hD : va_D A (rm_w a kI kZ F7) := by rw [eF7]; exact hD
      obtain ⟨tF7, hRF7⟩ := rm_put2 eF7 hRF5
      refine lv_aload_n hx hb d_m_title_50 rfl (lv_at hl 0 rfl) ?_
      refine va_get (D := D) (ci := 5) (v := .int (F7 27 2)) (C := "RightsLimitModel") (T := fT_m) (N := 33) hx hb hG fi_m hown hK hP 0 rfl rfl 2 (by decide) (hG _ wd_485) (fun _ h9 => h9) rfl d_m_title_51 ?_
      refine lv_iconst (v := 1) hx hb d_m_title_54 (by decide) ?_
      refine lv_isub hx hb d_m_title_55 ?_
      refine lv_topi (fun v8 ev8 => ?_)
      have iv8 : v8.toInt = (F7 27 2).toInt - 1 := by rw [ev8]; exact rl_subk (by decide) (by omega) (by omega)
      exact W.iret (v := v8) hx hb hr (fun t ht hW => ⟨⟨v8, F7, rfl, ⟨hRF7, (show ((0 ≤ jp.toInt ∧ jp.toInt ≤ 99) ∧ (F 27 2).toInt < 50 ∧ v8.toInt = (F 27 2).toInt ∧ (F7 27 2).toInt = (F 27 2).toInt + 1 ∧ (F7 27 3).toInt = (F 27 3).toInt ∧ (F7 27 4).toInt = (F 27 4).toInt ∧ (F7 27 5).toInt = (F 27 5).toInt) ∨ ((0 ≤ jp.toInt ∧ jp.toInt ≤ 99) ∧ 50 ≤ (F 27 2).toInt ∧ v8.toInt = -4 ∧ (F7 27 2).toInt = (F 27 2).toInt ∧ (F7 27 3).toInt = (F 27 3).toInt ∧ (F7 27 4).toInt = (F 27 4).toInt ∧ (F7 27 5).toInt = (F 27 5).toInt) ∨ (¬ (0 ≤ jp.toInt ∧ jp.toInt ≤ 99) ∧ v8.toInt = -2 ∧ (F7 27 2).toInt = (F 27 2).toInt ∧ (F7 27 3).toInt = (F 27 3).toInt ∧ (F7 27 4).toInt = (F 27 4).toInt ∧ (F7 27 5).toInt = (F 27 5).toInt) by omega)⟩, ⟨by rw [ht]; exact hP, hD⟩⟩, hS.F ht⟩) hS.2.2 d_m_title_56
    · have ic4 := rl_ieq c4
      simp only [rl_n50] at ic4
      refine lv_bipush (v := (-4)) hx hb d_m_title_27 (by decide) ?_
      exact W.iret (v := (-4)) hx hb hr (fun t ht hW => ⟨⟨(-4), F1, rfl, ⟨hRF1, (show ((0 ≤ jp.toInt ∧ jp.toInt ≤ 99) ∧ (F 27 2).toInt < 50 ∧ ((-4) : Int32).toInt = (F 27 2).toInt ∧ (F1 27 2).toInt = (F 27 2).toInt + 1 ∧ (F1 27 3).toInt = (F 27 3).toInt ∧ (F1 27 4).toInt = (F 27 4).toInt ∧ (F1 27 5).toInt = (F 27 5).toInt) ∨ ((0 ≤ jp.toInt ∧ jp.toInt ≤ 99) ∧ 50 ≤ (F 27 2).toInt ∧ ((-4) : Int32).toInt = -4 ∧ (F1 27 2).toInt = (F 27 2).toInt ∧ (F1 27 3).toInt = (F 27 3).toInt ∧ (F1 27 4).toInt = (F 27 4).toInt ∧ (F1 27 5).toInt = (F 27 5).toInt) ∨ (¬ (0 ≤ jp.toInt ∧ jp.toInt ≤ 99) ∧ ((-4) : Int32).toInt = -2 ∧ (F1 27 2).toInt = (F 27 2).toInt ∧ (F1 27 3).toInt = (F 27 3).toInt ∧ (F1 27 4).toInt = (F 27 4).toInt ∧ (F1 27 5).toInt = (F 27 5).toInt) by have q9 := rl_nm4; omega)⟩, ⟨by rw [ht]; exact hP, hD⟩⟩, hS.F ht⟩) hS.2.2 d_m_title_29
  · refine lv_if_ne (tgt := 18) hx hb d_m_title_12 (by decide) (fun c9 => absurd c9 (by decide)) (fun _ => ?_)
    refine lv_bipush (v := (-2)) hx hb d_m_title_15 (by decide) ?_
    exact W.iret (v := (-2)) hx hb hr (fun t ht hW => ⟨⟨(-2), F1, rfl, ⟨hRF1, (show ((0 ≤ jp.toInt ∧ jp.toInt ≤ 99) ∧ (F 27 2).toInt < 50 ∧ ((-2) : Int32).toInt = (F 27 2).toInt ∧ (F1 27 2).toInt = (F 27 2).toInt + 1 ∧ (F1 27 3).toInt = (F 27 3).toInt ∧ (F1 27 4).toInt = (F 27 4).toInt ∧ (F1 27 5).toInt = (F 27 5).toInt) ∨ ((0 ≤ jp.toInt ∧ jp.toInt ≤ 99) ∧ 50 ≤ (F 27 2).toInt ∧ ((-2) : Int32).toInt = -4 ∧ (F1 27 2).toInt = (F 27 2).toInt ∧ (F1 27 3).toInt = (F 27 3).toInt ∧ (F1 27 4).toInt = (F 27 4).toInt ∧ (F1 27 5).toInt = (F 27 5).toInt) ∨ (¬ (0 ≤ jp.toInt ∧ jp.toInt ≤ 99) ∧ ((-2) : Int32).toInt = -2 ∧ (F1 27 2).toInt = (F 27 2).toInt ∧ (F1 27 3).toInt = (F 27 3).toInt ∧ (F1 27 4).toInt = (F 27 4).toInt ∧ (F1 27 5).toInt = (F 27 5).toInt) by have q9 := rl_nm2; omega)⟩, ⟨by rw [ht]; exact hP, hD⟩⟩, hS.F ht⟩) hS.2.2 d_m_title_17
set_option maxHeartbeats 4000000 in
set_option maxRecDepth 100000 in
theorem k_m_open (l : Launch) (D : va_G) (a : Nat → Nat) (kI kZ : ClassId) (F : Nat → Nat → Int32) (jt jb : Int32) (hI : rm_I F) (sz : Nat) : rl_Ci (S := Nat → Nat → Int32) l ⟨"RightsLimitModel", "open", "(IZ)I"⟩ (Cond.code ⟨"RightsLimitModel", "open", "(IZ)I"⟩ prog_7_method_7_code 3 (some .int) :: rl_G) { frames := 2, cells := 0, slots := 0, locals := 43 } D rl_cl (rl_tys kI kZ) [] [.ref (a 0), .int jt, .int jb] (rm_w a kI kZ F) sz (fun (r : Int32) (F' : Nat → Nat → Int32) => rm_R F' ∧ ((((0 ≤ jt.toInt ∧ jt.toInt < (F 27 2).toInt) ∧ r.toInt = 1) ∨ (¬ (0 ≤ jt.toInt ∧ jt.toInt < (F 27 2).toInt) ∧ r.toInt = -1)) ∧ (F' 27 2).toInt = (F 27 2).toInt ∧ (F' 27 3).toInt = (F 27 3).toInt ∧ (F' 27 4).toInt = (F 27 4).toInt ∧ (F' 27 5).toInt = (F 27 5).toInt)) (fun F' => rm_w a kI kZ F') 0 0 := by
  refine rl_meti (cc := prog_7_method_7_code) (maxL := 3) (ret := (some .int)) (by decide) rfl (Nat.le_of_ble_eq_true rfl) ?_
  intro p e s m below meth c A ls hx hb hr hml hown hts hlocks hnm hP hK hD hS hA hN hl
  have hown : s.vm.findClass "RightsLimitModel" = some m.cls := hown
  have hG : ∀ x ∈ rl_G, x.before _ s = true := fun x h => hts x (List.mem_cons_of_mem _ h)
  have hl : lv_has ls 3 [(0, .ref (a 0)), (1, .int jt), (2, .int jb)] := hl
  obtain ⟨hcnt, hR⟩ := id hI
  refine lv_aload_n hx hb d_m_open_0 rfl (lv_at hl 0 rfl) ?_
  refine lv_iconst (v := 0) hx hb d_m_open_1 (by decide) ?_
  refine va_put (D := D) (ci := 5) (v := .int 0) (ty := .int) (C := "RightsLimitModel") (T := fT_m) (N := 33) hx hb hG fi_m fy_m fo_m fn_m hown hK hP hD hS 0 rfl rfl 0 (by decide) (hG _ wd_483) (fun _ h9 => h9) rfl (by decide +kernel) rfl rfl (Nat.le_of_ble_eq_true rfl) d_m_open_2 (fun H locs hP hD hS => ?_)
  obtain ⟨F1, eF1⟩ : ∃ G, G = rl_st F 27 0 0 := ⟨_, rfl⟩
  have hP : va_P D rl_cl (rm_w a kI kZ F1) H := by rw [eF1]; exact hP
  have hD : va_D A (rm_w a kI kZ F1) := by rw [eF1]; exact hD
  obtain ⟨tF1, hRF1⟩ := rm_putS eF1 (by decide) (by decide) (by decide) (by decide) hR
  refine lv_aload_n hx hb d_m_open_5 rfl (lv_at hl 0 rfl) ?_
  refine lv_iload_n hx hb d_m_open_6 rfl (lv_at hl 1 rfl) ?_
  have hpre := rl_BR.pre (av := .ref (a 0) :: [.int jt]) rl_nw0 hP hK hN
  refine rl_callr hS (va_runV (As := [.int jt]) (rest := []) ⟨hx, hb, hml, hown, hG⟩ (k_m_isTitle l D a kI kZ F1 jt ⟨by omega, hRF1⟩ _) (cwV 1 hG (rl_gV wd_594 wd_596 wd_6 wd_19 wd_597) rfl rfl rfl (by decide +kernel) ⟨Nat.le_of_ble_eq_true rfl, Nat.le_of_ble_eq_true rfl⟩) ⟨hpre.1, (va_recv hK hP (ci := 5) (q0 := 0) rfl rfl), hpre.2⟩ rfl rfl hl.1 rfl (lv_room (Nat.le_of_ble_eq_true rfl)) d_m_open_7 ⟨Nat.le_of_ble_eq_true rfl, Nat.le_of_ble_eq_true rfl⟩) (fun r2 locs hw hS => ?_)
  rcases hw with ⟨rfl, h3⟩ | ⟨rfl, h3⟩
  · refine lv_if_ne (tgt := 15) hx hb d_m_open_10 (by decide) (fun _ => ?_) (fun c9 => absurd c9 (by decide))
    refine lv_aload_n hx hb d_m_open_15 rfl (lv_at hl 0 rfl) ?_
    refine va_get (D := D) (ci := 5) (v := .ref (a 2)) (C := "RightsLimitModel") (T := fT_m) (N := 33) hx hb hG fi_m hown hK hP 0 rfl rfl 4 (by decide) (hG _ wd_487) (fun _ h9 => h9) rfl d_m_open_16 ?_
    refine lv_iload_n hx hb d_m_open_19 rfl (lv_at hl 1 rfl) ?_
    refine lv_iload_n hx hb d_m_open_20 rfl (lv_at hl 2 rfl) ?_
    refine va_zast hx hb hK hP hD hS 2 1 rfl rfl (rl_in (n := 50) (by omega) (by omega)) d_m_open_21 (fun H locs hP hD hS => ?_)
    obtain ⟨F4, eF4⟩ : ∃ G, G = rl_st F1 1 jt.toNatClampNeg (vp_nar .boolean jb) := ⟨_, rfl⟩
    have hP : va_P D rl_cl (rm_w a kI kZ F4) H := by rw [eF4]; exact hP
    have hD : va_D A (rm_w a kI kZ F4) := by rw [eF4]; exact hD
    obtain ⟨tF4, hRF4⟩ := rm_keep eF4 (by decide) (by decide) (by decide) hRF1
    refine lv_iconst (v := 1) hx hb d_m_open_22 (by decide) ?_
    exact W.iret (v := 1) hx hb hr (fun t ht hW => ⟨⟨1, F4, rfl, ⟨hRF4, (show (((0 ≤ jt.toInt ∧ jt.toInt < (F 27 2).toInt) ∧ (1 : Int32).toInt = 1) ∨ (¬ (0 ≤ jt.toInt ∧ jt.toInt < (F 27 2).toInt) ∧ (1 : Int32).toInt = -1)) ∧ (F4 27 2).toInt = (F 27 2).toInt ∧ (F4 27 3).toInt = (F 27 3).toInt ∧ (F4 27 4).toInt = (F 27 4).toInt ∧ (F4 27 5).toInt = (F 27 5).toInt by have q9 := rl_n1; omega)⟩, ⟨by rw [ht]; exact hP, hD⟩⟩, hS.F ht⟩) hS.2.2 d_m_open_23
  · refine lv_if_ne (tgt := 15) hx hb d_m_open_10 (by decide) (fun c9 => absurd c9 (by decide)) (fun _ => ?_)
    refine lv_iconst (v := (-1)) hx hb d_m_open_13 (by decide) ?_
    exact W.iret (v := (-1)) hx hb hr (fun t ht hW => ⟨⟨(-1), F1, rfl, ⟨hRF1, (show (((0 ≤ jt.toInt ∧ jt.toInt < (F 27 2).toInt) ∧ ((-1) : Int32).toInt = 1) ∨ (¬ (0 ≤ jt.toInt ∧ jt.toInt < (F 27 2).toInt) ∧ ((-1) : Int32).toInt = -1)) ∧ (F1 27 2).toInt = (F 27 2).toInt ∧ (F1 27 3).toInt = (F 27 3).toInt ∧ (F1 27 4).toInt = (F 27 4).toInt ∧ (F1 27 5).toInt = (F 27 5).toInt by have q9 := rl_nm1; omega)⟩, ⟨by rw [ht]; exact hP, hD⟩⟩, hS.F ht⟩) hS.2.2 d_m_open_14
set_option maxHeartbeats 4000000 in
set_option maxRecDepth 100000 in
theorem k_m_limit (l : Launch) (D : va_G) (a : Nat → Nat) (kI kZ : ClassId) (F : Nat → Nat → Int32) (jt jk jd jn : Int32) (hI : rm_I F) (sz : Nat) : rl_Ci (S := Nat → Nat → Int32) l ⟨"RightsLimitModel", "limit", "(IIII)I"⟩ (Cond.code ⟨"RightsLimitModel", "limit", "(IIII)I"⟩ prog_7_method_8_code 5 (some .int) :: rl_G) { frames := 2, cells := 0, slots := 0, locals := 43 } D rl_cl (rl_tys kI kZ) [] [.ref (a 0), .int jt, .int jk, .int jd, .int jn] (rm_w a kI kZ F) sz (fun (r : Int32) (F' : Nat → Nat → Int32) => rm_R F' ∧ (((0 ≤ jt.toInt ∧ jt.toInt < (F 27 2).toInt) ∧ ((0 ≤ jk.toInt ∧ jk.toInt ≤ 1) ∧ (1 ≤ jd.toInt ∧ jd.toInt ≤ 5000) ∧ (0 ≤ jn.toInt ∧ jn.toInt ≤ 1000)) ∧ (F 27 3).toInt < 100 ∧ r.toInt = (F 27 3).toInt ∧ (F' 27 3).toInt = (F 27 3).toInt + 1 ∧ (F' 27 2).toInt = (F 27 2).toInt ∧ (F' 27 4).toInt = (F 27 4).toInt ∧ (F' 27 5).toInt = (F 27 5).toInt) ∨ ((((0 ≤ jt.toInt ∧ jt.toInt < (F 27 2).toInt) ∧ ((0 ≤ jk.toInt ∧ jk.toInt ≤ 1) ∧ (1 ≤ jd.toInt ∧ jd.toInt ≤ 5000) ∧ (0 ≤ jn.toInt ∧ jn.toInt ≤ 1000)) ∧ 100 ≤ (F 27 3).toInt ∧ r.toInt = -4) ∨ ((0 ≤ jt.toInt ∧ jt.toInt < (F 27 2).toInt) ∧ ¬ ((0 ≤ jk.toInt ∧ jk.toInt ≤ 1) ∧ (1 ≤ jd.toInt ∧ jd.toInt ≤ 5000) ∧ (0 ≤ jn.toInt ∧ jn.toInt ≤ 1000)) ∧ r.toInt = -2) ∨ (¬ (0 ≤ jt.toInt ∧ jt.toInt < (F 27 2).toInt) ∧ r.toInt = -1)) ∧ (F' 27 2).toInt = (F 27 2).toInt ∧ (F' 27 3).toInt = (F 27 3).toInt ∧ (F' 27 4).toInt = (F 27 4).toInt ∧ (F' 27 5).toInt = (F 27 5).toInt))) (fun F' => rm_w a kI kZ F') 0 0 := by
  refine rl_meti (cc := prog_7_method_8_code) (maxL := 5) (ret := (some .int)) (by decide) rfl (Nat.le_of_ble_eq_true rfl) ?_
  intro p e s m below meth c A ls hx hb hr hml hown hts hlocks hnm hP hK hD hS hA hN hl
  have hown : s.vm.findClass "RightsLimitModel" = some m.cls := hown
  have hG : ∀ x ∈ rl_G, x.before _ s = true := fun x h => hts x (List.mem_cons_of_mem _ h)
  have hl : lv_has ls 5 [(0, .ref (a 0)), (1, .int jt), (2, .int jk), (3, .int jd), (4, .int jn)] := hl
  obtain ⟨hcnt, hR⟩ := id hI
  refine lv_aload_n hx hb d_m_limit_0 rfl (lv_at hl 0 rfl) ?_
  refine lv_iconst (v := 0) hx hb d_m_limit_1 (by decide) ?_
  refine va_put (D := D) (ci := 5) (v := .int 0) (ty := .int) (C := "RightsLimitModel") (T := fT_m) (N := 33) hx hb hG fi_m fy_m fo_m fn_m hown hK hP hD hS 0 rfl rfl 0 (by decide) (hG _ wd_483) (fun _ h9 => h9) rfl (by decide +kernel) rfl rfl (Nat.le_of_ble_eq_true rfl) d_m_limit_2 (fun H locs hP hD hS => ?_)
  obtain ⟨F1, eF1⟩ : ∃ G, G = rl_st F 27 0 0 := ⟨_, rfl⟩
  have hP : va_P D rl_cl (rm_w a kI kZ F1) H := by rw [eF1]; exact hP
  have hD : va_D A (rm_w a kI kZ F1) := by rw [eF1]; exact hD
  obtain ⟨tF1, hRF1⟩ := rm_putS eF1 (by decide) (by decide) (by decide) (by decide) hR
  refine lv_aload_n hx hb d_m_limit_5 rfl (lv_at hl 0 rfl) ?_
  refine lv_iload_n hx hb d_m_limit_6 rfl (lv_at hl 1 rfl) ?_
  have hpre := rl_BR.pre (av := .ref (a 0) :: [.int jt]) rl_nw0 hP hK hN
  refine rl_callr hS (va_runV (As := [.int jt]) (rest := []) ⟨hx, hb, hml, hown, hG⟩ (k_m_isTitle l D a kI kZ F1 jt ⟨by omega, hRF1⟩ _) (cwV 1 hG (rl_gV wd_594 wd_596 wd_6 wd_19 wd_597) rfl rfl rfl (by decide +kernel) ⟨Nat.le_of_ble_eq_true rfl, Nat.le_of_ble_eq_true rfl⟩) ⟨hpre.1, (va_recv hK hP (ci := 5) (q0 := 0) rfl rfl), hpre.2⟩ rfl rfl hl.1 rfl (lv_room (Nat.le_of_ble_eq_true rfl)) d_m_limit_7 ⟨Nat.le_of_ble_eq_true rfl, Nat.le_of_ble_eq_true rfl⟩) (fun r2 locs hw hS => ?_)
  rcases hw with ⟨rfl, h3⟩ | ⟨rfl, h3⟩
  · refine lv_if_ne (tgt := 15) hx hb d_m_limit_10 (by decide) (fun _ => ?_) (fun c9 => absurd c9 (by decide))
    refine lv_iload_n hx hb d_m_limit_15 rfl (lv_at hl 2 rfl) ?_
    refine lv_iconst (v := 0) hx hb d_m_limit_16 (by decide) ?_
    refine lv_iconst (v := 1) hx hb d_m_limit_17 (by decide) ?_
    refine rl_callr hS (va_runS (As := [.int jk, .int 0, .int 1]) (rest := []) ⟨hx, hb, hml, hown, hG⟩ (k_m_in l D a kI kZ jk 0 1 _) (cwS 3 hG (rl_gS wd_587 wd_588 wd_19 wd_589) rfl rfl rfl (by decide +kernel) ⟨Nat.le_of_ble_eq_true rfl, Nat.le_of_ble_eq_true rfl⟩) (rl_BR.pre rl_nw0 rl_P0 hK hN) rfl rfl hl.1 rfl (lv_room (Nat.le_of_ble_eq_true rfl)) d_m_limit_18 ⟨Nat.le_of_ble_eq_true rfl, Nat.le_of_ble_eq_true rfl⟩) (fun r4 locs hw hS => ?_)
    try simp only [rl_n0, rl_n1] at hw
    rcases hw with ⟨rfl, h5⟩ | ⟨rfl, h5⟩
    · refine lv_if_eq (tgt := 47) hx hb d_m_limit_21 (by decide) (fun c9 => absurd c9 (by decide)) (fun _ => ?_)
      refine lv_iload_n hx hb d_m_limit_24 rfl (lv_at hl 3 rfl) ?_
      refine lv_iconst (v := 1) hx hb d_m_limit_25 (by decide) ?_
      refine lv_sipush (v := 5000) hx hb d_m_limit_26 (by decide) ?_
      refine rl_callr hS (va_runS (As := [.int jd, .int 1, .int 5000]) (rest := []) ⟨hx, hb, hml, hown, hG⟩ (k_m_in l D a kI kZ jd 1 5000 _) (cwS 3 hG (rl_gS wd_587 wd_588 wd_19 wd_589) rfl rfl rfl (by decide +kernel) ⟨Nat.le_of_ble_eq_true rfl, Nat.le_of_ble_eq_true rfl⟩) (rl_BR.pre rl_nw0 rl_P0 hK hN) rfl rfl hl.1 rfl (lv_room (Nat.le_of_ble_eq_true rfl)) d_m_limit_29 ⟨Nat.le_of_ble_eq_true rfl, Nat.le_of_ble_eq_true rfl⟩) (fun r6 locs hw hS => ?_)
      try simp only [rl_n1, rl_n5000] at hw
      rcases hw with ⟨rfl, h7⟩ | ⟨rfl, h7⟩
      · refine lv_if_eq (tgt := 47) hx hb d_m_limit_32 (by decide) (fun c9 => absurd c9 (by decide)) (fun _ => ?_)
        refine lv_iload hx hb d_m_limit_35 (lv_at hl 4 rfl) ?_
        refine lv_iconst (v := 0) hx hb d_m_limit_37 (by decide) ?_
        refine lv_sipush (v := 1000) hx hb d_m_limit_38 (by decide) ?_
        refine rl_callr hS (va_runS (As := [.int jn, .int 0, .int 1000]) (rest := []) ⟨hx, hb, hml, hown, hG⟩ (k_m_in l D a kI kZ jn 0 1000 _) (cwS 3 hG (rl_gS wd_587 wd_588 wd_19 wd_589) rfl rfl rfl (by decide +kernel) ⟨Nat.le_of_ble_eq_true rfl, Nat.le_of_ble_eq_true rfl⟩) (rl_BR.pre rl_nw0 rl_P0 hK hN) rfl rfl hl.1 rfl (lv_room (Nat.le_of_ble_eq_true rfl)) d_m_limit_41 ⟨Nat.le_of_ble_eq_true rfl, Nat.le_of_ble_eq_true rfl⟩) (fun r8 locs hw hS => ?_)
        try simp only [rl_n0, rl_n1000] at hw
        rcases hw with ⟨rfl, h9⟩ | ⟨rfl, h9⟩
        · refine lv_if_ne (tgt := 50) hx hb d_m_limit_44 (by decide) (fun _ => ?_) (fun c9 => absurd c9 (by decide))
          refine lv_aload_n hx hb d_m_limit_50 rfl (lv_at hl 0 rfl) ?_
          refine va_get (D := D) (ci := 5) (v := .int (F1 27 3)) (C := "RightsLimitModel") (T := fT_m) (N := 33) hx hb hG fi_m hown hK hP 0 rfl rfl 9 (by decide) (hG _ wd_492) (fun _ h9 => h9) rfl d_m_limit_51 ?_
          refine lv_bipush (v := 100) hx hb d_m_limit_54 (by decide) ?_
          refine lv_icmp_ne (tgt := 62) hx hb d_m_limit_56 (by decide) (fun c10 => ?_) (fun c10 => ?_)
          · have ic10 := rl_ine c10
            simp only [rl_n100] at ic10
            refine lv_aload_n hx hb d_m_limit_62 rfl (lv_at hl 0 rfl) ?_
            refine va_get (D := D) (ci := 5) (v := .ref (a 7)) (C := "RightsLimitModel") (T := fT_m) (N := 33) hx hb hG fi_m hown hK hP 0 rfl rfl 10 (by decide) (hG _ wd_493) (fun _ h9 => h9) rfl d_m_limit_63 ?_
            refine lv_aload_n hx hb d_m_limit_66 rfl (lv_at hl 0 rfl) ?_
            refine va_get (D := D) (ci := 5) (v := .int (F1 27 3)) (C := "RightsLimitModel") (T := fT_m) (N := 33) hx hb hG fi_m hown hK hP 0 rfl rfl 9 (by decide) (hG _ wd_492) (fun _ h9 => h9) rfl d_m_limit_67 ?_
            refine lv_iload_n hx hb d_m_limit_70 rfl (lv_at hl 1 rfl) ?_
            refine va_iast hx hb hK hP hD hS 7 0 rfl rfl (rl_in (n := 100) (by omega) (by omega)) d_m_limit_71 (fun H locs hP hD hS => ?_)
            obtain ⟨F11, eF11⟩ : ∃ G, G = rl_st F1 6 ((F1 27 3).toNatClampNeg) jt := ⟨_, rfl⟩
            have hP : va_P D rl_cl (rm_w a kI kZ F11) H := by rw [eF11]; exact hP
            have hD : va_D A (rm_w a kI kZ F11) := by rw [eF11]; exact hD
            obtain ⟨tF11, hRF11⟩ := rm_keep eF11 (by decide) (by decide) (by decide) hRF1
            refine lv_aload_n hx hb d_m_limit_72 rfl (lv_at hl 0 rfl) ?_
            refine va_get (D := D) (ci := 5) (v := .ref (a 8)) (C := "RightsLimitModel") (T := fT_m) (N := 33) hx hb hG fi_m hown hK hP 0 rfl rfl 11 (by decide) (hG _ wd_494) (fun _ h9 => h9) rfl d_m_limit_73 ?_
            refine lv_aload_n hx hb d_m_limit_76 rfl (lv_at hl 0 rfl) ?_
            refine va_get (D := D) (ci := 5) (v := .int (F11 27 3)) (C := "RightsLimitModel") (T := fT_m) (N := 33) hx hb hG fi_m hown hK hP 0 rfl rfl 9 (by decide) (hG _ wd_492) (fun _ h9 => h9) rfl d_m_limit_77 ?_
            refine lv_iload_n hx hb d_m_limit_80 rfl (lv_at hl 2 rfl) ?_
            refine va_iast hx hb hK hP hD hS 8 0 rfl rfl (rl_in (n := 100) (by omega) (by omega)) d_m_limit_81 (fun H locs hP hD hS => ?_)
            obtain ⟨F12, eF12⟩ : ∃ G, G = rl_st F11 7 ((F11 27 3).toNatClampNeg) jk := ⟨_, rfl⟩
            have hP : va_P D rl_cl (rm_w a kI kZ F12) H := by rw [eF12]; exact hP
            have hD : va_D A (rm_w a kI kZ F12) := by rw [eF12]; exact hD
            obtain ⟨tF12, hRF12⟩ := rm_keep eF12 (by decide) (by decide) (by decide) hRF11
            refine lv_aload_n hx hb d_m_limit_82 rfl (lv_at hl 0 rfl) ?_
            refine va_get (D := D) (ci := 5) (v := .ref (a 9)) (C := "RightsLimitModel") (T := fT_m) (N := 33) hx hb hG fi_m hown hK hP 0 rfl rfl 12 (by decide) (hG _ wd_495) (fun _ h9 => h9) rfl d_m_limit_83 ?_
            refine lv_aload_n hx hb d_m_limit_86 rfl (lv_at hl 0 rfl) ?_
            refine va_get (D := D) (ci := 5) (v := .int (F12 27 3)) (C := "RightsLimitModel") (T := fT_m) (N := 33) hx hb hG fi_m hown hK hP 0 rfl rfl 9 (by decide) (hG _ wd_492) (fun _ h9 => h9) rfl d_m_limit_87 ?_
            refine lv_iload_n hx hb d_m_limit_90 rfl (lv_at hl 3 rfl) ?_
            refine va_iast hx hb hK hP hD hS 9 0 rfl rfl (rl_in (n := 100) (by omega) (by omega)) d_m_limit_91 (fun H locs hP hD hS => ?_)
            obtain ⟨F13, eF13⟩ : ∃ G, G = rl_st F12 8 ((F12 27 3).toNatClampNeg) jd := ⟨_, rfl⟩
            have hP : va_P D rl_cl (rm_w a kI kZ F13) H := by rw [eF13]; exact hP
            have hD : va_D A (rm_w a kI kZ F13) := by rw [eF13]; exact hD
            obtain ⟨tF13, hRF13⟩ := rm_keep eF13 (by decide) (by decide) (by decide) hRF12
            refine lv_aload_n hx hb d_m_limit_92 rfl (lv_at hl 0 rfl) ?_
            refine va_get (D := D) (ci := 5) (v := .ref (a 10)) (C := "RightsLimitModel") (T := fT_m) (N := 33) hx hb hG fi_m hown hK hP 0 rfl rfl 13 (by decide) (hG _ wd_496) (fun _ h9 => h9) rfl d_m_limit_93 ?_
            refine lv_aload_n hx hb d_m_limit_96 rfl (lv_at hl 0 rfl) ?_
            refine va_get (D := D) (ci := 5) (v := .int (F13 27 3)) (C := "RightsLimitModel") (T := fT_m) (N := 33) hx hb hG fi_m hown hK hP 0 rfl rfl 9 (by decide) (hG _ wd_492) (fun _ h9 => h9) rfl d_m_limit_97 ?_
            refine lv_iload hx hb d_m_limit_100 (lv_at hl 4 rfl) ?_
            refine va_iast hx hb hK hP hD hS 10 0 rfl rfl (rl_in (n := 100) (by omega) (by omega)) d_m_limit_102 (fun H locs hP hD hS => ?_)
            obtain ⟨F14, eF14⟩ : ∃ G, G = rl_st F13 9 ((F13 27 3).toNatClampNeg) jn := ⟨_, rfl⟩
            have hP : va_P D rl_cl (rm_w a kI kZ F14) H := by rw [eF14]; exact hP
            have hD : va_D A (rm_w a kI kZ F14) := by rw [eF14]; exact hD
            obtain ⟨tF14, hRF14⟩ := rm_keep eF14 (by decide) (by decide) (by decide) hRF13
            refine lv_aload_n hx hb d_m_limit_103 rfl (lv_at hl 0 rfl) ?_
            refine lv_dup hx hb d_m_limit_104 rfl ?_
            refine va_get (D := D) (ci := 5) (v := .int (F14 27 3)) (C := "RightsLimitModel") (T := fT_m) (N := 33) hx hb hG fi_m hown hK hP 0 rfl rfl 9 (by decide) (hG _ wd_492) (fun _ h9 => h9) rfl d_m_limit_105 ?_
            refine lv_iconst (v := 1) hx hb d_m_limit_108 (by decide) ?_
            refine lv_iadd hx hb d_m_limit_109 ?_
            refine lv_topi (fun v15 ev15 => ?_)
            have iv15 : v15.toInt = (F14 27 3).toInt + 1 := by rw [ev15]; exact rl_addk (by decide) (by omega) (by omega)
            refine va_put (D := D) (ci := 5) (v := .int v15) (ty := .int) (C := "RightsLimitModel") (T := fT_m) (N := 33) hx hb hG fi_m fy_m fo_m fn_m hown hK hP hD hS 0 rfl rfl 9 (by decide) (hG _ wd_492) (fun _ h9 => h9) rfl (by decide +kernel) rfl rfl (Nat.le_of_ble_eq_true rfl) d_m_limit_110 (fun H locs hP hD hS => ?_)
            obtain ⟨F16, eF16⟩ : ∃ G, G = rl_st F14 27 3 v15 := ⟨_, rfl⟩
            have hP : va_P D rl_cl (rm_w a kI kZ F16) H := by rw [eF16]; exact hP
            have hD : va_D A (rm_w a kI kZ F16) := by rw [eF16]; exact hD
            obtain ⟨tF16, hRF16⟩ := rm_put3 eF16 hRF14
            refine lv_aload_n hx hb d_m_limit_113 rfl (lv_at hl 0 rfl) ?_
            refine va_get (D := D) (ci := 5) (v := .int (F16 27 3)) (C := "RightsLimitModel") (T := fT_m) (N := 33) hx hb hG fi_m hown hK hP 0 rfl rfl 9 (by decide) (hG _ wd_492) (fun _ h9 => h9) rfl d_m_limit_114 ?_
            refine lv_iconst (v := 1) hx hb d_m_limit_117 (by decide) ?_
            refine lv_isub hx hb d_m_limit_118 ?_
            refine lv_topi (fun v17 ev17 => ?_)
            have iv17 : v17.toInt = (F16 27 3).toInt - 1 := by rw [ev17]; exact rl_subk (by decide) (by omega) (by omega)
            exact W.iret (v := v17) hx hb hr (fun t ht hW => ⟨⟨v17, F16, rfl, ⟨hRF16, (show ((0 ≤ jt.toInt ∧ jt.toInt < (F 27 2).toInt) ∧ ((0 ≤ jk.toInt ∧ jk.toInt ≤ 1) ∧ (1 ≤ jd.toInt ∧ jd.toInt ≤ 5000) ∧ (0 ≤ jn.toInt ∧ jn.toInt ≤ 1000)) ∧ (F 27 3).toInt < 100 ∧ v17.toInt = (F 27 3).toInt ∧ (F16 27 3).toInt = (F 27 3).toInt + 1 ∧ (F16 27 2).toInt = (F 27 2).toInt ∧ (F16 27 4).toInt = (F 27 4).toInt ∧ (F16 27 5).toInt = (F 27 5).toInt) ∨ ((((0 ≤ jt.toInt ∧ jt.toInt < (F 27 2).toInt) ∧ ((0 ≤ jk.toInt ∧ jk.toInt ≤ 1) ∧ (1 ≤ jd.toInt ∧ jd.toInt ≤ 5000) ∧ (0 ≤ jn.toInt ∧ jn.toInt ≤ 1000)) ∧ 100 ≤ (F 27 3).toInt ∧ v17.toInt = -4) ∨ ((0 ≤ jt.toInt ∧ jt.toInt < (F 27 2).toInt) ∧ ¬ ((0 ≤ jk.toInt ∧ jk.toInt ≤ 1) ∧ (1 ≤ jd.toInt ∧ jd.toInt ≤ 5000) ∧ (0 ≤ jn.toInt ∧ jn.toInt ≤ 1000)) ∧ v17.toInt = -2) ∨ (¬ (0 ≤ jt.toInt ∧ jt.toInt < (F 27 2).toInt) ∧ v17.toInt = -1)) ∧ (F16 27 2).toInt = (F 27 2).toInt ∧ (F16 27 3).toInt = (F 27 3).toInt ∧ (F16 27 4).toInt = (F 27 4).toInt ∧ (F16 27 5).toInt = (F 27 5).toInt) by omega)⟩, ⟨by rw [ht]; exact hP, hD⟩⟩, hS.F ht⟩) hS.2.2 d_m_limit_119
          · have ic10 := rl_ieq c10
            simp only [rl_n100] at ic10
            refine lv_bipush (v := (-4)) hx hb d_m_limit_59 (by decide) ?_
            exact W.iret (v := (-4)) hx hb hr (fun t ht hW => ⟨⟨(-4), F1, rfl, ⟨hRF1, (show ((0 ≤ jt.toInt ∧ jt.toInt < (F 27 2).toInt) ∧ ((0 ≤ jk.toInt ∧ jk.toInt ≤ 1) ∧ (1 ≤ jd.toInt ∧ jd.toInt ≤ 5000) ∧ (0 ≤ jn.toInt ∧ jn.toInt ≤ 1000)) ∧ (F 27 3).toInt < 100 ∧ ((-4) : Int32).toInt = (F 27 3).toInt ∧ (F1 27 3).toInt = (F 27 3).toInt + 1 ∧ (F1 27 2).toInt = (F 27 2).toInt ∧ (F1 27 4).toInt = (F 27 4).toInt ∧ (F1 27 5).toInt = (F 27 5).toInt) ∨ ((((0 ≤ jt.toInt ∧ jt.toInt < (F 27 2).toInt) ∧ ((0 ≤ jk.toInt ∧ jk.toInt ≤ 1) ∧ (1 ≤ jd.toInt ∧ jd.toInt ≤ 5000) ∧ (0 ≤ jn.toInt ∧ jn.toInt ≤ 1000)) ∧ 100 ≤ (F 27 3).toInt ∧ ((-4) : Int32).toInt = -4) ∨ ((0 ≤ jt.toInt ∧ jt.toInt < (F 27 2).toInt) ∧ ¬ ((0 ≤ jk.toInt ∧ jk.toInt ≤ 1) ∧ (1 ≤ jd.toInt ∧ jd.toInt ≤ 5000) ∧ (0 ≤ jn.toInt ∧ jn.toInt ≤ 1000)) ∧ ((-4) : Int32).toInt = -2) ∨ (¬ (0 ≤ jt.toInt ∧ jt.toInt < (F 27 2).toInt) ∧ ((-4) : Int32).toInt = -1)) ∧ (F1 27 2).toInt = (F 27 2).toInt ∧ (F1 27 3).toInt = (F 27 3).toInt ∧ (F1 27 4).toInt = (F 27 4).toInt ∧ (F1 27 5).toInt = (F 27 5).toInt) by have q9 := rl_nm4; omega)⟩, ⟨by rw [ht]; exact hP, hD⟩⟩, hS.F ht⟩) hS.2.2 d_m_limit_61
        · refine lv_if_ne (tgt := 50) hx hb d_m_limit_44 (by decide) (fun c9 => absurd c9 (by decide)) (fun _ => ?_)
          refine lv_bipush (v := (-2)) hx hb d_m_limit_47 (by decide) ?_
          exact W.iret (v := (-2)) hx hb hr (fun t ht hW => ⟨⟨(-2), F1, rfl, ⟨hRF1, (show ((0 ≤ jt.toInt ∧ jt.toInt < (F 27 2).toInt) ∧ ((0 ≤ jk.toInt ∧ jk.toInt ≤ 1) ∧ (1 ≤ jd.toInt ∧ jd.toInt ≤ 5000) ∧ (0 ≤ jn.toInt ∧ jn.toInt ≤ 1000)) ∧ (F 27 3).toInt < 100 ∧ ((-2) : Int32).toInt = (F 27 3).toInt ∧ (F1 27 3).toInt = (F 27 3).toInt + 1 ∧ (F1 27 2).toInt = (F 27 2).toInt ∧ (F1 27 4).toInt = (F 27 4).toInt ∧ (F1 27 5).toInt = (F 27 5).toInt) ∨ ((((0 ≤ jt.toInt ∧ jt.toInt < (F 27 2).toInt) ∧ ((0 ≤ jk.toInt ∧ jk.toInt ≤ 1) ∧ (1 ≤ jd.toInt ∧ jd.toInt ≤ 5000) ∧ (0 ≤ jn.toInt ∧ jn.toInt ≤ 1000)) ∧ 100 ≤ (F 27 3).toInt ∧ ((-2) : Int32).toInt = -4) ∨ ((0 ≤ jt.toInt ∧ jt.toInt < (F 27 2).toInt) ∧ ¬ ((0 ≤ jk.toInt ∧ jk.toInt ≤ 1) ∧ (1 ≤ jd.toInt ∧ jd.toInt ≤ 5000) ∧ (0 ≤ jn.toInt ∧ jn.toInt ≤ 1000)) ∧ ((-2) : Int32).toInt = -2) ∨ (¬ (0 ≤ jt.toInt ∧ jt.toInt < (F 27 2).toInt) ∧ ((-2) : Int32).toInt = -1)) ∧ (F1 27 2).toInt = (F 27 2).toInt ∧ (F1 27 3).toInt = (F 27 3).toInt ∧ (F1 27 4).toInt = (F 27 4).toInt ∧ (F1 27 5).toInt = (F 27 5).toInt) by have q9 := rl_nm2; omega)⟩, ⟨by rw [ht]; exact hP, hD⟩⟩, hS.F ht⟩) hS.2.2 d_m_limit_49
      · refine lv_if_eq (tgt := 47) hx hb d_m_limit_32 (by decide) (fun _ => ?_) (fun c9 => absurd c9 (by decide))
        refine lv_bipush (v := (-2)) hx hb d_m_limit_47 (by decide) ?_
        exact W.iret (v := (-2)) hx hb hr (fun t ht hW => ⟨⟨(-2), F1, rfl, ⟨hRF1, (show ((0 ≤ jt.toInt ∧ jt.toInt < (F 27 2).toInt) ∧ ((0 ≤ jk.toInt ∧ jk.toInt ≤ 1) ∧ (1 ≤ jd.toInt ∧ jd.toInt ≤ 5000) ∧ (0 ≤ jn.toInt ∧ jn.toInt ≤ 1000)) ∧ (F 27 3).toInt < 100 ∧ ((-2) : Int32).toInt = (F 27 3).toInt ∧ (F1 27 3).toInt = (F 27 3).toInt + 1 ∧ (F1 27 2).toInt = (F 27 2).toInt ∧ (F1 27 4).toInt = (F 27 4).toInt ∧ (F1 27 5).toInt = (F 27 5).toInt) ∨ ((((0 ≤ jt.toInt ∧ jt.toInt < (F 27 2).toInt) ∧ ((0 ≤ jk.toInt ∧ jk.toInt ≤ 1) ∧ (1 ≤ jd.toInt ∧ jd.toInt ≤ 5000) ∧ (0 ≤ jn.toInt ∧ jn.toInt ≤ 1000)) ∧ 100 ≤ (F 27 3).toInt ∧ ((-2) : Int32).toInt = -4) ∨ ((0 ≤ jt.toInt ∧ jt.toInt < (F 27 2).toInt) ∧ ¬ ((0 ≤ jk.toInt ∧ jk.toInt ≤ 1) ∧ (1 ≤ jd.toInt ∧ jd.toInt ≤ 5000) ∧ (0 ≤ jn.toInt ∧ jn.toInt ≤ 1000)) ∧ ((-2) : Int32).toInt = -2) ∨ (¬ (0 ≤ jt.toInt ∧ jt.toInt < (F 27 2).toInt) ∧ ((-2) : Int32).toInt = -1)) ∧ (F1 27 2).toInt = (F 27 2).toInt ∧ (F1 27 3).toInt = (F 27 3).toInt ∧ (F1 27 4).toInt = (F 27 4).toInt ∧ (F1 27 5).toInt = (F 27 5).toInt) by have q9 := rl_nm2; omega)⟩, ⟨by rw [ht]; exact hP, hD⟩⟩, hS.F ht⟩) hS.2.2 d_m_limit_49
    · refine lv_if_eq (tgt := 47) hx hb d_m_limit_21 (by decide) (fun _ => ?_) (fun c9 => absurd c9 (by decide))
      refine lv_bipush (v := (-2)) hx hb d_m_limit_47 (by decide) ?_
      exact W.iret (v := (-2)) hx hb hr (fun t ht hW => ⟨⟨(-2), F1, rfl, ⟨hRF1, (show ((0 ≤ jt.toInt ∧ jt.toInt < (F 27 2).toInt) ∧ ((0 ≤ jk.toInt ∧ jk.toInt ≤ 1) ∧ (1 ≤ jd.toInt ∧ jd.toInt ≤ 5000) ∧ (0 ≤ jn.toInt ∧ jn.toInt ≤ 1000)) ∧ (F 27 3).toInt < 100 ∧ ((-2) : Int32).toInt = (F 27 3).toInt ∧ (F1 27 3).toInt = (F 27 3).toInt + 1 ∧ (F1 27 2).toInt = (F 27 2).toInt ∧ (F1 27 4).toInt = (F 27 4).toInt ∧ (F1 27 5).toInt = (F 27 5).toInt) ∨ ((((0 ≤ jt.toInt ∧ jt.toInt < (F 27 2).toInt) ∧ ((0 ≤ jk.toInt ∧ jk.toInt ≤ 1) ∧ (1 ≤ jd.toInt ∧ jd.toInt ≤ 5000) ∧ (0 ≤ jn.toInt ∧ jn.toInt ≤ 1000)) ∧ 100 ≤ (F 27 3).toInt ∧ ((-2) : Int32).toInt = -4) ∨ ((0 ≤ jt.toInt ∧ jt.toInt < (F 27 2).toInt) ∧ ¬ ((0 ≤ jk.toInt ∧ jk.toInt ≤ 1) ∧ (1 ≤ jd.toInt ∧ jd.toInt ≤ 5000) ∧ (0 ≤ jn.toInt ∧ jn.toInt ≤ 1000)) ∧ ((-2) : Int32).toInt = -2) ∨ (¬ (0 ≤ jt.toInt ∧ jt.toInt < (F 27 2).toInt) ∧ ((-2) : Int32).toInt = -1)) ∧ (F1 27 2).toInt = (F 27 2).toInt ∧ (F1 27 3).toInt = (F 27 3).toInt ∧ (F1 27 4).toInt = (F 27 4).toInt ∧ (F1 27 5).toInt = (F 27 5).toInt) by have q9 := rl_nm2; omega)⟩, ⟨by rw [ht]; exact hP, hD⟩⟩, hS.F ht⟩) hS.2.2 d_m_limit_49
  · refine lv_if_ne (tgt := 15) hx hb d_m_limit_10 (by decide) (fun c9 => absurd c9 (by decide)) (fun _ => ?_)
    refine lv_iconst (v := (-1)) hx hb d_m_limit_13 (by decide) ?_
    exact W.iret (v := (-1)) hx hb hr (fun t ht hW => ⟨⟨(-1), F1, rfl, ⟨hRF1, (show ((0 ≤ jt.toInt ∧ jt.toInt < (F 27 2).toInt) ∧ ((0 ≤ jk.toInt ∧ jk.toInt ≤ 1) ∧ (1 ≤ jd.toInt ∧ jd.toInt ≤ 5000) ∧ (0 ≤ jn.toInt ∧ jn.toInt ≤ 1000)) ∧ (F 27 3).toInt < 100 ∧ ((-1) : Int32).toInt = (F 27 3).toInt ∧ (F1 27 3).toInt = (F 27 3).toInt + 1 ∧ (F1 27 2).toInt = (F 27 2).toInt ∧ (F1 27 4).toInt = (F 27 4).toInt ∧ (F1 27 5).toInt = (F 27 5).toInt) ∨ ((((0 ≤ jt.toInt ∧ jt.toInt < (F 27 2).toInt) ∧ ((0 ≤ jk.toInt ∧ jk.toInt ≤ 1) ∧ (1 ≤ jd.toInt ∧ jd.toInt ≤ 5000) ∧ (0 ≤ jn.toInt ∧ jn.toInt ≤ 1000)) ∧ 100 ≤ (F 27 3).toInt ∧ ((-1) : Int32).toInt = -4) ∨ ((0 ≤ jt.toInt ∧ jt.toInt < (F 27 2).toInt) ∧ ¬ ((0 ≤ jk.toInt ∧ jk.toInt ≤ 1) ∧ (1 ≤ jd.toInt ∧ jd.toInt ≤ 5000) ∧ (0 ≤ jn.toInt ∧ jn.toInt ≤ 1000)) ∧ ((-1) : Int32).toInt = -2) ∨ (¬ (0 ≤ jt.toInt ∧ jt.toInt < (F 27 2).toInt) ∧ ((-1) : Int32).toInt = -1)) ∧ (F1 27 2).toInt = (F 27 2).toInt ∧ (F1 27 3).toInt = (F 27 3).toInt ∧ (F1 27 4).toInt = (F 27 4).toInt ∧ (F1 27 5).toInt = (F 27 5).toInt) by have q9 := rl_nm1; omega)⟩, ⟨by rw [ht]; exact hP, hD⟩⟩, hS.F ht⟩) hS.2.2 d_m_limit_14
set_option maxHeartbeats 4000000 in
set_option maxRecDepth 100000 in
theorem k_m_licence (l : Launch) (D : va_G) (a : Nat → Nat) (kI kZ : ClassId) (F : Nat → Nat → Int32) (jt jk jn ju jv : Int32) (hI : rm_I F) (sz : Nat) : rl_Ci (S := Nat → Nat → Int32) l ⟨"RightsLimitModel", "licence", "(IIIII)I"⟩ (Cond.code ⟨"RightsLimitModel", "licence", "(IIIII)I"⟩ prog_7_method_9_code 6 (some .int) :: rl_G) { frames := 2, cells := 0, slots := 0, locals := 43 } D rl_cl (rl_tys kI kZ) [] [.ref (a 0), .int jt, .int jk, .int jn, .int ju, .int jv] (rm_w a kI kZ F) sz (fun (r : Int32) (F' : Nat → Nat → Int32) => rm_R F' ∧ (((0 ≤ jt.toInt ∧ jt.toInt < (F 27 2).toInt) ∧ ((0 ≤ jk.toInt ∧ jk.toInt ≤ 1) ∧ (0 ≤ jn.toInt ∧ jn.toInt ≤ 1000) ∧ (0 ≤ ju.toInt ∧ ju.toInt ≤ 1000000000) ∧ (0 ≤ jv.toInt ∧ jv.toInt ≤ 1000000000) ∧ ju.toInt ≤ jv.toInt) ∧ (F 27 4).toInt < 50 ∧ r.toInt = (F 27 4).toInt ∧ (F' 27 4).toInt = (F 27 4).toInt + 1 ∧ (F' 27 2).toInt = (F 27 2).toInt ∧ (F' 27 3).toInt = (F 27 3).toInt ∧ (F' 27 5).toInt = (F 27 5).toInt) ∨ ((((0 ≤ jt.toInt ∧ jt.toInt < (F 27 2).toInt) ∧ ((0 ≤ jk.toInt ∧ jk.toInt ≤ 1) ∧ (0 ≤ jn.toInt ∧ jn.toInt ≤ 1000) ∧ (0 ≤ ju.toInt ∧ ju.toInt ≤ 1000000000) ∧ (0 ≤ jv.toInt ∧ jv.toInt ≤ 1000000000) ∧ ju.toInt ≤ jv.toInt) ∧ 50 ≤ (F 27 4).toInt ∧ r.toInt = -4) ∨ ((0 ≤ jt.toInt ∧ jt.toInt < (F 27 2).toInt) ∧ ¬ ((0 ≤ jk.toInt ∧ jk.toInt ≤ 1) ∧ (0 ≤ jn.toInt ∧ jn.toInt ≤ 1000) ∧ (0 ≤ ju.toInt ∧ ju.toInt ≤ 1000000000) ∧ (0 ≤ jv.toInt ∧ jv.toInt ≤ 1000000000) ∧ ju.toInt ≤ jv.toInt) ∧ r.toInt = -2) ∨ (¬ (0 ≤ jt.toInt ∧ jt.toInt < (F 27 2).toInt) ∧ r.toInt = -1)) ∧ (F' 27 2).toInt = (F 27 2).toInt ∧ (F' 27 3).toInt = (F 27 3).toInt ∧ (F' 27 4).toInt = (F 27 4).toInt ∧ (F' 27 5).toInt = (F 27 5).toInt))) (fun F' => rm_w a kI kZ F') 0 0 := by
  refine rl_meti (cc := prog_7_method_9_code) (maxL := 6) (ret := (some .int)) (by decide) rfl (Nat.le_of_ble_eq_true rfl) ?_
  intro p e s m below meth c A ls hx hb hr hml hown hts hlocks hnm hP hK hD hS hA hN hl
  have hown : s.vm.findClass "RightsLimitModel" = some m.cls := hown
  have hG : ∀ x ∈ rl_G, x.before _ s = true := fun x h => hts x (List.mem_cons_of_mem _ h)
  have hl : lv_has ls 6 [(0, .ref (a 0)), (1, .int jt), (2, .int jk), (3, .int jn), (4, .int ju), (5, .int jv)] := hl
  obtain ⟨hcnt, hR⟩ := id hI
  refine lv_aload_n hx hb d_m_licence_0 rfl (lv_at hl 0 rfl) ?_
  refine lv_iconst (v := 0) hx hb d_m_licence_1 (by decide) ?_
  refine va_put (D := D) (ci := 5) (v := .int 0) (ty := .int) (C := "RightsLimitModel") (T := fT_m) (N := 33) hx hb hG fi_m fy_m fo_m fn_m hown hK hP hD hS 0 rfl rfl 0 (by decide) (hG _ wd_483) (fun _ h9 => h9) rfl (by decide +kernel) rfl rfl (Nat.le_of_ble_eq_true rfl) d_m_licence_2 (fun H locs hP hD hS => ?_)
  obtain ⟨F1, eF1⟩ : ∃ G, G = rl_st F 27 0 0 := ⟨_, rfl⟩
  have hP : va_P D rl_cl (rm_w a kI kZ F1) H := by rw [eF1]; exact hP
  have hD : va_D A (rm_w a kI kZ F1) := by rw [eF1]; exact hD
  obtain ⟨tF1, hRF1⟩ := rm_putS eF1 (by decide) (by decide) (by decide) (by decide) hR
  refine lv_aload_n hx hb d_m_licence_5 rfl (lv_at hl 0 rfl) ?_
  refine lv_iload_n hx hb d_m_licence_6 rfl (lv_at hl 1 rfl) ?_
  have hpre := rl_BR.pre (av := .ref (a 0) :: [.int jt]) rl_nw0 hP hK hN
  refine rl_callr hS (va_runV (As := [.int jt]) (rest := []) ⟨hx, hb, hml, hown, hG⟩ (k_m_isTitle l D a kI kZ F1 jt ⟨by omega, hRF1⟩ _) (cwV 1 hG (rl_gV wd_594 wd_596 wd_6 wd_19 wd_597) rfl rfl rfl (by decide +kernel) ⟨Nat.le_of_ble_eq_true rfl, Nat.le_of_ble_eq_true rfl⟩) ⟨hpre.1, (va_recv hK hP (ci := 5) (q0 := 0) rfl rfl), hpre.2⟩ rfl rfl hl.1 rfl (lv_room (Nat.le_of_ble_eq_true rfl)) d_m_licence_7 ⟨Nat.le_of_ble_eq_true rfl, Nat.le_of_ble_eq_true rfl⟩) (fun r2 locs hw hS => ?_)
  rcases hw with ⟨rfl, h3⟩ | ⟨rfl, h3⟩
  · refine lv_if_ne (tgt := 15) hx hb d_m_licence_10 (by decide) (fun _ => ?_) (fun c9 => absurd c9 (by decide))
    refine lv_iload_n hx hb d_m_licence_15 rfl (lv_at hl 2 rfl) ?_
    refine lv_iconst (v := 0) hx hb d_m_licence_16 (by decide) ?_
    refine lv_iconst (v := 1) hx hb d_m_licence_17 (by decide) ?_
    refine rl_callr hS (va_runS (As := [.int jk, .int 0, .int 1]) (rest := []) ⟨hx, hb, hml, hown, hG⟩ (k_m_in l D a kI kZ jk 0 1 _) (cwS 3 hG (rl_gS wd_587 wd_588 wd_19 wd_589) rfl rfl rfl (by decide +kernel) ⟨Nat.le_of_ble_eq_true rfl, Nat.le_of_ble_eq_true rfl⟩) (rl_BR.pre rl_nw0 rl_P0 hK hN) rfl rfl hl.1 rfl (lv_room (Nat.le_of_ble_eq_true rfl)) d_m_licence_18 ⟨Nat.le_of_ble_eq_true rfl, Nat.le_of_ble_eq_true rfl⟩) (fun r4 locs hw hS => ?_)
    try simp only [rl_n0, rl_n1] at hw
    rcases hw with ⟨rfl, h5⟩ | ⟨rfl, h5⟩
    · refine lv_if_eq (tgt := 58) hx hb d_m_licence_21 (by decide) (fun c9 => absurd c9 (by decide)) (fun _ => ?_)
      refine lv_iload_n hx hb d_m_licence_24 rfl (lv_at hl 3 rfl) ?_
      refine lv_iconst (v := 0) hx hb d_m_licence_25 (by decide) ?_
      refine lv_sipush (v := 1000) hx hb d_m_licence_26 (by decide) ?_
      refine rl_callr hS (va_runS (As := [.int jn, .int 0, .int 1000]) (rest := []) ⟨hx, hb, hml, hown, hG⟩ (k_m_in l D a kI kZ jn 0 1000 _) (cwS 3 hG (rl_gS wd_587 wd_588 wd_19 wd_589) rfl rfl rfl (by decide +kernel) ⟨Nat.le_of_ble_eq_true rfl, Nat.le_of_ble_eq_true rfl⟩) (rl_BR.pre rl_nw0 rl_P0 hK hN) rfl rfl hl.1 rfl (lv_room (Nat.le_of_ble_eq_true rfl)) d_m_licence_29 ⟨Nat.le_of_ble_eq_true rfl, Nat.le_of_ble_eq_true rfl⟩) (fun r6 locs hw hS => ?_)
      try simp only [rl_n0, rl_n1000] at hw
      rcases hw with ⟨rfl, h7⟩ | ⟨rfl, h7⟩
      · refine lv_if_eq (tgt := 58) hx hb d_m_licence_32 (by decide) (fun c9 => absurd c9 (by decide)) (fun _ => ?_)
        refine lv_iload hx hb d_m_licence_35 (lv_at hl 4 rfl) ?_
        refine lv_iconst (v := 0) hx hb d_m_licence_37 (by decide) ?_
        refine lv_ldc (v := 1000000000) hx hb hown (hG _ wd_606) d_m_licence_38 ?_
        refine rl_callr hS (va_runS (As := [.int ju, .int 0, .int 1000000000]) (rest := []) ⟨hx, hb, hml, hown, hG⟩ (k_m_in l D a kI kZ ju 0 1000000000 _) (cwS 3 hG (rl_gS wd_587 wd_588 wd_19 wd_589) rfl rfl rfl (by decide +kernel) ⟨Nat.le_of_ble_eq_true rfl, Nat.le_of_ble_eq_true rfl⟩) (rl_BR.pre rl_nw0 rl_P0 hK hN) rfl rfl hl.1 rfl (lv_room (Nat.le_of_ble_eq_true rfl)) d_m_licence_40 ⟨Nat.le_of_ble_eq_true rfl, Nat.le_of_ble_eq_true rfl⟩) (fun r8 locs hw hS => ?_)
        try simp only [rl_n0, rl_n1000000000] at hw
        rcases hw with ⟨rfl, h9⟩ | ⟨rfl, h9⟩
        · refine lv_if_eq (tgt := 58) hx hb d_m_licence_43 (by decide) (fun c9 => absurd c9 (by decide)) (fun _ => ?_)
          refine lv_iload hx hb d_m_licence_46 (lv_at hl 5 rfl) ?_
          refine lv_iload hx hb d_m_licence_48 (lv_at hl 4 rfl) ?_
          refine lv_ldc (v := 1000000000) hx hb hown (hG _ wd_606) d_m_licence_50 ?_
          refine rl_callr hS (va_runS (As := [.int jv, .int ju, .int 1000000000]) (rest := []) ⟨hx, hb, hml, hown, hG⟩ (k_m_in l D a kI kZ jv ju 1000000000 _) (cwS 3 hG (rl_gS wd_587 wd_588 wd_19 wd_589) rfl rfl rfl (by decide +kernel) ⟨Nat.le_of_ble_eq_true rfl, Nat.le_of_ble_eq_true rfl⟩) (rl_BR.pre rl_nw0 rl_P0 hK hN) rfl rfl hl.1 rfl (lv_room (Nat.le_of_ble_eq_true rfl)) d_m_licence_52 ⟨Nat.le_of_ble_eq_true rfl, Nat.le_of_ble_eq_true rfl⟩) (fun r10 locs hw hS => ?_)
          try simp only [rl_n1000000000] at hw
          rcases hw with ⟨rfl, h11⟩ | ⟨rfl, h11⟩
          · refine lv_if_ne (tgt := 61) hx hb d_m_licence_55 (by decide) (fun _ => ?_) (fun c9 => absurd c9 (by decide))
            refine lv_aload_n hx hb d_m_licence_61 rfl (lv_at hl 0 rfl) ?_
            refine va_get (D := D) (ci := 5) (v := .int (F1 27 4)) (C := "RightsLimitModel") (T := fT_m) (N := 33) hx hb hG fi_m hown hK hP 0 rfl rfl 14 (by decide) (hG _ wd_497) (fun _ h9 => h9) rfl d_m_licence_62 ?_
            refine lv_bipush (v := 50) hx hb d_m_licence_65 (by decide) ?_
            refine lv_icmp_ne (tgt := 73) hx hb d_m_licence_67 (by decide) (fun c12 => ?_) (fun c12 => ?_)
            · have ic12 := rl_ine c12
              simp only [rl_n50] at ic12
              refine lv_aload_n hx hb d_m_licence_73 rfl (lv_at hl 0 rfl) ?_
              refine va_get (D := D) (ci := 5) (v := .ref (a 11)) (C := "RightsLimitModel") (T := fT_m) (N := 33) hx hb hG fi_m hown hK hP 0 rfl rfl 15 (by decide) (hG _ wd_498) (fun _ h9 => h9) rfl d_m_licence_74 ?_
              refine lv_aload_n hx hb d_m_licence_77 rfl (lv_at hl 0 rfl) ?_
              refine va_get (D := D) (ci := 5) (v := .int (F1 27 4)) (C := "RightsLimitModel") (T := fT_m) (N := 33) hx hb hG fi_m hown hK hP 0 rfl rfl 14 (by decide) (hG _ wd_497) (fun _ h9 => h9) rfl d_m_licence_78 ?_
              refine lv_iload_n hx hb d_m_licence_81 rfl (lv_at hl 1 rfl) ?_
              refine va_iast hx hb hK hP hD hS 11 0 rfl rfl (rl_in (n := 50) (by omega) (by omega)) d_m_licence_82 (fun H locs hP hD hS => ?_)
              obtain ⟨F13, eF13⟩ : ∃ G, G = rl_st F1 10 ((F1 27 4).toNatClampNeg) jt := ⟨_, rfl⟩
              have hP : va_P D rl_cl (rm_w a kI kZ F13) H := by rw [eF13]; exact hP
              have hD : va_D A (rm_w a kI kZ F13) := by rw [eF13]; exact hD
              obtain ⟨tF13, hRF13⟩ := rm_keep eF13 (by decide) (by decide) (by decide) hRF1
              refine lv_aload_n hx hb d_m_licence_83 rfl (lv_at hl 0 rfl) ?_
              refine va_get (D := D) (ci := 5) (v := .ref (a 12)) (C := "RightsLimitModel") (T := fT_m) (N := 33) hx hb hG fi_m hown hK hP 0 rfl rfl 16 (by decide) (hG _ wd_499) (fun _ h9 => h9) rfl d_m_licence_84 ?_
              refine lv_aload_n hx hb d_m_licence_87 rfl (lv_at hl 0 rfl) ?_
              refine va_get (D := D) (ci := 5) (v := .int (F13 27 4)) (C := "RightsLimitModel") (T := fT_m) (N := 33) hx hb hG fi_m hown hK hP 0 rfl rfl 14 (by decide) (hG _ wd_497) (fun _ h9 => h9) rfl d_m_licence_88 ?_
              refine lv_iload_n hx hb d_m_licence_91 rfl (lv_at hl 2 rfl) ?_
              refine va_iast hx hb hK hP hD hS 12 0 rfl rfl (rl_in (n := 50) (by omega) (by omega)) d_m_licence_92 (fun H locs hP hD hS => ?_)
              obtain ⟨F14, eF14⟩ : ∃ G, G = rl_st F13 11 ((F13 27 4).toNatClampNeg) jk := ⟨_, rfl⟩
              have hP : va_P D rl_cl (rm_w a kI kZ F14) H := by rw [eF14]; exact hP
              have hD : va_D A (rm_w a kI kZ F14) := by rw [eF14]; exact hD
              obtain ⟨tF14, hRF14⟩ := rm_keep eF14 (by decide) (by decide) (by decide) hRF13
              refine lv_aload_n hx hb d_m_licence_93 rfl (lv_at hl 0 rfl) ?_
              refine va_get (D := D) (ci := 5) (v := .ref (a 13)) (C := "RightsLimitModel") (T := fT_m) (N := 33) hx hb hG fi_m hown hK hP 0 rfl rfl 17 (by decide) (hG _ wd_500) (fun _ h9 => h9) rfl d_m_licence_94 ?_
              refine lv_aload_n hx hb d_m_licence_97 rfl (lv_at hl 0 rfl) ?_
              refine va_get (D := D) (ci := 5) (v := .int (F14 27 4)) (C := "RightsLimitModel") (T := fT_m) (N := 33) hx hb hG fi_m hown hK hP 0 rfl rfl 14 (by decide) (hG _ wd_497) (fun _ h9 => h9) rfl d_m_licence_98 ?_
              refine lv_iload_n hx hb d_m_licence_101 rfl (lv_at hl 3 rfl) ?_
              refine va_iast hx hb hK hP hD hS 13 0 rfl rfl (rl_in (n := 50) (by omega) (by omega)) d_m_licence_102 (fun H locs hP hD hS => ?_)
              obtain ⟨F15, eF15⟩ : ∃ G, G = rl_st F14 12 ((F14 27 4).toNatClampNeg) jn := ⟨_, rfl⟩
              have hP : va_P D rl_cl (rm_w a kI kZ F15) H := by rw [eF15]; exact hP
              have hD : va_D A (rm_w a kI kZ F15) := by rw [eF15]; exact hD
              obtain ⟨tF15, hRF15⟩ := rm_keep eF15 (by decide) (by decide) (by decide) hRF14
              refine lv_aload_n hx hb d_m_licence_103 rfl (lv_at hl 0 rfl) ?_
              refine va_get (D := D) (ci := 5) (v := .ref (a 14)) (C := "RightsLimitModel") (T := fT_m) (N := 33) hx hb hG fi_m hown hK hP 0 rfl rfl 18 (by decide) (hG _ wd_501) (fun _ h9 => h9) rfl d_m_licence_104 ?_
              refine lv_aload_n hx hb d_m_licence_107 rfl (lv_at hl 0 rfl) ?_
              refine va_get (D := D) (ci := 5) (v := .int (F15 27 4)) (C := "RightsLimitModel") (T := fT_m) (N := 33) hx hb hG fi_m hown hK hP 0 rfl rfl 14 (by decide) (hG _ wd_497) (fun _ h9 => h9) rfl d_m_licence_108 ?_
              refine lv_iload hx hb d_m_licence_111 (lv_at hl 4 rfl) ?_
              refine va_iast hx hb hK hP hD hS 14 0 rfl rfl (rl_in (n := 50) (by omega) (by omega)) d_m_licence_113 (fun H locs hP hD hS => ?_)
              obtain ⟨F16, eF16⟩ : ∃ G, G = rl_st F15 13 ((F15 27 4).toNatClampNeg) ju := ⟨_, rfl⟩
              have hP : va_P D rl_cl (rm_w a kI kZ F16) H := by rw [eF16]; exact hP
              have hD : va_D A (rm_w a kI kZ F16) := by rw [eF16]; exact hD
              obtain ⟨tF16, hRF16⟩ := rm_keep eF16 (by decide) (by decide) (by decide) hRF15
              refine lv_aload_n hx hb d_m_licence_114 rfl (lv_at hl 0 rfl) ?_
              refine va_get (D := D) (ci := 5) (v := .ref (a 15)) (C := "RightsLimitModel") (T := fT_m) (N := 33) hx hb hG fi_m hown hK hP 0 rfl rfl 19 (by decide) (hG _ wd_502) (fun _ h9 => h9) rfl d_m_licence_115 ?_
              refine lv_aload_n hx hb d_m_licence_118 rfl (lv_at hl 0 rfl) ?_
              refine va_get (D := D) (ci := 5) (v := .int (F16 27 4)) (C := "RightsLimitModel") (T := fT_m) (N := 33) hx hb hG fi_m hown hK hP 0 rfl rfl 14 (by decide) (hG _ wd_497) (fun _ h9 => h9) rfl d_m_licence_119 ?_
              refine lv_iload hx hb d_m_licence_122 (lv_at hl 5 rfl) ?_
              refine va_iast hx hb hK hP hD hS 15 0 rfl rfl (rl_in (n := 50) (by omega) (by omega)) d_m_licence_124 (fun H locs hP hD hS => ?_)
              obtain ⟨F17, eF17⟩ : ∃ G, G = rl_st F16 14 ((F16 27 4).toNatClampNeg) jv := ⟨_, rfl⟩
              have hP : va_P D rl_cl (rm_w a kI kZ F17) H := by rw [eF17]; exact hP
              have hD : va_D A (rm_w a kI kZ F17) := by rw [eF17]; exact hD
              obtain ⟨tF17, hRF17⟩ := rm_keep eF17 (by decide) (by decide) (by decide) hRF16
              refine lv_aload_n hx hb d_m_licence_125 rfl (lv_at hl 0 rfl) ?_
              refine lv_dup hx hb d_m_licence_126 rfl ?_
              refine va_get (D := D) (ci := 5) (v := .int (F17 27 4)) (C := "RightsLimitModel") (T := fT_m) (N := 33) hx hb hG fi_m hown hK hP 0 rfl rfl 14 (by decide) (hG _ wd_497) (fun _ h9 => h9) rfl d_m_licence_127 ?_
              refine lv_iconst (v := 1) hx hb d_m_licence_130 (by decide) ?_
              refine lv_iadd hx hb d_m_licence_131 ?_
              refine lv_topi (fun v18 ev18 => ?_)
              have iv18 : v18.toInt = (F17 27 4).toInt + 1 := by rw [ev18]; exact rl_addk (by decide) (by omega) (by omega)
              refine va_put (D := D) (ci := 5) (v := .int v18) (ty := .int) (C := "RightsLimitModel") (T := fT_m) (N := 33) hx hb hG fi_m fy_m fo_m fn_m hown hK hP hD hS 0 rfl rfl 14 (by decide) (hG _ wd_497) (fun _ h9 => h9) rfl (by decide +kernel) rfl rfl (Nat.le_of_ble_eq_true rfl) d_m_licence_132 (fun H locs hP hD hS => ?_)
              obtain ⟨F19, eF19⟩ : ∃ G, G = rl_st F17 27 4 v18 := ⟨_, rfl⟩
              have hP : va_P D rl_cl (rm_w a kI kZ F19) H := by rw [eF19]; exact hP
              have hD : va_D A (rm_w a kI kZ F19) := by rw [eF19]; exact hD
              obtain ⟨tF19, hRF19⟩ := rm_put4 eF19 hRF17
              refine lv_aload_n hx hb d_m_licence_135 rfl (lv_at hl 0 rfl) ?_
              refine va_get (D := D) (ci := 5) (v := .int (F19 27 4)) (C := "RightsLimitModel") (T := fT_m) (N := 33) hx hb hG fi_m hown hK hP 0 rfl rfl 14 (by decide) (hG _ wd_497) (fun _ h9 => h9) rfl d_m_licence_136 ?_
              refine lv_iconst (v := 1) hx hb d_m_licence_139 (by decide) ?_
              refine lv_isub hx hb d_m_licence_140 ?_
              refine lv_topi (fun v20 ev20 => ?_)
              have iv20 : v20.toInt = (F19 27 4).toInt - 1 := by rw [ev20]; exact rl_subk (by decide) (by omega) (by omega)
              exact W.iret (v := v20) hx hb hr (fun t ht hW => ⟨⟨v20, F19, rfl, ⟨hRF19, (show ((0 ≤ jt.toInt ∧ jt.toInt < (F 27 2).toInt) ∧ ((0 ≤ jk.toInt ∧ jk.toInt ≤ 1) ∧ (0 ≤ jn.toInt ∧ jn.toInt ≤ 1000) ∧ (0 ≤ ju.toInt ∧ ju.toInt ≤ 1000000000) ∧ (0 ≤ jv.toInt ∧ jv.toInt ≤ 1000000000) ∧ ju.toInt ≤ jv.toInt) ∧ (F 27 4).toInt < 50 ∧ v20.toInt = (F 27 4).toInt ∧ (F19 27 4).toInt = (F 27 4).toInt + 1 ∧ (F19 27 2).toInt = (F 27 2).toInt ∧ (F19 27 3).toInt = (F 27 3).toInt ∧ (F19 27 5).toInt = (F 27 5).toInt) ∨ ((((0 ≤ jt.toInt ∧ jt.toInt < (F 27 2).toInt) ∧ ((0 ≤ jk.toInt ∧ jk.toInt ≤ 1) ∧ (0 ≤ jn.toInt ∧ jn.toInt ≤ 1000) ∧ (0 ≤ ju.toInt ∧ ju.toInt ≤ 1000000000) ∧ (0 ≤ jv.toInt ∧ jv.toInt ≤ 1000000000) ∧ ju.toInt ≤ jv.toInt) ∧ 50 ≤ (F 27 4).toInt ∧ v20.toInt = -4) ∨ ((0 ≤ jt.toInt ∧ jt.toInt < (F 27 2).toInt) ∧ ¬ ((0 ≤ jk.toInt ∧ jk.toInt ≤ 1) ∧ (0 ≤ jn.toInt ∧ jn.toInt ≤ 1000) ∧ (0 ≤ ju.toInt ∧ ju.toInt ≤ 1000000000) ∧ (0 ≤ jv.toInt ∧ jv.toInt ≤ 1000000000) ∧ ju.toInt ≤ jv.toInt) ∧ v20.toInt = -2) ∨ (¬ (0 ≤ jt.toInt ∧ jt.toInt < (F 27 2).toInt) ∧ v20.toInt = -1)) ∧ (F19 27 2).toInt = (F 27 2).toInt ∧ (F19 27 3).toInt = (F 27 3).toInt ∧ (F19 27 4).toInt = (F 27 4).toInt ∧ (F19 27 5).toInt = (F 27 5).toInt) by omega)⟩, ⟨by rw [ht]; exact hP, hD⟩⟩, hS.F ht⟩) hS.2.2 d_m_licence_141
            · have ic12 := rl_ieq c12
              simp only [rl_n50] at ic12
              refine lv_bipush (v := (-4)) hx hb d_m_licence_70 (by decide) ?_
              exact W.iret (v := (-4)) hx hb hr (fun t ht hW => ⟨⟨(-4), F1, rfl, ⟨hRF1, (show ((0 ≤ jt.toInt ∧ jt.toInt < (F 27 2).toInt) ∧ ((0 ≤ jk.toInt ∧ jk.toInt ≤ 1) ∧ (0 ≤ jn.toInt ∧ jn.toInt ≤ 1000) ∧ (0 ≤ ju.toInt ∧ ju.toInt ≤ 1000000000) ∧ (0 ≤ jv.toInt ∧ jv.toInt ≤ 1000000000) ∧ ju.toInt ≤ jv.toInt) ∧ (F 27 4).toInt < 50 ∧ ((-4) : Int32).toInt = (F 27 4).toInt ∧ (F1 27 4).toInt = (F 27 4).toInt + 1 ∧ (F1 27 2).toInt = (F 27 2).toInt ∧ (F1 27 3).toInt = (F 27 3).toInt ∧ (F1 27 5).toInt = (F 27 5).toInt) ∨ ((((0 ≤ jt.toInt ∧ jt.toInt < (F 27 2).toInt) ∧ ((0 ≤ jk.toInt ∧ jk.toInt ≤ 1) ∧ (0 ≤ jn.toInt ∧ jn.toInt ≤ 1000) ∧ (0 ≤ ju.toInt ∧ ju.toInt ≤ 1000000000) ∧ (0 ≤ jv.toInt ∧ jv.toInt ≤ 1000000000) ∧ ju.toInt ≤ jv.toInt) ∧ 50 ≤ (F 27 4).toInt ∧ ((-4) : Int32).toInt = -4) ∨ ((0 ≤ jt.toInt ∧ jt.toInt < (F 27 2).toInt) ∧ ¬ ((0 ≤ jk.toInt ∧ jk.toInt ≤ 1) ∧ (0 ≤ jn.toInt ∧ jn.toInt ≤ 1000) ∧ (0 ≤ ju.toInt ∧ ju.toInt ≤ 1000000000) ∧ (0 ≤ jv.toInt ∧ jv.toInt ≤ 1000000000) ∧ ju.toInt ≤ jv.toInt) ∧ ((-4) : Int32).toInt = -2) ∨ (¬ (0 ≤ jt.toInt ∧ jt.toInt < (F 27 2).toInt) ∧ ((-4) : Int32).toInt = -1)) ∧ (F1 27 2).toInt = (F 27 2).toInt ∧ (F1 27 3).toInt = (F 27 3).toInt ∧ (F1 27 4).toInt = (F 27 4).toInt ∧ (F1 27 5).toInt = (F 27 5).toInt) by have q9 := rl_nm4; omega)⟩, ⟨by rw [ht]; exact hP, hD⟩⟩, hS.F ht⟩) hS.2.2 d_m_licence_72
          · refine lv_if_ne (tgt := 61) hx hb d_m_licence_55 (by decide) (fun c9 => absurd c9 (by decide)) (fun _ => ?_)
            refine lv_bipush (v := (-2)) hx hb d_m_licence_58 (by decide) ?_
            exact W.iret (v := (-2)) hx hb hr (fun t ht hW => ⟨⟨(-2), F1, rfl, ⟨hRF1, (show ((0 ≤ jt.toInt ∧ jt.toInt < (F 27 2).toInt) ∧ ((0 ≤ jk.toInt ∧ jk.toInt ≤ 1) ∧ (0 ≤ jn.toInt ∧ jn.toInt ≤ 1000) ∧ (0 ≤ ju.toInt ∧ ju.toInt ≤ 1000000000) ∧ (0 ≤ jv.toInt ∧ jv.toInt ≤ 1000000000) ∧ ju.toInt ≤ jv.toInt) ∧ (F 27 4).toInt < 50 ∧ ((-2) : Int32).toInt = (F 27 4).toInt ∧ (F1 27 4).toInt = (F 27 4).toInt + 1 ∧ (F1 27 2).toInt = (F 27 2).toInt ∧ (F1 27 3).toInt = (F 27 3).toInt ∧ (F1 27 5).toInt = (F 27 5).toInt) ∨ ((((0 ≤ jt.toInt ∧ jt.toInt < (F 27 2).toInt) ∧ ((0 ≤ jk.toInt ∧ jk.toInt ≤ 1) ∧ (0 ≤ jn.toInt ∧ jn.toInt ≤ 1000) ∧ (0 ≤ ju.toInt ∧ ju.toInt ≤ 1000000000) ∧ (0 ≤ jv.toInt ∧ jv.toInt ≤ 1000000000) ∧ ju.toInt ≤ jv.toInt) ∧ 50 ≤ (F 27 4).toInt ∧ ((-2) : Int32).toInt = -4) ∨ ((0 ≤ jt.toInt ∧ jt.toInt < (F 27 2).toInt) ∧ ¬ ((0 ≤ jk.toInt ∧ jk.toInt ≤ 1) ∧ (0 ≤ jn.toInt ∧ jn.toInt ≤ 1000) ∧ (0 ≤ ju.toInt ∧ ju.toInt ≤ 1000000000) ∧ (0 ≤ jv.toInt ∧ jv.toInt ≤ 1000000000) ∧ ju.toInt ≤ jv.toInt) ∧ ((-2) : Int32).toInt = -2) ∨ (¬ (0 ≤ jt.toInt ∧ jt.toInt < (F 27 2).toInt) ∧ ((-2) : Int32).toInt = -1)) ∧ (F1 27 2).toInt = (F 27 2).toInt ∧ (F1 27 3).toInt = (F 27 3).toInt ∧ (F1 27 4).toInt = (F 27 4).toInt ∧ (F1 27 5).toInt = (F 27 5).toInt) by have q9 := rl_nm2; omega)⟩, ⟨by rw [ht]; exact hP, hD⟩⟩, hS.F ht⟩) hS.2.2 d_m_licence_60
        · refine lv_if_eq (tgt := 58) hx hb d_m_licence_43 (by decide) (fun _ => ?_) (fun c9 => absurd c9 (by decide))
          refine lv_bipush (v := (-2)) hx hb d_m_licence_58 (by decide) ?_
          exact W.iret (v := (-2)) hx hb hr (fun t ht hW => ⟨⟨(-2), F1, rfl, ⟨hRF1, (show ((0 ≤ jt.toInt ∧ jt.toInt < (F 27 2).toInt) ∧ ((0 ≤ jk.toInt ∧ jk.toInt ≤ 1) ∧ (0 ≤ jn.toInt ∧ jn.toInt ≤ 1000) ∧ (0 ≤ ju.toInt ∧ ju.toInt ≤ 1000000000) ∧ (0 ≤ jv.toInt ∧ jv.toInt ≤ 1000000000) ∧ ju.toInt ≤ jv.toInt) ∧ (F 27 4).toInt < 50 ∧ ((-2) : Int32).toInt = (F 27 4).toInt ∧ (F1 27 4).toInt = (F 27 4).toInt + 1 ∧ (F1 27 2).toInt = (F 27 2).toInt ∧ (F1 27 3).toInt = (F 27 3).toInt ∧ (F1 27 5).toInt = (F 27 5).toInt) ∨ ((((0 ≤ jt.toInt ∧ jt.toInt < (F 27 2).toInt) ∧ ((0 ≤ jk.toInt ∧ jk.toInt ≤ 1) ∧ (0 ≤ jn.toInt ∧ jn.toInt ≤ 1000) ∧ (0 ≤ ju.toInt ∧ ju.toInt ≤ 1000000000) ∧ (0 ≤ jv.toInt ∧ jv.toInt ≤ 1000000000) ∧ ju.toInt ≤ jv.toInt) ∧ 50 ≤ (F 27 4).toInt ∧ ((-2) : Int32).toInt = -4) ∨ ((0 ≤ jt.toInt ∧ jt.toInt < (F 27 2).toInt) ∧ ¬ ((0 ≤ jk.toInt ∧ jk.toInt ≤ 1) ∧ (0 ≤ jn.toInt ∧ jn.toInt ≤ 1000) ∧ (0 ≤ ju.toInt ∧ ju.toInt ≤ 1000000000) ∧ (0 ≤ jv.toInt ∧ jv.toInt ≤ 1000000000) ∧ ju.toInt ≤ jv.toInt) ∧ ((-2) : Int32).toInt = -2) ∨ (¬ (0 ≤ jt.toInt ∧ jt.toInt < (F 27 2).toInt) ∧ ((-2) : Int32).toInt = -1)) ∧ (F1 27 2).toInt = (F 27 2).toInt ∧ (F1 27 3).toInt = (F 27 3).toInt ∧ (F1 27 4).toInt = (F 27 4).toInt ∧ (F1 27 5).toInt = (F 27 5).toInt) by have q9 := rl_nm2; omega)⟩, ⟨by rw [ht]; exact hP, hD⟩⟩, hS.F ht⟩) hS.2.2 d_m_licence_60
      · refine lv_if_eq (tgt := 58) hx hb d_m_licence_32 (by decide) (fun _ => ?_) (fun c9 => absurd c9 (by decide))
        refine lv_bipush (v := (-2)) hx hb d_m_licence_58 (by decide) ?_
        exact W.iret (v := (-2)) hx hb hr (fun t ht hW => ⟨⟨(-2), F1, rfl, ⟨hRF1, (show ((0 ≤ jt.toInt ∧ jt.toInt < (F 27 2).toInt) ∧ ((0 ≤ jk.toInt ∧ jk.toInt ≤ 1) ∧ (0 ≤ jn.toInt ∧ jn.toInt ≤ 1000) ∧ (0 ≤ ju.toInt ∧ ju.toInt ≤ 1000000000) ∧ (0 ≤ jv.toInt ∧ jv.toInt ≤ 1000000000) ∧ ju.toInt ≤ jv.toInt) ∧ (F 27 4).toInt < 50 ∧ ((-2) : Int32).toInt = (F 27 4).toInt ∧ (F1 27 4).toInt = (F 27 4).toInt + 1 ∧ (F1 27 2).toInt = (F 27 2).toInt ∧ (F1 27 3).toInt = (F 27 3).toInt ∧ (F1 27 5).toInt = (F 27 5).toInt) ∨ ((((0 ≤ jt.toInt ∧ jt.toInt < (F 27 2).toInt) ∧ ((0 ≤ jk.toInt ∧ jk.toInt ≤ 1) ∧ (0 ≤ jn.toInt ∧ jn.toInt ≤ 1000) ∧ (0 ≤ ju.toInt ∧ ju.toInt ≤ 1000000000) ∧ (0 ≤ jv.toInt ∧ jv.toInt ≤ 1000000000) ∧ ju.toInt ≤ jv.toInt) ∧ 50 ≤ (F 27 4).toInt ∧ ((-2) : Int32).toInt = -4) ∨ ((0 ≤ jt.toInt ∧ jt.toInt < (F 27 2).toInt) ∧ ¬ ((0 ≤ jk.toInt ∧ jk.toInt ≤ 1) ∧ (0 ≤ jn.toInt ∧ jn.toInt ≤ 1000) ∧ (0 ≤ ju.toInt ∧ ju.toInt ≤ 1000000000) ∧ (0 ≤ jv.toInt ∧ jv.toInt ≤ 1000000000) ∧ ju.toInt ≤ jv.toInt) ∧ ((-2) : Int32).toInt = -2) ∨ (¬ (0 ≤ jt.toInt ∧ jt.toInt < (F 27 2).toInt) ∧ ((-2) : Int32).toInt = -1)) ∧ (F1 27 2).toInt = (F 27 2).toInt ∧ (F1 27 3).toInt = (F 27 3).toInt ∧ (F1 27 4).toInt = (F 27 4).toInt ∧ (F1 27 5).toInt = (F 27 5).toInt) by have q9 := rl_nm2; omega)⟩, ⟨by rw [ht]; exact hP, hD⟩⟩, hS.F ht⟩) hS.2.2 d_m_licence_60
    · refine lv_if_eq (tgt := 58) hx hb d_m_licence_21 (by decide) (fun _ => ?_) (fun c9 => absurd c9 (by decide))
      refine lv_bipush (v := (-2)) hx hb d_m_licence_58 (by decide) ?_
      exact W.iret (v := (-2)) hx hb hr (fun t ht hW => ⟨⟨(-2), F1, rfl, ⟨hRF1, (show ((0 ≤ jt.toInt ∧ jt.toInt < (F 27 2).toInt) ∧ ((0 ≤ jk.toInt ∧ jk.toInt ≤ 1) ∧ (0 ≤ jn.toInt ∧ jn.toInt ≤ 1000) ∧ (0 ≤ ju.toInt ∧ ju.toInt ≤ 1000000000) ∧ (0 ≤ jv.toInt ∧ jv.toInt ≤ 1000000000) ∧ ju.toInt ≤ jv.toInt) ∧ (F 27 4).toInt < 50 ∧ ((-2) : Int32).toInt = (F 27 4).toInt ∧ (F1 27 4).toInt = (F 27 4).toInt + 1 ∧ (F1 27 2).toInt = (F 27 2).toInt ∧ (F1 27 3).toInt = (F 27 3).toInt ∧ (F1 27 5).toInt = (F 27 5).toInt) ∨ ((((0 ≤ jt.toInt ∧ jt.toInt < (F 27 2).toInt) ∧ ((0 ≤ jk.toInt ∧ jk.toInt ≤ 1) ∧ (0 ≤ jn.toInt ∧ jn.toInt ≤ 1000) ∧ (0 ≤ ju.toInt ∧ ju.toInt ≤ 1000000000) ∧ (0 ≤ jv.toInt ∧ jv.toInt ≤ 1000000000) ∧ ju.toInt ≤ jv.toInt) ∧ 50 ≤ (F 27 4).toInt ∧ ((-2) : Int32).toInt = -4) ∨ ((0 ≤ jt.toInt ∧ jt.toInt < (F 27 2).toInt) ∧ ¬ ((0 ≤ jk.toInt ∧ jk.toInt ≤ 1) ∧ (0 ≤ jn.toInt ∧ jn.toInt ≤ 1000) ∧ (0 ≤ ju.toInt ∧ ju.toInt ≤ 1000000000) ∧ (0 ≤ jv.toInt ∧ jv.toInt ≤ 1000000000) ∧ ju.toInt ≤ jv.toInt) ∧ ((-2) : Int32).toInt = -2) ∨ (¬ (0 ≤ jt.toInt ∧ jt.toInt < (F 27 2).toInt) ∧ ((-2) : Int32).toInt = -1)) ∧ (F1 27 2).toInt = (F 27 2).toInt ∧ (F1 27 3).toInt = (F 27 3).toInt ∧ (F1 27 4).toInt = (F 27 4).toInt ∧ (F1 27 5).toInt = (F 27 5).toInt) by have q9 := rl_nm2; omega)⟩, ⟨by rw [ht]; exact hP, hD⟩⟩, hS.F ht⟩) hS.2.2 d_m_licence_60
  · refine lv_if_ne (tgt := 15) hx hb d_m_licence_10 (by decide) (fun c9 => absurd c9 (by decide)) (fun _ => ?_)
    refine lv_iconst (v := (-1)) hx hb d_m_licence_13 (by decide) ?_
    exact W.iret (v := (-1)) hx hb hr (fun t ht hW => ⟨⟨(-1), F1, rfl, ⟨hRF1, (show ((0 ≤ jt.toInt ∧ jt.toInt < (F 27 2).toInt) ∧ ((0 ≤ jk.toInt ∧ jk.toInt ≤ 1) ∧ (0 ≤ jn.toInt ∧ jn.toInt ≤ 1000) ∧ (0 ≤ ju.toInt ∧ ju.toInt ≤ 1000000000) ∧ (0 ≤ jv.toInt ∧ jv.toInt ≤ 1000000000) ∧ ju.toInt ≤ jv.toInt) ∧ (F 27 4).toInt < 50 ∧ ((-1) : Int32).toInt = (F 27 4).toInt ∧ (F1 27 4).toInt = (F 27 4).toInt + 1 ∧ (F1 27 2).toInt = (F 27 2).toInt ∧ (F1 27 3).toInt = (F 27 3).toInt ∧ (F1 27 5).toInt = (F 27 5).toInt) ∨ ((((0 ≤ jt.toInt ∧ jt.toInt < (F 27 2).toInt) ∧ ((0 ≤ jk.toInt ∧ jk.toInt ≤ 1) ∧ (0 ≤ jn.toInt ∧ jn.toInt ≤ 1000) ∧ (0 ≤ ju.toInt ∧ ju.toInt ≤ 1000000000) ∧ (0 ≤ jv.toInt ∧ jv.toInt ≤ 1000000000) ∧ ju.toInt ≤ jv.toInt) ∧ 50 ≤ (F 27 4).toInt ∧ ((-1) : Int32).toInt = -4) ∨ ((0 ≤ jt.toInt ∧ jt.toInt < (F 27 2).toInt) ∧ ¬ ((0 ≤ jk.toInt ∧ jk.toInt ≤ 1) ∧ (0 ≤ jn.toInt ∧ jn.toInt ≤ 1000) ∧ (0 ≤ ju.toInt ∧ ju.toInt ≤ 1000000000) ∧ (0 ≤ jv.toInt ∧ jv.toInt ≤ 1000000000) ∧ ju.toInt ≤ jv.toInt) ∧ ((-1) : Int32).toInt = -2) ∨ (¬ (0 ≤ jt.toInt ∧ jt.toInt < (F 27 2).toInt) ∧ ((-1) : Int32).toInt = -1)) ∧ (F1 27 2).toInt = (F 27 2).toInt ∧ (F1 27 3).toInt = (F 27 3).toInt ∧ (F1 27 4).toInt = (F 27 4).toInt ∧ (F1 27 5).toInt = (F 27 5).toInt) by have q9 := rl_nm1; omega)⟩, ⟨by rw [ht]; exact hP, hD⟩⟩, hS.F ht⟩) hS.2.2 d_m_licence_14
set_option maxHeartbeats 4000000 in
set_option maxRecDepth 100000 in
theorem k_m_fee (l : Launch) (D : va_G) (a : Nat → Nat) (kI kZ : ClassId) (F : Nat → Nat → Int32) (jp jn : Int32) (hI : rm_I F) (sz : Nat) : rl_Ci (S := Nat → Nat → Int32) l ⟨"RightsLimitModel", "fee", "(II)I"⟩ (Cond.code ⟨"RightsLimitModel", "fee", "(II)I"⟩ prog_7_method_10_code 3 (some .int) :: rl_G) { frames := 1, cells := 0, slots := 0, locals := 22 } D rl_cl (rl_tys kI kZ) [] [.ref (a 0), .int jp, .int jn] (rm_w a kI kZ F) sz (fun (r : Int32) (F' : Nat → Nat → Int32) => rm_R F' ∧ (((((0 ≤ jp.toInt ∧ jp.toInt ≤ 99) ∧ (0 ≤ jn.toInt ∧ jn.toInt ≤ 10000)) ∧ r.toInt = 1) ∨ (¬ ((0 ≤ jp.toInt ∧ jp.toInt ≤ 99) ∧ (0 ≤ jn.toInt ∧ jn.toInt ≤ 10000)) ∧ r.toInt = -2)) ∧ (F' 27 2).toInt = (F 27 2).toInt ∧ (F' 27 3).toInt = (F 27 3).toInt ∧ (F' 27 4).toInt = (F 27 4).toInt ∧ (F' 27 5).toInt = (F 27 5).toInt)) (fun F' => rm_w a kI kZ F') 0 0 := by
  refine rl_meti (cc := prog_7_method_10_code) (maxL := 3) (ret := (some .int)) (by decide) rfl (Nat.le_of_ble_eq_true rfl) ?_
  intro p e s m below meth c A ls hx hb hr hml hown hts hlocks hnm hP hK hD hS hA hN hl
  have hown : s.vm.findClass "RightsLimitModel" = some m.cls := hown
  have hG : ∀ x ∈ rl_G, x.before _ s = true := fun x h => hts x (List.mem_cons_of_mem _ h)
  have hl : lv_has ls 3 [(0, .ref (a 0)), (1, .int jp), (2, .int jn)] := hl
  obtain ⟨hcnt, hR⟩ := id hI
  refine lv_aload_n hx hb d_m_fee_0 rfl (lv_at hl 0 rfl) ?_
  refine lv_iconst (v := 0) hx hb d_m_fee_1 (by decide) ?_
  refine va_put (D := D) (ci := 5) (v := .int 0) (ty := .int) (C := "RightsLimitModel") (T := fT_m) (N := 33) hx hb hG fi_m fy_m fo_m fn_m hown hK hP hD hS 0 rfl rfl 0 (by decide) (hG _ wd_483) (fun _ h9 => h9) rfl (by decide +kernel) rfl rfl (Nat.le_of_ble_eq_true rfl) d_m_fee_2 (fun H locs hP hD hS => ?_)
  obtain ⟨F1, eF1⟩ : ∃ G, G = rl_st F 27 0 0 := ⟨_, rfl⟩
  have hP : va_P D rl_cl (rm_w a kI kZ F1) H := by rw [eF1]; exact hP
  have hD : va_D A (rm_w a kI kZ F1) := by rw [eF1]; exact hD
  obtain ⟨tF1, hRF1⟩ := rm_putS eF1 (by decide) (by decide) (by decide) (by decide) hR
  refine lv_iload_n hx hb d_m_fee_5 rfl (lv_at hl 1 rfl) ?_
  refine lv_iconst (v := 0) hx hb d_m_fee_6 (by decide) ?_
  refine lv_bipush (v := 99) hx hb d_m_fee_7 (by decide) ?_
  refine rl_callr hS (va_runS (As := [.int jp, .int 0, .int 99]) (rest := []) ⟨hx, hb, hml, hown, hG⟩ (k_m_in l D a kI kZ jp 0 99 _) (cwS 3 hG (rl_gS wd_587 wd_588 wd_19 wd_589) rfl rfl rfl (by decide +kernel) ⟨Nat.le_of_ble_eq_true rfl, Nat.le_of_ble_eq_true rfl⟩) (rl_BR.pre rl_nw0 rl_P0 hK hN) rfl rfl hl.1 rfl (lv_room (Nat.le_of_ble_eq_true rfl)) d_m_fee_9 ⟨Nat.le_of_ble_eq_true rfl, Nat.le_of_ble_eq_true rfl⟩) (fun r2 locs hw hS => ?_)
  try simp only [rl_n0, rl_n99] at hw
  rcases hw with ⟨rfl, h3⟩ | ⟨rfl, h3⟩
  · refine lv_if_eq (tgt := 26) hx hb d_m_fee_12 (by decide) (fun c9 => absurd c9 (by decide)) (fun _ => ?_)
    refine lv_iload_n hx hb d_m_fee_15 rfl (lv_at hl 2 rfl) ?_
    refine lv_iconst (v := 0) hx hb d_m_fee_16 (by decide) ?_
    refine lv_sipush (v := 10000) hx hb d_m_fee_17 (by decide) ?_
    refine rl_callr hS (va_runS (As := [.int jn, .int 0, .int 10000]) (rest := []) ⟨hx, hb, hml, hown, hG⟩ (k_m_in l D a kI kZ jn 0 10000 _) (cwS 3 hG (rl_gS wd_587 wd_588 wd_19 wd_589) rfl rfl rfl (by decide +kernel) ⟨Nat.le_of_ble_eq_true rfl, Nat.le_of_ble_eq_true rfl⟩) (rl_BR.pre rl_nw0 rl_P0 hK hN) rfl rfl hl.1 rfl (lv_room (Nat.le_of_ble_eq_true rfl)) d_m_fee_20 ⟨Nat.le_of_ble_eq_true rfl, Nat.le_of_ble_eq_true rfl⟩) (fun r4 locs hw hS => ?_)
    try simp only [rl_n0, rl_n10000] at hw
    rcases hw with ⟨rfl, h5⟩ | ⟨rfl, h5⟩
    · refine lv_if_ne (tgt := 29) hx hb d_m_fee_23 (by decide) (fun _ => ?_) (fun c9 => absurd c9 (by decide))
      refine lv_aload_n hx hb d_m_fee_29 rfl (lv_at hl 0 rfl) ?_
      refine va_get (D := D) (ci := 5) (v := .ref (a 5)) (C := "RightsLimitModel") (T := fT_m) (N := 33) hx hb hG fi_m hown hK hP 0 rfl rfl 7 (by decide) (hG _ wd_490) (fun _ h9 => h9) rfl d_m_fee_30 ?_
      refine lv_iload_n hx hb d_m_fee_33 rfl (lv_at hl 1 rfl) ?_
      refine lv_iload_n hx hb d_m_fee_34 rfl (lv_at hl 2 rfl) ?_
      refine va_iast hx hb hK hP hD hS 5 0 rfl rfl (rl_in (n := 100) (by omega) (by omega)) d_m_fee_35 (fun H locs hP hD hS => ?_)
      obtain ⟨F6, eF6⟩ : ∃ G, G = rl_st F1 4 jp.toNatClampNeg jn := ⟨_, rfl⟩
      have hP : va_P D rl_cl (rm_w a kI kZ F6) H := by rw [eF6]; exact hP
      have hD : va_D A (rm_w a kI kZ F6) := by rw [eF6]; exact hD
      obtain ⟨tF6, hRF6⟩ := rm_keep eF6 (by decide) (by decide) (by decide) hRF1
      refine lv_iconst (v := 1) hx hb d_m_fee_36 (by decide) ?_
      exact W.iret (v := 1) hx hb hr (fun t ht hW => ⟨⟨1, F6, rfl, ⟨hRF6, (show ((((0 ≤ jp.toInt ∧ jp.toInt ≤ 99) ∧ (0 ≤ jn.toInt ∧ jn.toInt ≤ 10000)) ∧ (1 : Int32).toInt = 1) ∨ (¬ ((0 ≤ jp.toInt ∧ jp.toInt ≤ 99) ∧ (0 ≤ jn.toInt ∧ jn.toInt ≤ 10000)) ∧ (1 : Int32).toInt = -2)) ∧ (F6 27 2).toInt = (F 27 2).toInt ∧ (F6 27 3).toInt = (F 27 3).toInt ∧ (F6 27 4).toInt = (F 27 4).toInt ∧ (F6 27 5).toInt = (F 27 5).toInt by have q9 := rl_n1; omega)⟩, ⟨by rw [ht]; exact hP, hD⟩⟩, hS.F ht⟩) hS.2.2 d_m_fee_37
    · refine lv_if_ne (tgt := 29) hx hb d_m_fee_23 (by decide) (fun c9 => absurd c9 (by decide)) (fun _ => ?_)
      refine lv_bipush (v := (-2)) hx hb d_m_fee_26 (by decide) ?_
      exact W.iret (v := (-2)) hx hb hr (fun t ht hW => ⟨⟨(-2), F1, rfl, ⟨hRF1, (show ((((0 ≤ jp.toInt ∧ jp.toInt ≤ 99) ∧ (0 ≤ jn.toInt ∧ jn.toInt ≤ 10000)) ∧ ((-2) : Int32).toInt = 1) ∨ (¬ ((0 ≤ jp.toInt ∧ jp.toInt ≤ 99) ∧ (0 ≤ jn.toInt ∧ jn.toInt ≤ 10000)) ∧ ((-2) : Int32).toInt = -2)) ∧ (F1 27 2).toInt = (F 27 2).toInt ∧ (F1 27 3).toInt = (F 27 3).toInt ∧ (F1 27 4).toInt = (F 27 4).toInt ∧ (F1 27 5).toInt = (F 27 5).toInt by have q9 := rl_nm2; omega)⟩, ⟨by rw [ht]; exact hP, hD⟩⟩, hS.F ht⟩) hS.2.2 d_m_fee_28
  · refine lv_if_eq (tgt := 26) hx hb d_m_fee_12 (by decide) (fun _ => ?_) (fun c9 => absurd c9 (by decide))
    refine lv_bipush (v := (-2)) hx hb d_m_fee_26 (by decide) ?_
    exact W.iret (v := (-2)) hx hb hr (fun t ht hW => ⟨⟨(-2), F1, rfl, ⟨hRF1, (show ((((0 ≤ jp.toInt ∧ jp.toInt ≤ 99) ∧ (0 ≤ jn.toInt ∧ jn.toInt ≤ 10000)) ∧ ((-2) : Int32).toInt = 1) ∨ (¬ ((0 ≤ jp.toInt ∧ jp.toInt ≤ 99) ∧ (0 ≤ jn.toInt ∧ jn.toInt ≤ 10000)) ∧ ((-2) : Int32).toInt = -2)) ∧ (F1 27 2).toInt = (F 27 2).toInt ∧ (F1 27 3).toInt = (F 27 3).toInt ∧ (F1 27 4).toInt = (F 27 4).toInt ∧ (F1 27 5).toInt = (F 27 5).toInt by have q9 := rl_nm2; omega)⟩, ⟨by rw [ht]; exact hP, hD⟩⟩, hS.F ht⟩) hS.2.2 d_m_fee_28
