set_option maxHeartbeats 4000000 in
set_option maxRecDepth 100000 in
theorem k_m_in (l : Launch) (D : va_G) (a : Nat → Nat) (kI kZ : ClassId) (jn jlo jhi : Int32) (H0 : Heap) : rl_Ri l ⟨"RightsLimitModel", "in", "(III)Z"⟩ (Cond.code ⟨"RightsLimitModel", "in", "(III)Z"⟩ prog_7_method_3_code 3 (some .boolean) :: rl_G) { frames := 0, cells := 0, slots := 0, locals := 0 } D rl_cl (rl_tys kI kZ) [] [.int jn, .int jlo, .int jhi] [] H0 (fun (r : Int32) => (r = 1 ∧ (jlo.toInt ≤ jn.toInt ∧ jn.toInt ≤ jhi.toInt)) ∨ (r = 0 ∧ ¬ (jlo.toInt ≤ jn.toInt ∧ jn.toInt ≤ jhi.toInt))) := by
  refine rl_metr (cc := prog_7_method_3_code) (maxL := 3) (ret := (some .boolean)) (by decide) rfl (Nat.le_of_ble_eq_true rfl) ?_
  intro p e s m below meth c ls hx hb hr hml hown hts hlocks hP hK hS hN hl
  have hown : s.vm.findClass "RightsLimitModel" = some m.cls := hown
  have hG : ∀ x ∈ rl_G, x.before _ s = true := fun x h => hts x (List.mem_cons_of_mem _ h)
  have hl : lv_has ls 3 [(0, .int jn), (1, .int jlo), (2, .int jhi)] := hl
  refine lv_iload_n hx hb d_m_in_0 rfl (lv_at hl 0 rfl) ?_
  refine lv_iload_n hx hb d_m_in_1 rfl (lv_at hl 1 rfl) ?_
  refine lv_icmp_lt (tgt := 14) hx hb d_m_in_2 (by decide) (fun c1 => ?_) (fun c1 => ?_)
  · have ic1 := rl_ilt c1
    refine lv_iconst (v := 0) hx hb d_m_in_14 (by decide) ?_
    exact W.zret (v := 0) hx hb hr rfl (fun t ht hW => ⟨⟨0, (), rfl, Or.inr ⟨rfl, by omega⟩, ht⟩, hS.F ht⟩) hS.2.2 d_m_in_15
  · have ic1 := rl_inlt c1
    refine lv_iload_n hx hb d_m_in_5 rfl (lv_at hl 0 rfl) ?_
    refine lv_iload_n hx hb d_m_in_6 rfl (lv_at hl 2 rfl) ?_
    refine lv_icmp_gt (tgt := 14) hx hb d_m_in_7 (by decide) (fun c2 => ?_) (fun c2 => ?_)
    · have ic2 := rl_ilt c2
      refine lv_iconst (v := 0) hx hb d_m_in_14 (by decide) ?_
      exact W.zret (v := 0) hx hb hr rfl (fun t ht hW => ⟨⟨0, (), rfl, Or.inr ⟨rfl, by omega⟩, ht⟩, hS.F ht⟩) hS.2.2 d_m_in_15
    · have ic2 := rl_inlt c2
      refine lv_iconst (v := 1) hx hb d_m_in_10 (by decide) ?_
      refine lv_goto (tgt := 15) hx hb d_m_in_11 (by decide) ?_
      exact W.zret (v := 1) hx hb hr rfl (fun t ht hW => ⟨⟨1, (), rfl, Or.inl ⟨rfl, by omega⟩, ht⟩, hS.F ht⟩) hS.2.2 d_m_in_15
set_option maxHeartbeats 4000000 in
set_option maxRecDepth 100000 in
theorem k_m_isTitle (l : Launch) (D : va_G) (a : Nat → Nat) (kI kZ : ClassId) (jn : Int32) (H0 : Heap) : rl_Ri l ⟨"RightsLimitModel", "isTitle", "(I)Z"⟩ (Cond.code ⟨"RightsLimitModel", "isTitle", "(I)Z"⟩ prog_7_method_4_code 2 (some .boolean) :: rl_G) { frames := 1, cells := 0, slots := 0, locals := 22 } D rl_cl (rl_tys kI kZ) [] [.ref (a 0), .int jn] (rm_w a kI kZ (rl_st rm_F0 27 0 0)) H0 (fun (r : Int32) => r = 0) := by
  refine rl_metr (cc := prog_7_method_4_code) (maxL := 2) (ret := (some .boolean)) (by decide) rfl (Nat.le_of_ble_eq_true rfl) ?_
  intro p e s m below meth c ls hx hb hr hml hown hts hlocks hP hK hS hN hl
  have hown : s.vm.findClass "RightsLimitModel" = some m.cls := hown
  have hG : ∀ x ∈ rl_G, x.before _ s = true := fun x h => hts x (List.mem_cons_of_mem _ h)
  have hl : lv_has ls 2 [(0, .ref (a 0)), (1, .int jn)] := hl
  refine lv_iload_n hx hb d_m_isTitle_0 rfl (lv_at hl 1 rfl) ?_
  refine lv_iconst (v := 0) hx hb d_m_isTitle_1 (by decide) ?_
  refine lv_aload_n hx hb d_m_isTitle_2 rfl (lv_at hl 0 rfl) ?_
  refine va_get (D := D) (ci := 5) (v := .int 0) (C := "RightsLimitModel") (T := fT_m) (N := 33) hx hb hG fi_m hown hK hP 0 rfl rfl 2 (by decide) (hG _ wd_485) (fun _ h9 => h9) rfl d_m_isTitle_3 ?_
  refine lv_iconst (v := 1) hx hb d_m_isTitle_6 (by decide) ?_
  refine lv_isub hx hb d_m_isTitle_7 ?_
  refine lv_topi (fun v1 ev1 => ?_)
  have iv1 : v1.toInt = -1 := by rw [ev1]; decide
  refine rl_callr hS (va_runS (As := [.int jn, .int 0, .int v1]) (rest := []) ⟨hx, hb, hml, hown, hG⟩ (k_m_in l D a kI kZ jn 0 v1 _) (cwS 3 hG (rl_gS wd_591 wd_592 wd_19 wd_593) rfl rfl rfl (by decide +kernel) ⟨Nat.le_of_ble_eq_true rfl, Nat.le_of_ble_eq_true rfl⟩) (rl_BR.pre rl_nw0 rl_P0 hK hN) rfl rfl hl.1 rfl (lv_room (Nat.le_of_ble_eq_true rfl)) d_m_isTitle_8 ⟨Nat.le_of_ble_eq_true rfl, Nat.le_of_ble_eq_true rfl⟩) (fun r locs hw hS => ?_)
  try simp only [rl_n0] at hw
  rcases hw with ⟨rfl, h2⟩ | ⟨rfl, h2⟩
  · exfalso; omega
  · exact W.zret (v := 0) hx hb hr rfl (fun t ht hW => ⟨⟨0, (), rfl, rfl, ht⟩, hS.F ht⟩) hS.2.2 d_m_isTitle_11
set_option maxHeartbeats 4000000 in
set_option maxRecDepth 100000 in
theorem k_m_thrown (l : Launch) (D : va_G) (a : Nat → Nat) (kI kZ : ClassId) (F : Nat → Nat → Int32) (H0 : Heap) : rl_Ri l ⟨"RightsLimitModel", "thrown", "()I"⟩ (Cond.code ⟨"RightsLimitModel", "thrown", "()I"⟩ prog_7_method_2_code 1 (some .int) :: rl_G) { frames := 0, cells := 0, slots := 0, locals := 0 } D rl_cl (rl_tys kI kZ) [] [.ref (a 0)] (rm_w a kI kZ F) H0 (fun (r : Int32) => r = F 27 0) := by
  refine rl_metr (cc := prog_7_method_2_code) (maxL := 1) (ret := (some .int)) (by decide) rfl (Nat.le_of_ble_eq_true rfl) ?_
  intro p e s m below meth c ls hx hb hr hml hown hts hlocks hP hK hS hN hl
  have hown : s.vm.findClass "RightsLimitModel" = some m.cls := hown
  have hG : ∀ x ∈ rl_G, x.before _ s = true := fun x h => hts x (List.mem_cons_of_mem _ h)
  have hl : lv_has ls 1 [(0, .ref (a 0))] := hl
  refine lv_aload_n hx hb d_m_thrown_0 rfl (lv_at hl 0 rfl) ?_
  refine va_get (D := D) (ci := 5) (v := .int (F 27 0)) (C := "RightsLimitModel") (T := fT_m) (N := 33) hx hb hG fi_m hown hK hP 0 rfl rfl 0 (by decide) (hG _ wd_483) (fun _ h9 => h9) rfl d_m_thrown_1 ?_
  exact W.iret (v := F 27 0) hx hb hr (fun t ht hW => ⟨⟨F 27 0, (), rfl, rfl, ht⟩, hS.F ht⟩) hS.2.2 d_m_thrown_4
set_option maxHeartbeats 4000000 in
set_option maxRecDepth 100000 in
theorem k_m_title (l : Launch) (D : va_G) (a : Nat → Nat) (kI kZ : ClassId) (jp : Int32) (sz : Nat) : rl_Ci (S := Nat → Nat → Int32) l ⟨"RightsLimitModel", "title", "(I)I"⟩ (Cond.code ⟨"RightsLimitModel", "title", "(I)I"⟩ prog_7_method_6_code 2 (some .int) :: rl_G) { frames := 1, cells := 0, slots := 0, locals := 22 } D rl_cl (rl_tys kI kZ) [] [.ref (a 0), .int jp] (rm_w a kI kZ rm_F0) sz (fun (r : Int32) (F' : Nat → Nat → Int32) => ((0 ≤ jp.toInt ∧ jp.toInt ≤ 99) ∧ r.toInt = 0) ∨ (¬ (0 ≤ jp.toInt ∧ jp.toInt ≤ 99) ∧ r.toInt = -2)) (fun F' => rm_w a kI kZ F') 0 0 := by
  refine rl_meti (cc := prog_7_method_6_code) (maxL := 2) (ret := (some .int)) (by decide) rfl (Nat.le_of_ble_eq_true rfl) ?_
  intro p e s m below meth c A ls hx hb hr hml hown hts hlocks hnm hP hK hD hS hA hN hl
  have hown : s.vm.findClass "RightsLimitModel" = some m.cls := hown
  have hG : ∀ x ∈ rl_G, x.before _ s = true := fun x h => hts x (List.mem_cons_of_mem _ h)
  have hl : lv_has ls 2 [(0, .ref (a 0)), (1, .int jp)] := hl
  refine lv_aload_n hx hb d_m_title_0 rfl (lv_at hl 0 rfl) ?_
  refine lv_iconst (v := 0) hx hb d_m_title_1 (by decide) ?_
  refine va_put (D := D) (ci := 5) (v := .int 0) (ty := .int) (C := "RightsLimitModel") (T := fT_m) (N := 33) hx hb hG fi_m fy_m fo_m fn_m hown hK hP hD hS 0 rfl rfl 0 (by decide) (hG _ wd_483) (fun _ h9 => h9) rfl (by decide +kernel) rfl rfl (Nat.le_of_ble_eq_true rfl) d_m_title_2 (fun H locs hP hD hS => ?_)
  have hP : va_P D rl_cl (rm_w a kI kZ (rl_st rm_F0 27 0 0)) H := hP
  have hD : va_D A (rm_w a kI kZ (rl_st rm_F0 27 0 0)) := hD
  refine lv_iload_n hx hb d_m_title_5 rfl (lv_at hl 1 rfl) ?_
  refine lv_iconst (v := 0) hx hb d_m_title_6 (by decide) ?_
  refine lv_bipush (v := 99) hx hb d_m_title_7 (by decide) ?_
  refine rl_callr hS (va_runS (As := [.int jp, .int 0, .int 99]) (rest := []) ⟨hx, hb, hml, hown, hG⟩ (k_m_in l D a kI kZ jp 0 99 _) (cwS 3 hG (rl_gS wd_591 wd_592 wd_19 wd_593) rfl rfl rfl (by decide +kernel) ⟨Nat.le_of_ble_eq_true rfl, Nat.le_of_ble_eq_true rfl⟩) (rl_BR.pre rl_nw0 rl_P0 hK hN) rfl rfl hl.1 rfl (lv_room (Nat.le_of_ble_eq_true rfl)) d_m_title_9 ⟨Nat.le_of_ble_eq_true rfl, Nat.le_of_ble_eq_true rfl⟩) (fun r locs hw hS => ?_)
  try simp only [rl_n0, rl_n99] at hw
  rcases hw with ⟨rfl, h1⟩ | ⟨rfl, h1⟩
  · refine lv_if_ne (tgt := 18) hx hb d_m_title_12 (by decide) (fun _ => ?_) (fun c9 => absurd c9 (by decide))
    refine lv_aload_n hx hb d_m_title_18 rfl (lv_at hl 0 rfl) ?_
    refine va_get (D := D) (ci := 5) (v := .int 0) (C := "RightsLimitModel") (T := fT_m) (N := 33) hx hb hG fi_m hown hK hP 0 rfl rfl 2 (by decide) (hG _ wd_485) (fun _ h9 => h9) rfl d_m_title_19 ?_
    refine lv_bipush (v := 50) hx hb d_m_title_22 (by decide) ?_
    refine lv_icmp_ne (tgt := 30) hx hb d_m_title_24 (by decide) (fun _ => ?_) (fun c9 => absurd c9 (by decide))
    refine lv_aload_n hx hb d_m_title_30 rfl (lv_at hl 0 rfl) ?_
    refine va_get (D := D) (ci := 5) (v := .ref (a 1)) (C := "RightsLimitModel") (T := fT_m) (N := 33) hx hb hG fi_m hown hK hP 0 rfl rfl 3 (by decide) (hG _ wd_486) (fun _ h9 => h9) rfl d_m_title_31 ?_
    refine lv_aload_n hx hb d_m_title_34 rfl (lv_at hl 0 rfl) ?_
    refine va_get (D := D) (ci := 5) (v := .int 0) (C := "RightsLimitModel") (T := fT_m) (N := 33) hx hb hG fi_m hown hK hP 0 rfl rfl 2 (by decide) (hG _ wd_485) (fun _ h9 => h9) rfl d_m_title_35 ?_
    refine lv_iload_n hx hb d_m_title_38 rfl (lv_at hl 1 rfl) ?_
    refine va_iast hx hb hK hP hD hS 1 0 rfl rfl (rl_in (x := 0) (n := 50) (by decide) (by decide)) d_m_title_39 (fun H locs hP hD hS => ?_)
    have hP : va_P D rl_cl (rm_w a kI kZ (rl_st (rl_st rm_F0 27 0 0) 0 (0 : Int32).toNatClampNeg jp)) H := hP
    have hD : va_D A (rm_w a kI kZ (rl_st (rl_st rm_F0 27 0 0) 0 (0 : Int32).toNatClampNeg jp)) := hD
    refine lv_aload_n hx hb d_m_title_40 rfl (lv_at hl 0 rfl) ?_
    refine lv_dup hx hb d_m_title_41 rfl ?_
    refine va_get (D := D) (ci := 5) (v := .int 0) (C := "RightsLimitModel") (T := fT_m) (N := 33) hx hb hG fi_m hown hK hP 0 rfl rfl 2 (by decide) (hG _ wd_485) (fun _ h9 => h9) rfl d_m_title_42 ?_
    refine lv_iconst (v := 1) hx hb d_m_title_45 (by decide) ?_
    refine lv_iadd hx hb d_m_title_46 ?_
    refine lv_topi (fun v2 ev2 => ?_)
    have iv2 : v2.toInt = 1 := by rw [ev2]; decide
    refine va_put (D := D) (ci := 5) (v := .int v2) (ty := .int) (C := "RightsLimitModel") (T := fT_m) (N := 33) hx hb hG fi_m fy_m fo_m fn_m hown hK hP hD hS 0 rfl rfl 2 (by decide) (hG _ wd_485) (fun _ h9 => h9) rfl (by decide +kernel) rfl rfl (Nat.le_of_ble_eq_true rfl) d_m_title_47 (fun H locs hP hD hS => ?_)
    have hP : va_P D rl_cl (rm_w a kI kZ (rl_st (rl_st (rl_st rm_F0 27 0 0) 0 (0 : Int32).toNatClampNeg jp) 27 2 v2)) H := hP
    have hD : va_D A (rm_w a kI kZ (rl_st (rl_st (rl_st rm_F0 27 0 0) 0 (0 : Int32).toNatClampNeg jp) 27 2 v2)) := hD
    refine lv_aload_n hx hb d_m_title_50 rfl (lv_at hl 0 rfl) ?_
    refine va_get (D := D) (ci := 5) (v := .int v2) (C := "RightsLimitModel") (T := fT_m) (N := 33) hx hb hG fi_m hown hK hP 0 rfl rfl 2 (by decide) (hG _ wd_485) (fun _ h9 => h9) rfl d_m_title_51 ?_
    refine lv_iconst (v := 1) hx hb d_m_title_54 (by decide) ?_
    refine lv_isub hx hb d_m_title_55 ?_
    refine lv_topi (fun v3 ev3 => ?_)
    have iv3 : v3.toInt = v2.toInt - 1 := by rw [ev3]; exact rl_subk (by decide) (by omega) (by omega)
    exact W.iret (v := v3) hx hb hr (fun t ht hW => ⟨⟨v3, (rl_st (rl_st (rl_st rm_F0 27 0 0) 0 (0 : Int32).toNatClampNeg jp) 27 2 v2), rfl, (show ((0 ≤ jp.toInt ∧ jp.toInt ≤ 99) ∧ v3.toInt = 0) ∨ (¬ (0 ≤ jp.toInt ∧ jp.toInt ≤ 99) ∧ v3.toInt = -2) by omega), ⟨by rw [ht]; exact hP, hD⟩⟩, hS.F ht⟩) hS.2.2 d_m_title_56
  · refine lv_if_ne (tgt := 18) hx hb d_m_title_12 (by decide) (fun c9 => absurd c9 (by decide)) (fun _ => ?_)
    refine lv_bipush (v := (-2)) hx hb d_m_title_15 (by decide) ?_
    exact W.iret (v := (-2)) hx hb hr (fun t ht hW => ⟨⟨(-2), (rl_st rm_F0 27 0 0), rfl, (show ((0 ≤ jp.toInt ∧ jp.toInt ≤ 99) ∧ ((-2) : Int32).toInt = 0) ∨ (¬ (0 ≤ jp.toInt ∧ jp.toInt ≤ 99) ∧ ((-2) : Int32).toInt = -2) by have q9 := rl_nm2; omega), ⟨by rw [ht]; exact hP, hD⟩⟩, hS.F ht⟩) hS.2.2 d_m_title_17
set_option maxHeartbeats 4000000 in
set_option maxRecDepth 100000 in
theorem k_m_open (l : Launch) (D : va_G) (a : Nat → Nat) (kI kZ : ClassId) (jt jb : Int32) (sz : Nat) : rl_Ci (S := Nat → Nat → Int32) l ⟨"RightsLimitModel", "open", "(IZ)I"⟩ (Cond.code ⟨"RightsLimitModel", "open", "(IZ)I"⟩ prog_7_method_7_code 3 (some .int) :: rl_G) { frames := 2, cells := 0, slots := 0, locals := 43 } D rl_cl (rl_tys kI kZ) [] [.ref (a 0), .int jt, .int jb] (rm_w a kI kZ rm_F0) sz (fun (r : Int32) (F' : Nat → Nat → Int32) => r.toInt = -1) (fun F' => rm_w a kI kZ F') 0 0 := by
  refine rl_meti (cc := prog_7_method_7_code) (maxL := 3) (ret := (some .int)) (by decide) rfl (Nat.le_of_ble_eq_true rfl) ?_
  intro p e s m below meth c A ls hx hb hr hml hown hts hlocks hnm hP hK hD hS hA hN hl
  have hown : s.vm.findClass "RightsLimitModel" = some m.cls := hown
  have hG : ∀ x ∈ rl_G, x.before _ s = true := fun x h => hts x (List.mem_cons_of_mem _ h)
  have hl : lv_has ls 3 [(0, .ref (a 0)), (1, .int jt), (2, .int jb)] := hl
  refine lv_aload_n hx hb d_m_open_0 rfl (lv_at hl 0 rfl) ?_
  refine lv_iconst (v := 0) hx hb d_m_open_1 (by decide) ?_
  refine va_put (D := D) (ci := 5) (v := .int 0) (ty := .int) (C := "RightsLimitModel") (T := fT_m) (N := 33) hx hb hG fi_m fy_m fo_m fn_m hown hK hP hD hS 0 rfl rfl 0 (by decide) (hG _ wd_483) (fun _ h9 => h9) rfl (by decide +kernel) rfl rfl (Nat.le_of_ble_eq_true rfl) d_m_open_2 (fun H locs hP hD hS => ?_)
  have hP : va_P D rl_cl (rm_w a kI kZ (rl_st rm_F0 27 0 0)) H := hP
  have hD : va_D A (rm_w a kI kZ (rl_st rm_F0 27 0 0)) := hD
  refine lv_aload_n hx hb d_m_open_5 rfl (lv_at hl 0 rfl) ?_
  refine lv_iload_n hx hb d_m_open_6 rfl (lv_at hl 1 rfl) ?_
  have hpre := rl_BR.pre (av := .ref (a 0) :: [.int jt]) rl_nw0 hP hK hN
  refine rl_callr hS (va_runV (As := [.int jt]) (rest := []) ⟨hx, hb, hml, hown, hG⟩ (k_m_isTitle l D a kI kZ jt _) (cwV 1 hG (rl_gV wd_598 wd_600 wd_6 wd_19 wd_601) rfl rfl rfl (by decide +kernel) ⟨Nat.le_of_ble_eq_true rfl, Nat.le_of_ble_eq_true rfl⟩) ⟨hpre.1, (va_recv hK hP (ci := 5) (q0 := 0) rfl rfl), hpre.2⟩ rfl rfl hl.1 rfl (lv_room (Nat.le_of_ble_eq_true rfl)) d_m_open_7 ⟨Nat.le_of_ble_eq_true rfl, Nat.le_of_ble_eq_true rfl⟩) (fun r locs hw hS => ?_)
  obtain rfl := hw
  refine lv_if_ne (tgt := 15) hx hb d_m_open_10 (by decide) (fun c9 => absurd c9 (by decide)) (fun _ => ?_)
  refine lv_iconst (v := (-1)) hx hb d_m_open_13 (by decide) ?_
  exact W.iret (v := (-1)) hx hb hr (fun t ht hW => ⟨⟨(-1), (rl_st rm_F0 27 0 0), rfl, (show ((-1) : Int32).toInt = -1 by have q9 := rl_nm1; omega), ⟨by rw [ht]; exact hP, hD⟩⟩, hS.F ht⟩) hS.2.2 d_m_open_14
set_option maxHeartbeats 4000000 in
set_option maxRecDepth 100000 in
theorem k_m_limit (l : Launch) (D : va_G) (a : Nat → Nat) (kI kZ : ClassId) (jt jk jd jn : Int32) (sz : Nat) : rl_Ci (S := Nat → Nat → Int32) l ⟨"RightsLimitModel", "limit", "(IIII)I"⟩ (Cond.code ⟨"RightsLimitModel", "limit", "(IIII)I"⟩ prog_7_method_8_code 5 (some .int) :: rl_G) { frames := 2, cells := 0, slots := 0, locals := 43 } D rl_cl (rl_tys kI kZ) [] [.ref (a 0), .int jt, .int jk, .int jd, .int jn] (rm_w a kI kZ rm_F0) sz (fun (r : Int32) (F' : Nat → Nat → Int32) => r.toInt = -1) (fun F' => rm_w a kI kZ F') 0 0 := by
  refine rl_meti (cc := prog_7_method_8_code) (maxL := 5) (ret := (some .int)) (by decide) rfl (Nat.le_of_ble_eq_true rfl) ?_
  intro p e s m below meth c A ls hx hb hr hml hown hts hlocks hnm hP hK hD hS hA hN hl
  have hown : s.vm.findClass "RightsLimitModel" = some m.cls := hown
  have hG : ∀ x ∈ rl_G, x.before _ s = true := fun x h => hts x (List.mem_cons_of_mem _ h)
  have hl : lv_has ls 5 [(0, .ref (a 0)), (1, .int jt), (2, .int jk), (3, .int jd), (4, .int jn)] := hl
  refine lv_aload_n hx hb d_m_limit_0 rfl (lv_at hl 0 rfl) ?_
  refine lv_iconst (v := 0) hx hb d_m_limit_1 (by decide) ?_
  refine va_put (D := D) (ci := 5) (v := .int 0) (ty := .int) (C := "RightsLimitModel") (T := fT_m) (N := 33) hx hb hG fi_m fy_m fo_m fn_m hown hK hP hD hS 0 rfl rfl 0 (by decide) (hG _ wd_483) (fun _ h9 => h9) rfl (by decide +kernel) rfl rfl (Nat.le_of_ble_eq_true rfl) d_m_limit_2 (fun H locs hP hD hS => ?_)
  have hP : va_P D rl_cl (rm_w a kI kZ (rl_st rm_F0 27 0 0)) H := hP
  have hD : va_D A (rm_w a kI kZ (rl_st rm_F0 27 0 0)) := hD
  refine lv_aload_n hx hb d_m_limit_5 rfl (lv_at hl 0 rfl) ?_
  refine lv_iload_n hx hb d_m_limit_6 rfl (lv_at hl 1 rfl) ?_
  have hpre := rl_BR.pre (av := .ref (a 0) :: [.int jt]) rl_nw0 hP hK hN
  refine rl_callr hS (va_runV (As := [.int jt]) (rest := []) ⟨hx, hb, hml, hown, hG⟩ (k_m_isTitle l D a kI kZ jt _) (cwV 1 hG (rl_gV wd_598 wd_600 wd_6 wd_19 wd_601) rfl rfl rfl (by decide +kernel) ⟨Nat.le_of_ble_eq_true rfl, Nat.le_of_ble_eq_true rfl⟩) ⟨hpre.1, (va_recv hK hP (ci := 5) (q0 := 0) rfl rfl), hpre.2⟩ rfl rfl hl.1 rfl (lv_room (Nat.le_of_ble_eq_true rfl)) d_m_limit_7 ⟨Nat.le_of_ble_eq_true rfl, Nat.le_of_ble_eq_true rfl⟩) (fun r locs hw hS => ?_)
  obtain rfl := hw
  refine lv_if_ne (tgt := 15) hx hb d_m_limit_10 (by decide) (fun c9 => absurd c9 (by decide)) (fun _ => ?_)
  refine lv_iconst (v := (-1)) hx hb d_m_limit_13 (by decide) ?_
  exact W.iret (v := (-1)) hx hb hr (fun t ht hW => ⟨⟨(-1), (rl_st rm_F0 27 0 0), rfl, (show ((-1) : Int32).toInt = -1 by have q9 := rl_nm1; omega), ⟨by rw [ht]; exact hP, hD⟩⟩, hS.F ht⟩) hS.2.2 d_m_limit_14
set_option maxHeartbeats 4000000 in
set_option maxRecDepth 100000 in
theorem k_m_licence (l : Launch) (D : va_G) (a : Nat → Nat) (kI kZ : ClassId) (jt jk jn ju jv : Int32) (sz : Nat) : rl_Ci (S := Nat → Nat → Int32) l ⟨"RightsLimitModel", "licence", "(IIIII)I"⟩ (Cond.code ⟨"RightsLimitModel", "licence", "(IIIII)I"⟩ prog_7_method_9_code 6 (some .int) :: rl_G) { frames := 2, cells := 0, slots := 0, locals := 43 } D rl_cl (rl_tys kI kZ) [] [.ref (a 0), .int jt, .int jk, .int jn, .int ju, .int jv] (rm_w a kI kZ rm_F0) sz (fun (r : Int32) (F' : Nat → Nat → Int32) => r.toInt = -1) (fun F' => rm_w a kI kZ F') 0 0 := by
  refine rl_meti (cc := prog_7_method_9_code) (maxL := 6) (ret := (some .int)) (by decide) rfl (Nat.le_of_ble_eq_true rfl) ?_
  intro p e s m below meth c A ls hx hb hr hml hown hts hlocks hnm hP hK hD hS hA hN hl
  have hown : s.vm.findClass "RightsLimitModel" = some m.cls := hown
  have hG : ∀ x ∈ rl_G, x.before _ s = true := fun x h => hts x (List.mem_cons_of_mem _ h)
  have hl : lv_has ls 6 [(0, .ref (a 0)), (1, .int jt), (2, .int jk), (3, .int jn), (4, .int ju), (5, .int jv)] := hl
  refine lv_aload_n hx hb d_m_licence_0 rfl (lv_at hl 0 rfl) ?_
  refine lv_iconst (v := 0) hx hb d_m_licence_1 (by decide) ?_
  refine va_put (D := D) (ci := 5) (v := .int 0) (ty := .int) (C := "RightsLimitModel") (T := fT_m) (N := 33) hx hb hG fi_m fy_m fo_m fn_m hown hK hP hD hS 0 rfl rfl 0 (by decide) (hG _ wd_483) (fun _ h9 => h9) rfl (by decide +kernel) rfl rfl (Nat.le_of_ble_eq_true rfl) d_m_licence_2 (fun H locs hP hD hS => ?_)
  have hP : va_P D rl_cl (rm_w a kI kZ (rl_st rm_F0 27 0 0)) H := hP
  have hD : va_D A (rm_w a kI kZ (rl_st rm_F0 27 0 0)) := hD
  refine lv_aload_n hx hb d_m_licence_5 rfl (lv_at hl 0 rfl) ?_
  refine lv_iload_n hx hb d_m_licence_6 rfl (lv_at hl 1 rfl) ?_
  have hpre := rl_BR.pre (av := .ref (a 0) :: [.int jt]) rl_nw0 hP hK hN
  refine rl_callr hS (va_runV (As := [.int jt]) (rest := []) ⟨hx, hb, hml, hown, hG⟩ (k_m_isTitle l D a kI kZ jt _) (cwV 1 hG (rl_gV wd_598 wd_600 wd_6 wd_19 wd_601) rfl rfl rfl (by decide +kernel) ⟨Nat.le_of_ble_eq_true rfl, Nat.le_of_ble_eq_true rfl⟩) ⟨hpre.1, (va_recv hK hP (ci := 5) (q0 := 0) rfl rfl), hpre.2⟩ rfl rfl hl.1 rfl (lv_room (Nat.le_of_ble_eq_true rfl)) d_m_licence_7 ⟨Nat.le_of_ble_eq_true rfl, Nat.le_of_ble_eq_true rfl⟩) (fun r locs hw hS => ?_)
  obtain rfl := hw
  refine lv_if_ne (tgt := 15) hx hb d_m_licence_10 (by decide) (fun c9 => absurd c9 (by decide)) (fun _ => ?_)
  refine lv_iconst (v := (-1)) hx hb d_m_licence_13 (by decide) ?_
  exact W.iret (v := (-1)) hx hb hr (fun t ht hW => ⟨⟨(-1), (rl_st rm_F0 27 0 0), rfl, (show ((-1) : Int32).toInt = -1 by have q9 := rl_nm1; omega), ⟨by rw [ht]; exact hP, hD⟩⟩, hS.F ht⟩) hS.2.2 d_m_licence_14
set_option maxHeartbeats 4000000 in
set_option maxRecDepth 100000 in
theorem k_m_fee (l : Launch) (D : va_G) (a : Nat → Nat) (kI kZ : ClassId) (jp jn : Int32) (sz : Nat) : rl_Ci (S := Nat → Nat → Int32) l ⟨"RightsLimitModel", "fee", "(II)I"⟩ (Cond.code ⟨"RightsLimitModel", "fee", "(II)I"⟩ prog_7_method_10_code 3 (some .int) :: rl_G) { frames := 1, cells := 0, slots := 0, locals := 22 } D rl_cl (rl_tys kI kZ) [] [.ref (a 0), .int jp, .int jn] (rm_w a kI kZ rm_F0) sz (fun (r : Int32) (F' : Nat → Nat → Int32) => (((0 ≤ jp.toInt ∧ jp.toInt ≤ 99) ∧ (0 ≤ jn.toInt ∧ jn.toInt ≤ 10000)) ∧ r.toInt = 1) ∨ (¬ ((0 ≤ jp.toInt ∧ jp.toInt ≤ 99) ∧ (0 ≤ jn.toInt ∧ jn.toInt ≤ 10000)) ∧ r.toInt = -2)) (fun F' => rm_w a kI kZ F') 0 0 := by
  refine rl_meti (cc := prog_7_method_10_code) (maxL := 3) (ret := (some .int)) (by decide) rfl (Nat.le_of_ble_eq_true rfl) ?_
  intro p e s m below meth c A ls hx hb hr hml hown hts hlocks hnm hP hK hD hS hA hN hl
  have hown : s.vm.findClass "RightsLimitModel" = some m.cls := hown
  have hG : ∀ x ∈ rl_G, x.before _ s = true := fun x h => hts x (List.mem_cons_of_mem _ h)
  have hl : lv_has ls 3 [(0, .ref (a 0)), (1, .int jp), (2, .int jn)] := hl
  refine lv_aload_n hx hb d_m_fee_0 rfl (lv_at hl 0 rfl) ?_
  refine lv_iconst (v := 0) hx hb d_m_fee_1 (by decide) ?_
  refine va_put (D := D) (ci := 5) (v := .int 0) (ty := .int) (C := "RightsLimitModel") (T := fT_m) (N := 33) hx hb hG fi_m fy_m fo_m fn_m hown hK hP hD hS 0 rfl rfl 0 (by decide) (hG _ wd_483) (fun _ h9 => h9) rfl (by decide +kernel) rfl rfl (Nat.le_of_ble_eq_true rfl) d_m_fee_2 (fun H locs hP hD hS => ?_)
  have hP : va_P D rl_cl (rm_w a kI kZ (rl_st rm_F0 27 0 0)) H := hP
  have hD : va_D A (rm_w a kI kZ (rl_st rm_F0 27 0 0)) := hD
  refine lv_iload_n hx hb d_m_fee_5 rfl (lv_at hl 1 rfl) ?_
  refine lv_iconst (v := 0) hx hb d_m_fee_6 (by decide) ?_
  refine lv_bipush (v := 99) hx hb d_m_fee_7 (by decide) ?_
  refine rl_callr hS (va_runS (As := [.int jp, .int 0, .int 99]) (rest := []) ⟨hx, hb, hml, hown, hG⟩ (k_m_in l D a kI kZ jp 0 99 _) (cwS 3 hG (rl_gS wd_591 wd_592 wd_19 wd_593) rfl rfl rfl (by decide +kernel) ⟨Nat.le_of_ble_eq_true rfl, Nat.le_of_ble_eq_true rfl⟩) (rl_BR.pre rl_nw0 rl_P0 hK hN) rfl rfl hl.1 rfl (lv_room (Nat.le_of_ble_eq_true rfl)) d_m_fee_9 ⟨Nat.le_of_ble_eq_true rfl, Nat.le_of_ble_eq_true rfl⟩) (fun r locs hw hS => ?_)
  try simp only [rl_n0, rl_n99] at hw
  rcases hw with ⟨rfl, h1⟩ | ⟨rfl, h1⟩
  · refine lv_if_eq (tgt := 26) hx hb d_m_fee_12 (by decide) (fun c9 => absurd c9 (by decide)) (fun _ => ?_)
    refine lv_iload_n hx hb d_m_fee_15 rfl (lv_at hl 2 rfl) ?_
    refine lv_iconst (v := 0) hx hb d_m_fee_16 (by decide) ?_
    refine lv_sipush (v := 10000) hx hb d_m_fee_17 (by decide) ?_
    refine rl_callr hS (va_runS (As := [.int jn, .int 0, .int 10000]) (rest := []) ⟨hx, hb, hml, hown, hG⟩ (k_m_in l D a kI kZ jn 0 10000 _) (cwS 3 hG (rl_gS wd_591 wd_592 wd_19 wd_593) rfl rfl rfl (by decide +kernel) ⟨Nat.le_of_ble_eq_true rfl, Nat.le_of_ble_eq_true rfl⟩) (rl_BR.pre rl_nw0 rl_P0 hK hN) rfl rfl hl.1 rfl (lv_room (Nat.le_of_ble_eq_true rfl)) d_m_fee_20 ⟨Nat.le_of_ble_eq_true rfl, Nat.le_of_ble_eq_true rfl⟩) (fun r locs hw hS => ?_)
    try simp only [rl_n0, rl_n10000] at hw
    rcases hw with ⟨rfl, h2⟩ | ⟨rfl, h2⟩
    · refine lv_if_ne (tgt := 29) hx hb d_m_fee_23 (by decide) (fun _ => ?_) (fun c9 => absurd c9 (by decide))
      refine lv_aload_n hx hb d_m_fee_29 rfl (lv_at hl 0 rfl) ?_
      refine va_get (D := D) (ci := 5) (v := .ref (a 5)) (C := "RightsLimitModel") (T := fT_m) (N := 33) hx hb hG fi_m hown hK hP 0 rfl rfl 7 (by decide) (hG _ wd_490) (fun _ h9 => h9) rfl d_m_fee_30 ?_
      refine lv_iload_n hx hb d_m_fee_33 rfl (lv_at hl 1 rfl) ?_
      refine lv_iload_n hx hb d_m_fee_34 rfl (lv_at hl 2 rfl) ?_
      refine va_iast hx hb hK hP hD hS 5 0 rfl rfl (rl_in (n := 100) (by omega) (by omega)) d_m_fee_35 (fun H locs hP hD hS => ?_)
      have hP : va_P D rl_cl (rm_w a kI kZ (rl_st (rl_st rm_F0 27 0 0) 4 jp.toNatClampNeg jn)) H := hP
      have hD : va_D A (rm_w a kI kZ (rl_st (rl_st rm_F0 27 0 0) 4 jp.toNatClampNeg jn)) := hD
      refine lv_iconst (v := 1) hx hb d_m_fee_36 (by decide) ?_
      exact W.iret (v := 1) hx hb hr (fun t ht hW => ⟨⟨1, (rl_st (rl_st rm_F0 27 0 0) 4 jp.toNatClampNeg jn), rfl, (show (((0 ≤ jp.toInt ∧ jp.toInt ≤ 99) ∧ (0 ≤ jn.toInt ∧ jn.toInt ≤ 10000)) ∧ (1 : Int32).toInt = 1) ∨ (¬ ((0 ≤ jp.toInt ∧ jp.toInt ≤ 99) ∧ (0 ≤ jn.toInt ∧ jn.toInt ≤ 10000)) ∧ (1 : Int32).toInt = -2) by have q9 := rl_n1; omega), ⟨by rw [ht]; exact hP, hD⟩⟩, hS.F ht⟩) hS.2.2 d_m_fee_37
    · refine lv_if_ne (tgt := 29) hx hb d_m_fee_23 (by decide) (fun c9 => absurd c9 (by decide)) (fun _ => ?_)
      refine lv_bipush (v := (-2)) hx hb d_m_fee_26 (by decide) ?_
      exact W.iret (v := (-2)) hx hb hr (fun t ht hW => ⟨⟨(-2), (rl_st rm_F0 27 0 0), rfl, (show (((0 ≤ jp.toInt ∧ jp.toInt ≤ 99) ∧ (0 ≤ jn.toInt ∧ jn.toInt ≤ 10000)) ∧ ((-2) : Int32).toInt = 1) ∨ (¬ ((0 ≤ jp.toInt ∧ jp.toInt ≤ 99) ∧ (0 ≤ jn.toInt ∧ jn.toInt ≤ 10000)) ∧ ((-2) : Int32).toInt = -2) by have q9 := rl_nm2; omega), ⟨by rw [ht]; exact hP, hD⟩⟩, hS.F ht⟩) hS.2.2 d_m_fee_28
  · refine lv_if_eq (tgt := 26) hx hb d_m_fee_12 (by decide) (fun _ => ?_) (fun c9 => absurd c9 (by decide))
    refine lv_bipush (v := (-2)) hx hb d_m_fee_26 (by decide) ?_
    exact W.iret (v := (-2)) hx hb hr (fun t ht hW => ⟨⟨(-2), (rl_st rm_F0 27 0 0), rfl, (show (((0 ≤ jp.toInt ∧ jp.toInt ≤ 99) ∧ (0 ≤ jn.toInt ∧ jn.toInt ≤ 10000)) ∧ ((-2) : Int32).toInt = 1) ∨ (¬ ((0 ≤ jp.toInt ∧ jp.toInt ≤ 99) ∧ (0 ≤ jn.toInt ∧ jn.toInt ≤ 10000)) ∧ ((-2) : Int32).toInt = -2) by have q9 := rl_nm2; omega), ⟨by rw [ht]; exact hP, hD⟩⟩, hS.F ht⟩) hS.2.2 d_m_fee_28
set_option maxHeartbeats 4000000 in
set_option maxRecDepth 100000 in
theorem k_m_ask (l : Launch) (D : va_G) (a : Nat → Nat) (kI kZ : ClassId) (jn jt jk jg ju : Int32) (sz : Nat) : rl_Ci (S := Nat → Nat → Int32) l ⟨"RightsLimitModel", "ask", "(IIIII)I"⟩ (Cond.code ⟨"RightsLimitModel", "ask", "(IIIII)I"⟩ prog_7_method_15_code 8 (some .int) :: rl_G) { frames := 2, cells := 0, slots := 0, locals := 43 } D rl_cl (rl_tys kI kZ) [] [.ref (a 0), .int jn, .int jt, .int jk, .int jg, .int ju] (rm_w a kI kZ rm_F0) sz (fun (r : Int32) (F' : Nat → Nat → Int32) => r.toInt = -1) (fun F' => rm_w a kI kZ F') 0 0 := by
  refine rl_meti (cc := prog_7_method_15_code) (maxL := 8) (ret := (some .int)) (by decide) rfl (Nat.le_of_ble_eq_true rfl) ?_
  intro p e s m below meth c A ls hx hb hr hml hown hts hlocks hnm hP hK hD hS hA hN hl
  have hown : s.vm.findClass "RightsLimitModel" = some m.cls := hown
  have hG : ∀ x ∈ rl_G, x.before _ s = true := fun x h => hts x (List.mem_cons_of_mem _ h)
  have hl : lv_has ls 8 [(0, .ref (a 0)), (1, .int jn), (2, .int jt), (3, .int jk), (4, .int jg), (5, .int ju)] := hl
  refine lv_aload_n hx hb d_m_ask_0 rfl (lv_at hl 0 rfl) ?_
  refine lv_iconst (v := 0) hx hb d_m_ask_1 (by decide) ?_
  refine va_put (D := D) (ci := 5) (v := .int 0) (ty := .int) (C := "RightsLimitModel") (T := fT_m) (N := 33) hx hb hG fi_m fy_m fo_m fn_m hown hK hP hD hS 0 rfl rfl 0 (by decide) (hG _ wd_483) (fun _ h9 => h9) rfl (by decide +kernel) rfl rfl (Nat.le_of_ble_eq_true rfl) d_m_ask_2 (fun H locs hP hD hS => ?_)
  have hP : va_P D rl_cl (rm_w a kI kZ (rl_st rm_F0 27 0 0)) H := hP
  have hD : va_D A (rm_w a kI kZ (rl_st rm_F0 27 0 0)) := hD
  refine lv_aload_n hx hb d_m_ask_5 rfl (lv_at hl 0 rfl) ?_
  refine lv_iload_n hx hb d_m_ask_6 rfl (lv_at hl 2 rfl) ?_
  have hpre := rl_BR.pre (av := .ref (a 0) :: [.int jt]) rl_nw0 hP hK hN
  refine rl_callr hS (va_runV (As := [.int jt]) (rest := []) ⟨hx, hb, hml, hown, hG⟩ (k_m_isTitle l D a kI kZ jt _) (cwV 1 hG (rl_gV wd_598 wd_600 wd_6 wd_19 wd_601) rfl rfl rfl (by decide +kernel) ⟨Nat.le_of_ble_eq_true rfl, Nat.le_of_ble_eq_true rfl⟩) ⟨hpre.1, (va_recv hK hP (ci := 5) (q0 := 0) rfl rfl), hpre.2⟩ rfl rfl hl.1 rfl (lv_room (Nat.le_of_ble_eq_true rfl)) d_m_ask_7 ⟨Nat.le_of_ble_eq_true rfl, Nat.le_of_ble_eq_true rfl⟩) (fun r locs hw hS => ?_)
  obtain rfl := hw
  refine lv_if_ne (tgt := 15) hx hb d_m_ask_10 (by decide) (fun c9 => absurd c9 (by decide)) (fun _ => ?_)
  refine lv_iconst (v := (-1)) hx hb d_m_ask_13 (by decide) ?_
  exact W.iret (v := (-1)) hx hb hr (fun t ht hW => ⟨⟨(-1), (rl_st rm_F0 27 0 0), rfl, (show ((-1) : Int32).toInt = -1 by have q9 := rl_nm1; omega), ⟨by rw [ht]; exact hP, hD⟩⟩, hS.F ht⟩) hS.2.2 d_m_ask_14
set_option maxHeartbeats 4000000 in
set_option maxRecDepth 100000 in
theorem k_m_why (l : Launch) (D : va_G) (a : Nat → Nat) (kI kZ : ClassId) (sz : Nat) : rl_Ci (S := Nat → Nat → Int32) l ⟨"RightsLimitModel", "why", "()I"⟩ (Cond.code ⟨"RightsLimitModel", "why", "()I"⟩ prog_7_method_16_code 1 (some .int) :: rl_G) { frames := 0, cells := 0, slots := 0, locals := 0 } D rl_cl (rl_tys kI kZ) [] [.ref (a 0)] (rm_w a kI kZ rm_F0) sz (fun (r : Int32) (F' : Nat → Nat → Int32) => r.toInt = -1) (fun F' => rm_w a kI kZ F') 0 0 := by
  refine rl_meti (cc := prog_7_method_16_code) (maxL := 1) (ret := (some .int)) (by decide) rfl (Nat.le_of_ble_eq_true rfl) ?_
  intro p e s m below meth c A ls hx hb hr hml hown hts hlocks hnm hP hK hD hS hA hN hl
  have hown : s.vm.findClass "RightsLimitModel" = some m.cls := hown
  have hG : ∀ x ∈ rl_G, x.before _ s = true := fun x h => hts x (List.mem_cons_of_mem _ h)
  have hl : lv_has ls 1 [(0, .ref (a 0))] := hl
  refine lv_aload_n hx hb d_m_why_0 rfl (lv_at hl 0 rfl) ?_
  refine lv_iconst (v := 0) hx hb d_m_why_1 (by decide) ?_
  refine va_put (D := D) (ci := 5) (v := .int 0) (ty := .int) (C := "RightsLimitModel") (T := fT_m) (N := 33) hx hb hG fi_m fy_m fo_m fn_m hown hK hP hD hS 0 rfl rfl 0 (by decide) (hG _ wd_483) (fun _ h9 => h9) rfl (by decide +kernel) rfl rfl (Nat.le_of_ble_eq_true rfl) d_m_why_2 (fun H locs hP hD hS => ?_)
  have hP : va_P D rl_cl (rm_w a kI kZ (rl_st rm_F0 27 0 0)) H := hP
  have hD : va_D A (rm_w a kI kZ (rl_st rm_F0 27 0 0)) := hD
  refine lv_aload_n hx hb d_m_why_5 rfl (lv_at hl 0 rfl) ?_
  refine va_get (D := D) (ci := 5) (v := .int (-1)) (C := "RightsLimitModel") (T := fT_m) (N := 33) hx hb hG fi_m hown hK hP 0 rfl rfl 32 (by decide) (hG _ wd_515) (fun _ h9 => h9) rfl d_m_why_6 ?_
  exact W.iret (v := (-1)) hx hb hr (fun t ht hW => ⟨⟨(-1), (rl_st rm_F0 27 0 0), rfl, (show ((-1) : Int32).toInt = -1 by have q9 := rl_nm1; omega), ⟨by rw [ht]; exact hP, hD⟩⟩, hS.F ht⟩) hS.2.2 d_m_why_9
set_option maxHeartbeats 4000000 in
set_option maxRecDepth 100000 in
theorem k_m_give (l : Launch) (D : va_G) (a : Nat → Nat) (kI kZ : ClassId) (jn jg jb : Int32) (sz : Nat) : rl_Ci (S := Nat → Nat → Int32) l ⟨"RightsLimitModel", "give", "(IIZ)I"⟩ (Cond.code ⟨"RightsLimitModel", "give", "(IIZ)I"⟩ prog_7_method_17_code 4 (some .int) :: rl_G) { frames := 1, cells := 0, slots := 0, locals := 22 } D rl_cl (rl_tys kI kZ) [] [.ref (a 0), .int jn, .int jg, .int jb] (rm_w a kI kZ rm_F0) sz (fun (r : Int32) (F' : Nat → Nat → Int32) => (((0 ≤ jn.toInt ∧ jn.toInt ≤ 99) ∧ (1 ≤ jg.toInt ∧ jg.toInt ≤ 9)) ∧ r.toInt = 1) ∨ (¬ ((0 ≤ jn.toInt ∧ jn.toInt ≤ 99) ∧ (1 ≤ jg.toInt ∧ jg.toInt ≤ 9)) ∧ r.toInt = -2)) (fun F' => rm_w a kI kZ F') 0 0 := by
  refine rl_meti (cc := prog_7_method_17_code) (maxL := 4) (ret := (some .int)) (by decide) rfl (Nat.le_of_ble_eq_true rfl) ?_
  intro p e s m below meth c A ls hx hb hr hml hown hts hlocks hnm hP hK hD hS hA hN hl
  have hown : s.vm.findClass "RightsLimitModel" = some m.cls := hown
  have hG : ∀ x ∈ rl_G, x.before _ s = true := fun x h => hts x (List.mem_cons_of_mem _ h)
  have hl : lv_has ls 4 [(0, .ref (a 0)), (1, .int jn), (2, .int jg), (3, .int jb)] := hl
  refine lv_aload_n hx hb d_m_give_0 rfl (lv_at hl 0 rfl) ?_
  refine lv_iconst (v := 0) hx hb d_m_give_1 (by decide) ?_
  refine va_put (D := D) (ci := 5) (v := .int 0) (ty := .int) (C := "RightsLimitModel") (T := fT_m) (N := 33) hx hb hG fi_m fy_m fo_m fn_m hown hK hP hD hS 0 rfl rfl 0 (by decide) (hG _ wd_483) (fun _ h9 => h9) rfl (by decide +kernel) rfl rfl (Nat.le_of_ble_eq_true rfl) d_m_give_2 (fun H locs hP hD hS => ?_)
  have hP : va_P D rl_cl (rm_w a kI kZ (rl_st rm_F0 27 0 0)) H := hP
  have hD : va_D A (rm_w a kI kZ (rl_st rm_F0 27 0 0)) := hD
  refine lv_iload_n hx hb d_m_give_5 rfl (lv_at hl 1 rfl) ?_
  refine lv_iconst (v := 0) hx hb d_m_give_6 (by decide) ?_
  refine lv_bipush (v := 99) hx hb d_m_give_7 (by decide) ?_
  refine rl_callr hS (va_runS (As := [.int jn, .int 0, .int 99]) (rest := []) ⟨hx, hb, hml, hown, hG⟩ (k_m_in l D a kI kZ jn 0 99 _) (cwS 3 hG (rl_gS wd_591 wd_592 wd_19 wd_593) rfl rfl rfl (by decide +kernel) ⟨Nat.le_of_ble_eq_true rfl, Nat.le_of_ble_eq_true rfl⟩) (rl_BR.pre rl_nw0 rl_P0 hK hN) rfl rfl hl.1 rfl (lv_room (Nat.le_of_ble_eq_true rfl)) d_m_give_9 ⟨Nat.le_of_ble_eq_true rfl, Nat.le_of_ble_eq_true rfl⟩) (fun r locs hw hS => ?_)
  try simp only [rl_n0, rl_n99] at hw
  rcases hw with ⟨rfl, h1⟩ | ⟨rfl, h1⟩
  · refine lv_if_eq (tgt := 25) hx hb d_m_give_12 (by decide) (fun c9 => absurd c9 (by decide)) (fun _ => ?_)
    refine lv_iload_n hx hb d_m_give_15 rfl (lv_at hl 2 rfl) ?_
    refine lv_iconst (v := 1) hx hb d_m_give_16 (by decide) ?_
    refine lv_bipush (v := 9) hx hb d_m_give_17 (by decide) ?_
    refine rl_callr hS (va_runS (As := [.int jg, .int 1, .int 9]) (rest := []) ⟨hx, hb, hml, hown, hG⟩ (k_m_in l D a kI kZ jg 1 9 _) (cwS 3 hG (rl_gS wd_591 wd_592 wd_19 wd_593) rfl rfl rfl (by decide +kernel) ⟨Nat.le_of_ble_eq_true rfl, Nat.le_of_ble_eq_true rfl⟩) (rl_BR.pre rl_nw0 rl_P0 hK hN) rfl rfl hl.1 rfl (lv_room (Nat.le_of_ble_eq_true rfl)) d_m_give_19 ⟨Nat.le_of_ble_eq_true rfl, Nat.le_of_ble_eq_true rfl⟩) (fun r locs hw hS => ?_)
    try simp only [rl_n1, rl_n9] at hw
    rcases hw with ⟨rfl, h2⟩ | ⟨rfl, h2⟩
    · refine lv_if_ne (tgt := 28) hx hb d_m_give_22 (by decide) (fun _ => ?_) (fun c9 => absurd c9 (by decide))
      refine lv_aload_n hx hb d_m_give_28 rfl (lv_at hl 0 rfl) ?_
      refine va_get (D := D) (ci := 5) (v := .ref (a 6)) (C := "RightsLimitModel") (T := fT_m) (N := 33) hx hb hG fi_m hown hK hP 0 rfl rfl 8 (by decide) (hG _ wd_491) (fun _ h9 => h9) rfl d_m_give_29 ?_
      refine lv_bipush (v := 10) hx hb d_m_give_32 (by decide) ?_
      refine lv_iload_n hx hb d_m_give_34 rfl (lv_at hl 1 rfl) ?_
      refine lv_imul hx hb d_m_give_35 ?_
      refine lv_topi (fun v3 ev3 => ?_)
      have iv3 : v3.toInt = 10 * jn.toInt := by rw [ev3]; exact rl_mulk (by decide) (by omega) (by omega)
      refine lv_iload_n hx hb d_m_give_36 rfl (lv_at hl 2 rfl) ?_
      refine lv_iadd hx hb d_m_give_37 ?_
      refine lv_topi (fun v4 ev4 => ?_)
      have iv4 : v4.toInt = v3.toInt + jg.toInt := by rw [ev4]; exact rl_addv (by omega) (by omega)
      refine lv_iload_n hx hb d_m_give_38 rfl (lv_at hl 3 rfl) ?_
      refine va_zast hx hb hK hP hD hS 6 1 rfl rfl (rl_in (n := 1000) (by omega) (by omega)) d_m_give_39 (fun H locs hP hD hS => ?_)
      have hP : va_P D rl_cl (rm_w a kI kZ (rl_st (rl_st rm_F0 27 0 0) 5 v4.toNatClampNeg (vp_nar .boolean jb))) H := hP
      have hD : va_D A (rm_w a kI kZ (rl_st (rl_st rm_F0 27 0 0) 5 v4.toNatClampNeg (vp_nar .boolean jb))) := hD
      refine lv_iconst (v := 1) hx hb d_m_give_40 (by decide) ?_
      exact W.iret (v := 1) hx hb hr (fun t ht hW => ⟨⟨1, (rl_st (rl_st rm_F0 27 0 0) 5 v4.toNatClampNeg (vp_nar .boolean jb)), rfl, (show (((0 ≤ jn.toInt ∧ jn.toInt ≤ 99) ∧ (1 ≤ jg.toInt ∧ jg.toInt ≤ 9)) ∧ (1 : Int32).toInt = 1) ∨ (¬ ((0 ≤ jn.toInt ∧ jn.toInt ≤ 99) ∧ (1 ≤ jg.toInt ∧ jg.toInt ≤ 9)) ∧ (1 : Int32).toInt = -2) by have q9 := rl_n1; omega), ⟨by rw [ht]; exact hP, hD⟩⟩, hS.F ht⟩) hS.2.2 d_m_give_41
    · refine lv_if_ne (tgt := 28) hx hb d_m_give_22 (by decide) (fun c9 => absurd c9 (by decide)) (fun _ => ?_)
      refine lv_bipush (v := (-2)) hx hb d_m_give_25 (by decide) ?_
      exact W.iret (v := (-2)) hx hb hr (fun t ht hW => ⟨⟨(-2), (rl_st rm_F0 27 0 0), rfl, (show (((0 ≤ jn.toInt ∧ jn.toInt ≤ 99) ∧ (1 ≤ jg.toInt ∧ jg.toInt ≤ 9)) ∧ ((-2) : Int32).toInt = 1) ∨ (¬ ((0 ≤ jn.toInt ∧ jn.toInt ≤ 99) ∧ (1 ≤ jg.toInt ∧ jg.toInt ≤ 9)) ∧ ((-2) : Int32).toInt = -2) by have q9 := rl_nm2; omega), ⟨by rw [ht]; exact hP, hD⟩⟩, hS.F ht⟩) hS.2.2 d_m_give_27
  · refine lv_if_eq (tgt := 25) hx hb d_m_give_12 (by decide) (fun _ => ?_) (fun c9 => absurd c9 (by decide))
    refine lv_bipush (v := (-2)) hx hb d_m_give_25 (by decide) ?_
    exact W.iret (v := (-2)) hx hb hr (fun t ht hW => ⟨⟨(-2), (rl_st rm_F0 27 0 0), rfl, (show (((0 ≤ jn.toInt ∧ jn.toInt ≤ 99) ∧ (1 ≤ jg.toInt ∧ jg.toInt ≤ 9)) ∧ ((-2) : Int32).toInt = 1) ∨ (¬ ((0 ≤ jn.toInt ∧ jn.toInt ≤ 99) ∧ (1 ≤ jg.toInt ∧ jg.toInt ≤ 9)) ∧ ((-2) : Int32).toInt = -2) by have q9 := rl_nm2; omega), ⟨by rw [ht]; exact hP, hD⟩⟩, hS.F ht⟩) hS.2.2 d_m_give_27
set_option maxHeartbeats 4000000 in
set_option maxRecDepth 100000 in
theorem k_m_right (l : Launch) (D : va_G) (a : Nat → Nat) (kI kZ : ClassId) (jt jg : Int32) (sz : Nat) : rl_Ci (S := Nat → Nat → Int32) l ⟨"RightsLimitModel", "right", "(II)I"⟩ (Cond.code ⟨"RightsLimitModel", "right", "(II)I"⟩ prog_7_method_18_code 3 (some .int) :: rl_G) { frames := 2, cells := 0, slots := 0, locals := 43 } D rl_cl (rl_tys kI kZ) [] [.ref (a 0), .int jt, .int jg] (rm_w a kI kZ rm_F0) sz (fun (r : Int32) (F' : Nat → Nat → Int32) => r.toInt = -1) (fun F' => rm_w a kI kZ F') 0 0 := by
  refine rl_meti (cc := prog_7_method_18_code) (maxL := 3) (ret := (some .int)) (by decide) rfl (Nat.le_of_ble_eq_true rfl) ?_
  intro p e s m below meth c A ls hx hb hr hml hown hts hlocks hnm hP hK hD hS hA hN hl
  have hown : s.vm.findClass "RightsLimitModel" = some m.cls := hown
  have hG : ∀ x ∈ rl_G, x.before _ s = true := fun x h => hts x (List.mem_cons_of_mem _ h)
  have hl : lv_has ls 3 [(0, .ref (a 0)), (1, .int jt), (2, .int jg)] := hl
  refine lv_aload_n hx hb d_m_right_0 rfl (lv_at hl 0 rfl) ?_
  refine lv_iconst (v := 0) hx hb d_m_right_1 (by decide) ?_
  refine va_put (D := D) (ci := 5) (v := .int 0) (ty := .int) (C := "RightsLimitModel") (T := fT_m) (N := 33) hx hb hG fi_m fy_m fo_m fn_m hown hK hP hD hS 0 rfl rfl 0 (by decide) (hG _ wd_483) (fun _ h9 => h9) rfl (by decide +kernel) rfl rfl (Nat.le_of_ble_eq_true rfl) d_m_right_2 (fun H locs hP hD hS => ?_)
  have hP : va_P D rl_cl (rm_w a kI kZ (rl_st rm_F0 27 0 0)) H := hP
  have hD : va_D A (rm_w a kI kZ (rl_st rm_F0 27 0 0)) := hD
  refine lv_aload_n hx hb d_m_right_5 rfl (lv_at hl 0 rfl) ?_
  refine lv_iload_n hx hb d_m_right_6 rfl (lv_at hl 1 rfl) ?_
  have hpre := rl_BR.pre (av := .ref (a 0) :: [.int jt]) rl_nw0 hP hK hN
  refine rl_callr hS (va_runV (As := [.int jt]) (rest := []) ⟨hx, hb, hml, hown, hG⟩ (k_m_isTitle l D a kI kZ jt _) (cwV 1 hG (rl_gV wd_598 wd_600 wd_6 wd_19 wd_601) rfl rfl rfl (by decide +kernel) ⟨Nat.le_of_ble_eq_true rfl, Nat.le_of_ble_eq_true rfl⟩) ⟨hpre.1, (va_recv hK hP (ci := 5) (q0 := 0) rfl rfl), hpre.2⟩ rfl rfl hl.1 rfl (lv_room (Nat.le_of_ble_eq_true rfl)) d_m_right_7 ⟨Nat.le_of_ble_eq_true rfl, Nat.le_of_ble_eq_true rfl⟩) (fun r locs hw hS => ?_)
  obtain rfl := hw
  refine lv_if_ne (tgt := 15) hx hb d_m_right_10 (by decide) (fun c9 => absurd c9 (by decide)) (fun _ => ?_)
  refine lv_iconst (v := (-1)) hx hb d_m_right_13 (by decide) ?_
  exact W.iret (v := (-1)) hx hb hr (fun t ht hW => ⟨⟨(-1), (rl_st rm_F0 27 0 0), rfl, (show ((-1) : Int32).toInt = -1 by have q9 := rl_nm1; omega), ⟨by rw [ht]; exact hP, hD⟩⟩, hS.F ht⟩) hS.2.2 d_m_right_14
set_option maxHeartbeats 4000000 in
set_option maxRecDepth 100000 in
theorem k_m_waive (l : Launch) (D : va_G) (a : Nat → Nat) (kI kZ : ClassId) (jt jn : Int32) (sz : Nat) : rl_Ci (S := Nat → Nat → Int32) l ⟨"RightsLimitModel", "waive", "(II)I"⟩ (Cond.code ⟨"RightsLimitModel", "waive", "(II)I"⟩ prog_7_method_19_code 3 (some .int) :: rl_G) { frames := 2, cells := 0, slots := 0, locals := 43 } D rl_cl (rl_tys kI kZ) [] [.ref (a 0), .int jt, .int jn] (rm_w a kI kZ rm_F0) sz (fun (r : Int32) (F' : Nat → Nat → Int32) => r.toInt = -1) (fun F' => rm_w a kI kZ F') 0 0 := by
  refine rl_meti (cc := prog_7_method_19_code) (maxL := 3) (ret := (some .int)) (by decide) rfl (Nat.le_of_ble_eq_true rfl) ?_
  intro p e s m below meth c A ls hx hb hr hml hown hts hlocks hnm hP hK hD hS hA hN hl
  have hown : s.vm.findClass "RightsLimitModel" = some m.cls := hown
  have hG : ∀ x ∈ rl_G, x.before _ s = true := fun x h => hts x (List.mem_cons_of_mem _ h)
  have hl : lv_has ls 3 [(0, .ref (a 0)), (1, .int jt), (2, .int jn)] := hl
  refine lv_aload_n hx hb d_m_waive_0 rfl (lv_at hl 0 rfl) ?_
  refine lv_iconst (v := 0) hx hb d_m_waive_1 (by decide) ?_
  refine va_put (D := D) (ci := 5) (v := .int 0) (ty := .int) (C := "RightsLimitModel") (T := fT_m) (N := 33) hx hb hG fi_m fy_m fo_m fn_m hown hK hP hD hS 0 rfl rfl 0 (by decide) (hG _ wd_483) (fun _ h9 => h9) rfl (by decide +kernel) rfl rfl (Nat.le_of_ble_eq_true rfl) d_m_waive_2 (fun H locs hP hD hS => ?_)
  have hP : va_P D rl_cl (rm_w a kI kZ (rl_st rm_F0 27 0 0)) H := hP
  have hD : va_D A (rm_w a kI kZ (rl_st rm_F0 27 0 0)) := hD
  refine lv_aload_n hx hb d_m_waive_5 rfl (lv_at hl 0 rfl) ?_
  refine lv_iload_n hx hb d_m_waive_6 rfl (lv_at hl 1 rfl) ?_
  have hpre := rl_BR.pre (av := .ref (a 0) :: [.int jt]) rl_nw0 hP hK hN
  refine rl_callr hS (va_runV (As := [.int jt]) (rest := []) ⟨hx, hb, hml, hown, hG⟩ (k_m_isTitle l D a kI kZ jt _) (cwV 1 hG (rl_gV wd_598 wd_600 wd_6 wd_19 wd_601) rfl rfl rfl (by decide +kernel) ⟨Nat.le_of_ble_eq_true rfl, Nat.le_of_ble_eq_true rfl⟩) ⟨hpre.1, (va_recv hK hP (ci := 5) (q0 := 0) rfl rfl), hpre.2⟩ rfl rfl hl.1 rfl (lv_room (Nat.le_of_ble_eq_true rfl)) d_m_waive_7 ⟨Nat.le_of_ble_eq_true rfl, Nat.le_of_ble_eq_true rfl⟩) (fun r locs hw hS => ?_)
  obtain rfl := hw
  refine lv_if_ne (tgt := 15) hx hb d_m_waive_10 (by decide) (fun c9 => absurd c9 (by decide)) (fun _ => ?_)
  refine lv_iconst (v := (-1)) hx hb d_m_waive_13 (by decide) ?_
  exact W.iret (v := (-1)) hx hb hr (fun t ht hW => ⟨⟨(-1), (rl_st rm_F0 27 0 0), rfl, (show ((-1) : Int32).toInt = -1 by have q9 := rl_nm1; omega), ⟨by rw [ht]; exact hP, hD⟩⟩, hS.F ht⟩) hS.2.2 d_m_waive_14
set_option maxHeartbeats 4000000 in
set_option maxRecDepth 100000 in
theorem k_m_renew (l : Launch) (D : va_G) (a : Nat → Nat) (kI kZ : ClassId) (jn jt : Int32) (sz : Nat) : rl_Ci (S := Nat → Nat → Int32) l ⟨"RightsLimitModel", "renew", "(II)I"⟩ (Cond.code ⟨"RightsLimitModel", "renew", "(II)I"⟩ prog_7_method_20_code 3 (some .int) :: rl_G) { frames := 1, cells := 0, slots := 0, locals := 22 } D rl_cl (rl_tys kI kZ) [] [.ref (a 0), .int jn, .int jt] (rm_w a kI kZ rm_F0) sz (fun (r : Int32) (F' : Nat → Nat → Int32) => r.toInt = -1) (fun F' => rm_w a kI kZ F') 0 0 := by
  refine rl_meti (cc := prog_7_method_20_code) (maxL := 3) (ret := (some .int)) (by decide) rfl (Nat.le_of_ble_eq_true rfl) ?_
  intro p e s m below meth c A ls hx hb hr hml hown hts hlocks hnm hP hK hD hS hA hN hl
  have hown : s.vm.findClass "RightsLimitModel" = some m.cls := hown
  have hG : ∀ x ∈ rl_G, x.before _ s = true := fun x h => hts x (List.mem_cons_of_mem _ h)
  have hl : lv_has ls 3 [(0, .ref (a 0)), (1, .int jn), (2, .int jt)] := hl
  refine lv_aload_n hx hb d_m_renew_0 rfl (lv_at hl 0 rfl) ?_
  refine lv_iconst (v := 0) hx hb d_m_renew_1 (by decide) ?_
  refine va_put (D := D) (ci := 5) (v := .int 0) (ty := .int) (C := "RightsLimitModel") (T := fT_m) (N := 33) hx hb hG fi_m fy_m fo_m fn_m hown hK hP hD hS 0 rfl rfl 0 (by decide) (hG _ wd_483) (fun _ h9 => h9) rfl (by decide +kernel) rfl rfl (Nat.le_of_ble_eq_true rfl) d_m_renew_2 (fun H locs hP hD hS => ?_)
  have hP : va_P D rl_cl (rm_w a kI kZ (rl_st rm_F0 27 0 0)) H := hP
  have hD : va_D A (rm_w a kI kZ (rl_st rm_F0 27 0 0)) := hD
  refine lv_iload_n hx hb d_m_renew_5 rfl (lv_at hl 1 rfl) ?_
  refine lv_iconst (v := 0) hx hb d_m_renew_6 (by decide) ?_
  refine lv_aload_n hx hb d_m_renew_7 rfl (lv_at hl 0 rfl) ?_
  refine va_get (D := D) (ci := 5) (v := .int 0) (C := "RightsLimitModel") (T := fT_m) (N := 33) hx hb hG fi_m hown hK hP 0 rfl rfl 20 (by decide) (hG _ wd_503) (fun _ h9 => h9) rfl d_m_renew_8 ?_
  refine lv_iconst (v := 1) hx hb d_m_renew_11 (by decide) ?_
  refine lv_isub hx hb d_m_renew_12 ?_
  refine lv_topi (fun v1 ev1 => ?_)
  have iv1 : v1.toInt = -1 := by rw [ev1]; decide
  refine rl_callr hS (va_runS (As := [.int jn, .int 0, .int v1]) (rest := []) ⟨hx, hb, hml, hown, hG⟩ (k_m_in l D a kI kZ jn 0 v1 _) (cwS 3 hG (rl_gS wd_591 wd_592 wd_19 wd_593) rfl rfl rfl (by decide +kernel) ⟨Nat.le_of_ble_eq_true rfl, Nat.le_of_ble_eq_true rfl⟩) (rl_BR.pre rl_nw0 rl_P0 hK hN) rfl rfl hl.1 rfl (lv_room (Nat.le_of_ble_eq_true rfl)) d_m_renew_13 ⟨Nat.le_of_ble_eq_true rfl, Nat.le_of_ble_eq_true rfl⟩) (fun r locs hw hS => ?_)
  try simp only [rl_n0] at hw
  rcases hw with ⟨rfl, h2⟩ | ⟨rfl, h2⟩
  · exfalso; omega
  · refine lv_if_ne (tgt := 21) hx hb d_m_renew_16 (by decide) (fun c9 => absurd c9 (by decide)) (fun _ => ?_)
    refine lv_iconst (v := (-1)) hx hb d_m_renew_19 (by decide) ?_
    exact W.iret (v := (-1)) hx hb hr (fun t ht hW => ⟨⟨(-1), (rl_st rm_F0 27 0 0), rfl, (show ((-1) : Int32).toInt = -1 by have q9 := rl_nm1; omega), ⟨by rw [ht]; exact hP, hD⟩⟩, hS.F ht⟩) hS.2.2 d_m_renew_20
set_option maxHeartbeats 4000000 in
set_option maxRecDepth 100000 in
theorem k_m_delete (l : Launch) (D : va_G) (a : Nat → Nat) (kI kZ : ClassId) (jn jt : Int32) (sz : Nat) : rl_Ci (S := Nat → Nat → Int32) l ⟨"RightsLimitModel", "delete", "(II)I"⟩ (Cond.code ⟨"RightsLimitModel", "delete", "(II)I"⟩ prog_7_method_21_code 3 (some .int) :: rl_G) { frames := 1, cells := 0, slots := 0, locals := 22 } D rl_cl (rl_tys kI kZ) [] [.ref (a 0), .int jn, .int jt] (rm_w a kI kZ rm_F0) sz (fun (r : Int32) (F' : Nat → Nat → Int32) => r.toInt = -1) (fun F' => rm_w a kI kZ F') 0 0 := by
  refine rl_meti (cc := prog_7_method_21_code) (maxL := 3) (ret := (some .int)) (by decide) rfl (Nat.le_of_ble_eq_true rfl) ?_
  intro p e s m below meth c A ls hx hb hr hml hown hts hlocks hnm hP hK hD hS hA hN hl
  have hown : s.vm.findClass "RightsLimitModel" = some m.cls := hown
  have hG : ∀ x ∈ rl_G, x.before _ s = true := fun x h => hts x (List.mem_cons_of_mem _ h)
  have hl : lv_has ls 3 [(0, .ref (a 0)), (1, .int jn), (2, .int jt)] := hl
  refine lv_aload_n hx hb d_m_delete_0 rfl (lv_at hl 0 rfl) ?_
  refine lv_iconst (v := 0) hx hb d_m_delete_1 (by decide) ?_
  refine va_put (D := D) (ci := 5) (v := .int 0) (ty := .int) (C := "RightsLimitModel") (T := fT_m) (N := 33) hx hb hG fi_m fy_m fo_m fn_m hown hK hP hD hS 0 rfl rfl 0 (by decide) (hG _ wd_483) (fun _ h9 => h9) rfl (by decide +kernel) rfl rfl (Nat.le_of_ble_eq_true rfl) d_m_delete_2 (fun H locs hP hD hS => ?_)
  have hP : va_P D rl_cl (rm_w a kI kZ (rl_st rm_F0 27 0 0)) H := hP
  have hD : va_D A (rm_w a kI kZ (rl_st rm_F0 27 0 0)) := hD
  refine lv_iload_n hx hb d_m_delete_5 rfl (lv_at hl 1 rfl) ?_
  refine lv_iconst (v := 0) hx hb d_m_delete_6 (by decide) ?_
  refine lv_aload_n hx hb d_m_delete_7 rfl (lv_at hl 0 rfl) ?_
  refine va_get (D := D) (ci := 5) (v := .int 0) (C := "RightsLimitModel") (T := fT_m) (N := 33) hx hb hG fi_m hown hK hP 0 rfl rfl 20 (by decide) (hG _ wd_503) (fun _ h9 => h9) rfl d_m_delete_8 ?_
  refine lv_iconst (v := 1) hx hb d_m_delete_11 (by decide) ?_
  refine lv_isub hx hb d_m_delete_12 ?_
  refine lv_topi (fun v1 ev1 => ?_)
  have iv1 : v1.toInt = -1 := by rw [ev1]; decide
  refine rl_callr hS (va_runS (As := [.int jn, .int 0, .int v1]) (rest := []) ⟨hx, hb, hml, hown, hG⟩ (k_m_in l D a kI kZ jn 0 v1 _) (cwS 3 hG (rl_gS wd_591 wd_592 wd_19 wd_593) rfl rfl rfl (by decide +kernel) ⟨Nat.le_of_ble_eq_true rfl, Nat.le_of_ble_eq_true rfl⟩) (rl_BR.pre rl_nw0 rl_P0 hK hN) rfl rfl hl.1 rfl (lv_room (Nat.le_of_ble_eq_true rfl)) d_m_delete_13 ⟨Nat.le_of_ble_eq_true rfl, Nat.le_of_ble_eq_true rfl⟩) (fun r locs hw hS => ?_)
  try simp only [rl_n0] at hw
  rcases hw with ⟨rfl, h2⟩ | ⟨rfl, h2⟩
  · exfalso; omega
  · refine lv_if_ne (tgt := 21) hx hb d_m_delete_16 (by decide) (fun c9 => absurd c9 (by decide)) (fun _ => ?_)
    refine lv_iconst (v := (-1)) hx hb d_m_delete_19 (by decide) ?_
    exact W.iret (v := (-1)) hx hb hr (fun t ht hW => ⟨⟨(-1), (rl_st rm_F0 27 0 0), rfl, (show ((-1) : Int32).toInt = -1 by have q9 := rl_nm1; omega), ⟨by rw [ht]; exact hP, hD⟩⟩, hS.F ht⟩) hS.2.2 d_m_delete_20
set_option maxHeartbeats 4000000 in
set_option maxRecDepth 100000 in
theorem k_m_counted (l : Launch) (D : va_G) (a : Nat → Nat) (kI kZ : ClassId) (jt jk jd ju : Int32) (sz : Nat) : rl_Ci (S := Nat → Nat → Int32) l ⟨"RightsLimitModel", "counted", "(IIII)I"⟩ (Cond.code ⟨"RightsLimitModel", "counted", "(IIII)I"⟩ prog_7_method_22_code 5 (some .int) :: rl_G) { frames := 2, cells := 0, slots := 0, locals := 43 } D rl_cl (rl_tys kI kZ) [] [.ref (a 0), .int jt, .int jk, .int jd, .int ju] (rm_w a kI kZ rm_F0) sz (fun (r : Int32) (F' : Nat → Nat → Int32) => r.toInt = -1) (fun F' => rm_w a kI kZ F') 0 0 := by
  refine rl_meti (cc := prog_7_method_22_code) (maxL := 5) (ret := (some .int)) (by decide) rfl (Nat.le_of_ble_eq_true rfl) ?_
  intro p e s m below meth c A ls hx hb hr hml hown hts hlocks hnm hP hK hD hS hA hN hl
  have hown : s.vm.findClass "RightsLimitModel" = some m.cls := hown
  have hG : ∀ x ∈ rl_G, x.before _ s = true := fun x h => hts x (List.mem_cons_of_mem _ h)
  have hl : lv_has ls 5 [(0, .ref (a 0)), (1, .int jt), (2, .int jk), (3, .int jd), (4, .int ju)] := hl
  refine lv_aload_n hx hb d_m_counted_0 rfl (lv_at hl 0 rfl) ?_
  refine lv_iconst (v := 0) hx hb d_m_counted_1 (by decide) ?_
  refine va_put (D := D) (ci := 5) (v := .int 0) (ty := .int) (C := "RightsLimitModel") (T := fT_m) (N := 33) hx hb hG fi_m fy_m fo_m fn_m hown hK hP hD hS 0 rfl rfl 0 (by decide) (hG _ wd_483) (fun _ h9 => h9) rfl (by decide +kernel) rfl rfl (Nat.le_of_ble_eq_true rfl) d_m_counted_2 (fun H locs hP hD hS => ?_)
  have hP : va_P D rl_cl (rm_w a kI kZ (rl_st rm_F0 27 0 0)) H := hP
  have hD : va_D A (rm_w a kI kZ (rl_st rm_F0 27 0 0)) := hD
  refine lv_aload_n hx hb d_m_counted_5 rfl (lv_at hl 0 rfl) ?_
  refine lv_iload_n hx hb d_m_counted_6 rfl (lv_at hl 1 rfl) ?_
  have hpre := rl_BR.pre (av := .ref (a 0) :: [.int jt]) rl_nw0 hP hK hN
  refine rl_callr hS (va_runV (As := [.int jt]) (rest := []) ⟨hx, hb, hml, hown, hG⟩ (k_m_isTitle l D a kI kZ jt _) (cwV 1 hG (rl_gV wd_598 wd_600 wd_6 wd_19 wd_601) rfl rfl rfl (by decide +kernel) ⟨Nat.le_of_ble_eq_true rfl, Nat.le_of_ble_eq_true rfl⟩) ⟨hpre.1, (va_recv hK hP (ci := 5) (q0 := 0) rfl rfl), hpre.2⟩ rfl rfl hl.1 rfl (lv_room (Nat.le_of_ble_eq_true rfl)) d_m_counted_7 ⟨Nat.le_of_ble_eq_true rfl, Nat.le_of_ble_eq_true rfl⟩) (fun r locs hw hS => ?_)
  obtain rfl := hw
  refine lv_if_ne (tgt := 15) hx hb d_m_counted_10 (by decide) (fun c9 => absurd c9 (by decide)) (fun _ => ?_)
  refine lv_iconst (v := (-1)) hx hb d_m_counted_13 (by decide) ?_
  exact W.iret (v := (-1)) hx hb hr (fun t ht hW => ⟨⟨(-1), (rl_st rm_F0 27 0 0), rfl, (show ((-1) : Int32).toInt = -1 by have q9 := rl_nm1; omega), ⟨by rw [ht]; exact hP, hD⟩⟩, hS.F ht⟩) hS.2.2 d_m_counted_14
set_option maxHeartbeats 4000000 in
set_option maxRecDepth 100000 in
theorem k_m_left (l : Launch) (D : va_G) (a : Nat → Nat) (kI kZ : ClassId) (jn : Int32) (sz : Nat) : rl_Ci (S := Nat → Nat → Int32) l ⟨"RightsLimitModel", "left", "(I)I"⟩ (Cond.code ⟨"RightsLimitModel", "left", "(I)I"⟩ prog_7_method_25_code 2 (some .int) :: rl_G) { frames := 1, cells := 0, slots := 0, locals := 22 } D rl_cl (rl_tys kI kZ) [] [.ref (a 0), .int jn] (rm_w a kI kZ rm_F0) sz (fun (r : Int32) (F' : Nat → Nat → Int32) => r.toInt = -1) (fun F' => rm_w a kI kZ F') 0 0 := by
  refine rl_meti (cc := prog_7_method_25_code) (maxL := 2) (ret := (some .int)) (by decide) rfl (Nat.le_of_ble_eq_true rfl) ?_
  intro p e s m below meth c A ls hx hb hr hml hown hts hlocks hnm hP hK hD hS hA hN hl
  have hown : s.vm.findClass "RightsLimitModel" = some m.cls := hown
  have hG : ∀ x ∈ rl_G, x.before _ s = true := fun x h => hts x (List.mem_cons_of_mem _ h)
  have hl : lv_has ls 2 [(0, .ref (a 0)), (1, .int jn)] := hl
  refine lv_aload_n hx hb d_m_left_0 rfl (lv_at hl 0 rfl) ?_
  refine lv_iconst (v := 0) hx hb d_m_left_1 (by decide) ?_
  refine va_put (D := D) (ci := 5) (v := .int 0) (ty := .int) (C := "RightsLimitModel") (T := fT_m) (N := 33) hx hb hG fi_m fy_m fo_m fn_m hown hK hP hD hS 0 rfl rfl 0 (by decide) (hG _ wd_483) (fun _ h9 => h9) rfl (by decide +kernel) rfl rfl (Nat.le_of_ble_eq_true rfl) d_m_left_2 (fun H locs hP hD hS => ?_)
  have hP : va_P D rl_cl (rm_w a kI kZ (rl_st rm_F0 27 0 0)) H := hP
  have hD : va_D A (rm_w a kI kZ (rl_st rm_F0 27 0 0)) := hD
  refine lv_iload_n hx hb d_m_left_5 rfl (lv_at hl 1 rfl) ?_
  refine lv_iconst (v := 0) hx hb d_m_left_6 (by decide) ?_
  refine lv_aload_n hx hb d_m_left_7 rfl (lv_at hl 0 rfl) ?_
  refine va_get (D := D) (ci := 5) (v := .int 0) (C := "RightsLimitModel") (T := fT_m) (N := 33) hx hb hG fi_m hown hK hP 0 rfl rfl 14 (by decide) (hG _ wd_497) (fun _ h9 => h9) rfl d_m_left_8 ?_
  refine lv_iconst (v := 1) hx hb d_m_left_11 (by decide) ?_
  refine lv_isub hx hb d_m_left_12 ?_
  refine lv_topi (fun v1 ev1 => ?_)
  have iv1 : v1.toInt = -1 := by rw [ev1]; decide
  refine rl_callr hS (va_runS (As := [.int jn, .int 0, .int v1]) (rest := []) ⟨hx, hb, hml, hown, hG⟩ (k_m_in l D a kI kZ jn 0 v1 _) (cwS 3 hG (rl_gS wd_591 wd_592 wd_19 wd_593) rfl rfl rfl (by decide +kernel) ⟨Nat.le_of_ble_eq_true rfl, Nat.le_of_ble_eq_true rfl⟩) (rl_BR.pre rl_nw0 rl_P0 hK hN) rfl rfl hl.1 rfl (lv_room (Nat.le_of_ble_eq_true rfl)) d_m_left_13 ⟨Nat.le_of_ble_eq_true rfl, Nat.le_of_ble_eq_true rfl⟩) (fun r locs hw hS => ?_)
  try simp only [rl_n0] at hw
  rcases hw with ⟨rfl, h2⟩ | ⟨rfl, h2⟩
  · exfalso; omega
  · refine lv_if_eq (tgt := 28) hx hb d_m_left_16 (by decide) (fun _ => ?_) (fun c9 => absurd c9 (by decide))
    refine lv_iconst (v := (-1)) hx hb d_m_left_28 (by decide) ?_
    exact W.iret (v := (-1)) hx hb hr (fun t ht hW => ⟨⟨(-1), (rl_st rm_F0 27 0 0), rfl, (show ((-1) : Int32).toInt = -1 by have q9 := rl_nm1; omega), ⟨by rw [ht]; exact hP, hD⟩⟩, hS.F ht⟩) hS.2.2 d_m_left_29
set_option maxHeartbeats 4000000 in
set_option maxRecDepth 100000 in
theorem k_m_statistics (l : Launch) (D : va_G) (a : Nat → Nat) (kI kZ : ClassId) (jn jw : Int32) (sz : Nat) : rl_Ci (S := Nat → Nat → Int32) l ⟨"RightsLimitModel", "statistics", "(II)I"⟩ (Cond.code ⟨"RightsLimitModel", "statistics", "(II)I"⟩ prog_7_method_26_code 5 (some .int) :: rl_G) { frames := 1, cells := 0, slots := 0, locals := 22 } D rl_cl (rl_tys kI kZ) [] [.ref (a 0), .int jn, .int jw] (rm_w a kI kZ rm_F0) sz (fun (r : Int32) (F' : Nat → Nat → Int32) => (((0 ≤ jn.toInt ∧ jn.toInt ≤ 99) ∧ (0 ≤ jw.toInt ∧ jw.toInt ≤ 3)) ∧ r.toInt = 0) ∨ (¬ ((0 ≤ jn.toInt ∧ jn.toInt ≤ 99) ∧ (0 ≤ jw.toInt ∧ jw.toInt ≤ 3)) ∧ r.toInt = -1)) (fun F' => rm_w a kI kZ F') 0 0 := by
  refine rl_meti (cc := prog_7_method_26_code) (maxL := 5) (ret := (some .int)) (by decide) rfl (Nat.le_of_ble_eq_true rfl) ?_
  intro p e s m below meth c A ls hx hb hr hml hown hts hlocks hnm hP hK hD hS hA hN hl
  have hown : s.vm.findClass "RightsLimitModel" = some m.cls := hown
  have hG : ∀ x ∈ rl_G, x.before _ s = true := fun x h => hts x (List.mem_cons_of_mem _ h)
  have hl : lv_has ls 5 [(0, .ref (a 0)), (1, .int jn), (2, .int jw)] := hl
  refine lv_aload_n hx hb d_m_statistics_0 rfl (lv_at hl 0 rfl) ?_
  refine lv_iconst (v := 0) hx hb d_m_statistics_1 (by decide) ?_
  refine va_put (D := D) (ci := 5) (v := .int 0) (ty := .int) (C := "RightsLimitModel") (T := fT_m) (N := 33) hx hb hG fi_m fy_m fo_m fn_m hown hK hP hD hS 0 rfl rfl 0 (by decide) (hG _ wd_483) (fun _ h9 => h9) rfl (by decide +kernel) rfl rfl (Nat.le_of_ble_eq_true rfl) d_m_statistics_2 (fun H locs hP hD hS => ?_)
  have hP : va_P D rl_cl (rm_w a kI kZ (rl_st rm_F0 27 0 0)) H := hP
  have hD : va_D A (rm_w a kI kZ (rl_st rm_F0 27 0 0)) := hD
  refine lv_iload_n hx hb d_m_statistics_5 rfl (lv_at hl 1 rfl) ?_
  refine lv_iconst (v := 0) hx hb d_m_statistics_6 (by decide) ?_
  refine lv_bipush (v := 99) hx hb d_m_statistics_7 (by decide) ?_
  refine rl_callr hS (va_runS (As := [.int jn, .int 0, .int 99]) (rest := []) ⟨hx, hb, hml, hown, hG⟩ (k_m_in l D a kI kZ jn 0 99 _) (cwS 3 hG (rl_gS wd_591 wd_592 wd_19 wd_593) rfl rfl rfl (by decide +kernel) ⟨Nat.le_of_ble_eq_true rfl, Nat.le_of_ble_eq_true rfl⟩) (rl_BR.pre rl_nw0 rl_P0 hK hN) rfl rfl hl.1 rfl (lv_room (Nat.le_of_ble_eq_true rfl)) d_m_statistics_9 ⟨Nat.le_of_ble_eq_true rfl, Nat.le_of_ble_eq_true rfl⟩) (fun r locs hw hS => ?_)
  try simp only [rl_n0, rl_n99] at hw
  rcases hw with ⟨rfl, h1⟩ | ⟨rfl, h1⟩
  · refine lv_if_eq (tgt := 24) hx hb d_m_statistics_12 (by decide) (fun c9 => absurd c9 (by decide)) (fun _ => ?_)
    refine lv_iload_n hx hb d_m_statistics_15 rfl (lv_at hl 2 rfl) ?_
    refine lv_iconst (v := 0) hx hb d_m_statistics_16 (by decide) ?_
    refine lv_iconst (v := 3) hx hb d_m_statistics_17 (by decide) ?_
    refine rl_callr hS (va_runS (As := [.int jw, .int 0, .int 3]) (rest := []) ⟨hx, hb, hml, hown, hG⟩ (k_m_in l D a kI kZ jw 0 3 _) (cwS 3 hG (rl_gS wd_591 wd_592 wd_19 wd_593) rfl rfl rfl (by decide +kernel) ⟨Nat.le_of_ble_eq_true rfl, Nat.le_of_ble_eq_true rfl⟩) (rl_BR.pre rl_nw0 rl_P0 hK hN) rfl rfl hl.1 rfl (lv_room (Nat.le_of_ble_eq_true rfl)) d_m_statistics_18 ⟨Nat.le_of_ble_eq_true rfl, Nat.le_of_ble_eq_true rfl⟩) (fun r locs hw hS => ?_)
    try simp only [rl_n0, rl_n3] at hw
    rcases hw with ⟨rfl, h2⟩ | ⟨rfl, h2⟩
    · refine lv_if_ne (tgt := 26) hx hb d_m_statistics_21 (by decide) (fun _ => ?_) (fun c9 => absurd c9 (by decide))
      refine lv_iconst (v := 0) hx hb d_m_statistics_26 (by decide) ?_
      refine lv_istore_n (lv' := [(3, .int 0), (0, .ref (a 0)), (1, .int jn), (2, .int jw)]) hx hb d_m_statistics_27 rfl hl (by decide) rfl (fun ls hl => ?_)
      refine lv_iconst (v := 0) hx hb d_m_statistics_28 (by decide) ?_
      refine lv_istore (lv' := [(4, .int 0), (3, .int 0), (0, .ref (a 0)), (1, .int jn), (2, .int jw)]) hx hb d_m_statistics_29 hl (by decide) rfl (fun ls hl => ?_)
      refine lv_iload hx hb d_m_statistics_31 (lv_at hl 0 rfl) ?_
      refine lv_aload_n hx hb d_m_statistics_33 rfl (lv_at hl 2 rfl) ?_
      refine va_get (D := D) (ci := 5) (v := .int 0) (C := "RightsLimitModel") (T := fT_m) (N := 33) hx hb hG fi_m hown hK hP 0 rfl rfl 20 (by decide) (hG _ wd_503) (fun _ h9 => h9) rfl d_m_statistics_34 ?_
      refine lv_icmp_ge (tgt := 129) hx hb d_m_statistics_37 (by decide) (fun _ => ?_) (fun c9 => absurd c9 (by decide))
      refine lv_iload_n hx hb d_m_statistics_129 rfl (lv_at hl 1 rfl) ?_
      exact W.iret (v := 0) hx hb hr (fun t ht hW => ⟨⟨0, (rl_st rm_F0 27 0 0), rfl, (show (((0 ≤ jn.toInt ∧ jn.toInt ≤ 99) ∧ (0 ≤ jw.toInt ∧ jw.toInt ≤ 3)) ∧ (0 : Int32).toInt = 0) ∨ (¬ ((0 ≤ jn.toInt ∧ jn.toInt ≤ 99) ∧ (0 ≤ jw.toInt ∧ jw.toInt ≤ 3)) ∧ (0 : Int32).toInt = -1) by have q9 := rl_n0; omega), ⟨by rw [ht]; exact hP, hD⟩⟩, hS.F ht⟩) hS.2.2 d_m_statistics_130
    · refine lv_if_ne (tgt := 26) hx hb d_m_statistics_21 (by decide) (fun c9 => absurd c9 (by decide)) (fun _ => ?_)
      refine lv_iconst (v := (-1)) hx hb d_m_statistics_24 (by decide) ?_
      exact W.iret (v := (-1)) hx hb hr (fun t ht hW => ⟨⟨(-1), (rl_st rm_F0 27 0 0), rfl, (show (((0 ≤ jn.toInt ∧ jn.toInt ≤ 99) ∧ (0 ≤ jw.toInt ∧ jw.toInt ≤ 3)) ∧ ((-1) : Int32).toInt = 0) ∨ (¬ ((0 ≤ jn.toInt ∧ jn.toInt ≤ 99) ∧ (0 ≤ jw.toInt ∧ jw.toInt ≤ 3)) ∧ ((-1) : Int32).toInt = -1) by have q9 := rl_nm1; omega), ⟨by rw [ht]; exact hP, hD⟩⟩, hS.F ht⟩) hS.2.2 d_m_statistics_25
  · refine lv_if_eq (tgt := 24) hx hb d_m_statistics_12 (by decide) (fun _ => ?_) (fun c9 => absurd c9 (by decide))
    refine lv_iconst (v := (-1)) hx hb d_m_statistics_24 (by decide) ?_
    exact W.iret (v := (-1)) hx hb hr (fun t ht hW => ⟨⟨(-1), (rl_st rm_F0 27 0 0), rfl, (show (((0 ≤ jn.toInt ∧ jn.toInt ≤ 99) ∧ (0 ≤ jw.toInt ∧ jw.toInt ≤ 3)) ∧ ((-1) : Int32).toInt = 0) ∨ (¬ ((0 ≤ jn.toInt ∧ jn.toInt ≤ 99) ∧ (0 ≤ jw.toInt ∧ jw.toInt ≤ 3)) ∧ ((-1) : Int32).toInt = -1) by have q9 := rl_nm1; omega), ⟨by rw [ht]; exact hP, hD⟩⟩, hS.F ht⟩) hS.2.2 d_m_statistics_25
set_option maxHeartbeats 4000000 in
set_option maxRecDepth 100000 in
theorem k_m_request (l : Launch) (D : va_G) (a : Nat → Nat) (kI kZ : ClassId) (jn jw : Int32) (sz : Nat) : rl_Ci (S := Nat → Nat → Int32) l ⟨"RightsLimitModel", "request", "(II)I"⟩ (Cond.code ⟨"RightsLimitModel", "request", "(II)I"⟩ prog_7_method_24_code 3 (some .int) :: rl_G) { frames := 1, cells := 0, slots := 0, locals := 22 } D rl_cl (rl_tys kI kZ) [] [.ref (a 0), .int jn, .int jw] (rm_w a kI kZ rm_F0) sz (fun (r : Int32) (F' : Nat → Nat → Int32) => r.toInt = 0 ∧ F' 27 0 = 1) (fun F' => rm_w a kI kZ F') 0 0 := by
  refine rl_meti (cc := prog_7_method_24_code) (maxL := 3) (ret := (some .int)) (by decide) rfl (Nat.le_of_ble_eq_true rfl) ?_
  intro p e s m below meth c A ls hx hb hr hml hown hts hlocks hnm hP hK hD hS hA hN hl
  have hown : s.vm.findClass "RightsLimitModel" = some m.cls := hown
  have hG : ∀ x ∈ rl_G, x.before _ s = true := fun x h => hts x (List.mem_cons_of_mem _ h)
  have hl : lv_has ls 3 [(0, .ref (a 0)), (1, .int jn), (2, .int jw)] := hl
  refine lv_aload_n hx hb d_m_request_0 rfl (lv_at hl 0 rfl) ?_
  refine lv_iload_n hx hb d_m_request_1 rfl (lv_at hl 1 rfl) ?_
  refine lv_iconst (v := 0) hx hb d_m_request_2 (by decide) ?_
  refine lv_aload_n hx hb d_m_request_3 rfl (lv_at hl 0 rfl) ?_
  refine va_get (D := D) (ci := 5) (v := .int 0) (C := "RightsLimitModel") (T := fT_m) (N := 33) hx hb hG fi_m hown hK hP 0 rfl rfl 20 (by decide) (hG _ wd_503) (fun _ h9 => h9) rfl d_m_request_4 ?_
  refine lv_iconst (v := 1) hx hb d_m_request_7 (by decide) ?_
  refine lv_isub hx hb d_m_request_8 ?_
  refine lv_topi (fun v1 ev1 => ?_)
  have iv1 : v1.toInt = -1 := by rw [ev1]; decide
  refine rl_callr hS (va_runS (As := [.int jn, .int 0, .int v1]) (rest := [.ref (a 0)]) ⟨hx, hb, hml, hown, hG⟩ (k_m_in l D a kI kZ jn 0 v1 _) (cwS 3 hG (rl_gS wd_591 wd_592 wd_19 wd_593) rfl rfl rfl (by decide +kernel) ⟨Nat.le_of_ble_eq_true rfl, Nat.le_of_ble_eq_true rfl⟩) (rl_BR.pre rl_nw0 rl_P0 hK hN) rfl rfl hl.1 rfl (lv_room (Nat.le_of_ble_eq_true rfl)) d_m_request_9 ⟨Nat.le_of_ble_eq_true rfl, Nat.le_of_ble_eq_true rfl⟩) (fun r locs hw hS => ?_)
  try simp only [rl_n0] at hw
  rcases hw with ⟨rfl, h2⟩ | ⟨rfl, h2⟩
  · exfalso; omega
  · refine lv_if_eq (tgt := 25) hx hb d_m_request_12 (by decide) (fun _ => ?_) (fun c9 => absurd c9 (by decide))
    refine lv_iconst (v := 1) hx hb d_m_request_25 (by decide) ?_
    refine lv_goto (tgt := 30) hx hb d_m_request_26 (by decide) ?_
    refine va_put (D := D) (ci := 5) (v := .int 1) (ty := .int) (C := "RightsLimitModel") (T := fT_m) (N := 33) hx hb hG fi_m fy_m fo_m fn_m hown hK hP hD hS 0 rfl rfl 0 (by decide) (hG _ wd_483) (fun _ h9 => h9) rfl (by decide +kernel) rfl rfl (Nat.le_of_ble_eq_true rfl) d_m_request_30 (fun H locs hP hD hS => ?_)
    have hP : va_P D rl_cl (rm_w a kI kZ (rl_st rm_F0 27 0 1)) H := hP
    have hD : va_D A (rm_w a kI kZ (rl_st rm_F0 27 0 1)) := hD
    refine lv_aload_n hx hb d_m_request_33 rfl (lv_at hl 0 rfl) ?_
    refine va_get (D := D) (ci := 5) (v := .int 1) (C := "RightsLimitModel") (T := fT_m) (N := 33) hx hb hG fi_m hown hK hP 0 rfl rfl 0 (by decide) (hG _ wd_483) (fun _ h9 => h9) rfl d_m_request_34 ?_
    refine lv_if_le (tgt := 42) hx hb d_m_request_37 (by decide) (fun c9 => absurd c9 (by decide)) (fun _ => ?_)
    refine lv_iconst (v := 0) hx hb d_m_request_40 (by decide) ?_
    exact W.iret (v := 0) hx hb hr (fun t ht hW => ⟨⟨0, (rl_st rm_F0 27 0 1), rfl, ⟨(show (0 : Int32).toInt = 0 by have q9 := rl_n0; omega), rfl⟩, ⟨by rw [ht]; exact hP, hD⟩⟩, hS.F ht⟩) hS.2.2 d_m_request_41
set_option maxHeartbeats 4000000 in
set_option maxRecDepth 100000 in
theorem k_m_past (l : Launch) (D : va_G) (a : Nat → Nat) (kI kZ : ClassId) (jt jn : Int32) (sz : Nat) : rl_Ci (S := Nat → Nat → Int32) l ⟨"RightsLimitModel", "past", "(II)I"⟩ (Cond.code ⟨"RightsLimitModel", "past", "(II)I"⟩ prog_7_method_27_code 5 (some .int) :: rl_G) { frames := 0, cells := 0, slots := 0, locals := 0 } D rl_cl (rl_tys kI kZ) [] [.ref (a 0), .int jt, .int jn] (rm_w a kI kZ rm_F0) sz (fun (r : Int32) (F' : Nat → Nat → Int32) => r.toInt = 0 ∧ F' 27 0 = 1) (fun F' => rm_w a kI kZ F') 0 0 := by
  refine rl_meti (cc := prog_7_method_27_code) (maxL := 5) (ret := (some .int)) (by decide) rfl (Nat.le_of_ble_eq_true rfl) ?_
  intro p e s m below meth c A ls hx hb hr hml hown hts hlocks hnm hP hK hD hS hA hN hl
  have hown : s.vm.findClass "RightsLimitModel" = some m.cls := hown
  have hG : ∀ x ∈ rl_G, x.before _ s = true := fun x h => hts x (List.mem_cons_of_mem _ h)
  have hl : lv_has ls 5 [(0, .ref (a 0)), (1, .int jt), (2, .int jn)] := hl
  refine lv_iload_n hx hb d_m_past_0 rfl (lv_at hl 2 rfl) ?_
  refine lv_istore_n (lv' := [(3, .int jn), (0, .ref (a 0)), (1, .int jt), (2, .int jn)]) hx hb d_m_past_1 rfl hl (by decide) rfl (fun ls hl => ?_)
  refine lv_iconst (v := 0) hx hb d_m_past_2 (by decide) ?_
  refine lv_istore (lv' := [(4, .int 0), (3, .int jn), (0, .ref (a 0)), (1, .int jt), (2, .int jn)]) hx hb d_m_past_3 hl (by decide) rfl (fun ls hl => ?_)
  refine lv_iload hx hb d_m_past_5 (lv_at hl 0 rfl) ?_
  refine lv_aload_n hx hb d_m_past_7 rfl (lv_at hl 2 rfl) ?_
  refine va_get (D := D) (ci := 5) (v := .int 0) (C := "RightsLimitModel") (T := fT_m) (N := 33) hx hb hG fi_m hown hK hP 0 rfl rfl 20 (by decide) (hG _ wd_503) (fun _ h9 => h9) rfl d_m_past_8 ?_
  refine lv_icmp_ge (tgt := 69) hx hb d_m_past_11 (by decide) (fun _ => ?_) (fun c9 => absurd c9 (by decide))
  refine lv_aload_n hx hb d_m_past_69 rfl (lv_at hl 2 rfl) ?_
  refine lv_iconst (v := 1) hx hb d_m_past_70 (by decide) ?_
  refine va_put (D := D) (ci := 5) (v := .int 1) (ty := .int) (C := "RightsLimitModel") (T := fT_m) (N := 33) hx hb hG fi_m fy_m fo_m fn_m hown hK hP hD hS 0 rfl rfl 0 (by decide) (hG _ wd_483) (fun _ h9 => h9) rfl (by decide +kernel) rfl rfl (Nat.le_of_ble_eq_true rfl) d_m_past_71 (fun H locs hP hD hS => ?_)
  have hP : va_P D rl_cl (rm_w a kI kZ (rl_st rm_F0 27 0 1)) H := hP
  have hD : va_D A (rm_w a kI kZ (rl_st rm_F0 27 0 1)) := hD
  refine lv_iconst (v := 0) hx hb d_m_past_74 (by decide) ?_
  exact W.iret (v := 0) hx hb hr (fun t ht hW => ⟨⟨0, (rl_st rm_F0 27 0 1), rfl, ⟨(show (0 : Int32).toInt = 0 by have q9 := rl_n0; omega), rfl⟩, ⟨by rw [ht]; exact hP, hD⟩⟩, hS.F ht⟩) hS.2.2 d_m_past_75
