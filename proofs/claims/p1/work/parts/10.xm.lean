set_option maxHeartbeats 4000000 in
set_option maxRecDepth 100000 in
theorem k_x_isBetween (l : Launch) (D : va_G) (a : Nat → Nat) (kI kZ : ClassId) (jn jlo jhi : Int32) (H0 : Heap) : rl_Ri l ⟨"RightsLimit", "isBetween", "(III)Z"⟩ (Cond.code ⟨"RightsLimit", "isBetween", "(III)Z"⟩ prog_1_method_30_code 3 (some .boolean) :: rl_G) { frames := 0, cells := 0, slots := 0, locals := 0 } D rl_cl (rl_tys kI kZ) [] [.int jn, .int jlo, .int jhi] [] H0 (fun (r : Int32) => (r = 1 ∧ (jlo.toInt ≤ jn.toInt ∧ jn.toInt ≤ jhi.toInt)) ∨ (r = 0 ∧ ¬ (jlo.toInt ≤ jn.toInt ∧ jn.toInt ≤ jhi.toInt))) := by
  refine rl_metr (cc := prog_1_method_30_code) (maxL := 3) (ret := (some .boolean)) (by decide) rfl (Nat.le_of_ble_eq_true rfl) ?_
  intro p e s m below meth c ls hx hb hr hml hown hts hlocks hP hK hS hN hl
  have hown : s.vm.findClass "RightsLimit" = some m.cls := hown
  have hG : ∀ x ∈ rl_G, x.before _ s = true := fun x h => hts x (List.mem_cons_of_mem _ h)
  have hl : lv_has ls 3 [(0, .int jn), (1, .int jlo), (2, .int jhi)] := hl
  refine lv_iload_n hx hb d_x_isBetween_0 rfl (lv_at hl 0 rfl) ?_
  refine lv_iload_n hx hb d_x_isBetween_1 rfl (lv_at hl 1 rfl) ?_
  refine lv_icmp_lt (tgt := 14) hx hb d_x_isBetween_2 (by decide) (fun c1 => ?_) (fun c1 => ?_)
  · have ic1 := rl_ilt c1
    refine lv_iconst (v := 0) hx hb d_x_isBetween_14 (by decide) ?_
    exact W.zret (v := 0) hx hb hr rfl (fun t ht hW => ⟨⟨0, (), rfl, Or.inr ⟨rfl, by omega⟩, ht⟩, hS.F ht⟩) hS.2.2 d_x_isBetween_15
  · have ic1 := rl_inlt c1
    refine lv_iload_n hx hb d_x_isBetween_5 rfl (lv_at hl 0 rfl) ?_
    refine lv_iload_n hx hb d_x_isBetween_6 rfl (lv_at hl 2 rfl) ?_
    refine lv_icmp_gt (tgt := 14) hx hb d_x_isBetween_7 (by decide) (fun c2 => ?_) (fun c2 => ?_)
    · have ic2 := rl_ilt c2
      refine lv_iconst (v := 0) hx hb d_x_isBetween_14 (by decide) ?_
      exact W.zret (v := 0) hx hb hr rfl (fun t ht hW => ⟨⟨0, (), rfl, Or.inr ⟨rfl, by omega⟩, ht⟩, hS.F ht⟩) hS.2.2 d_x_isBetween_15
    · have ic2 := rl_inlt c2
      refine lv_iconst (v := 1) hx hb d_x_isBetween_10 (by decide) ?_
      refine lv_goto (tgt := 15) hx hb d_x_isBetween_11 (by decide) ?_
      exact W.zret (v := 1) hx hb hr rfl (fun t ht hW => ⟨⟨1, (), rfl, Or.inl ⟨rfl, by omega⟩, ht⟩, hS.F ht⟩) hS.2.2 d_x_isBetween_15
set_option maxHeartbeats 4000000 in
set_option maxRecDepth 100000 in
theorem k_x_isPublisher (l : Launch) (D : va_G) (a : Nat → Nat) (kI kZ : ClassId) (jn : Int32) (H0 : Heap) : rl_Ri l ⟨"RightsLimit", "isPublisher", "(I)Z"⟩ (Cond.code ⟨"RightsLimit", "isPublisher", "(I)Z"⟩ prog_1_method_25_code 1 (some .boolean) :: rl_G) { frames := 1, cells := 0, slots := 0, locals := 22 } D rl_cl (rl_tys kI kZ) [] [.int jn] [] H0 (fun (r : Int32) => (r = 1 ∧ (0 ≤ jn.toInt ∧ jn.toInt ≤ 99)) ∨ (r = 0 ∧ ¬ (0 ≤ jn.toInt ∧ jn.toInt ≤ 99))) := by
  refine rl_metr (cc := prog_1_method_25_code) (maxL := 1) (ret := (some .boolean)) (by decide) rfl (Nat.le_of_ble_eq_true rfl) ?_
  intro p e s m below meth c ls hx hb hr hml hown hts hlocks hP hK hS hN hl
  have hown : s.vm.findClass "RightsLimit" = some m.cls := hown
  have hG : ∀ x ∈ rl_G, x.before _ s = true := fun x h => hts x (List.mem_cons_of_mem _ h)
  have hl : lv_has ls 1 [(0, .int jn)] := hl
  refine lv_iload_n hx hb d_x_isPublisher_0 rfl (lv_at hl 0 rfl) ?_
  refine lv_iconst (v := 0) hx hb d_x_isPublisher_1 (by decide) ?_
  refine lv_bipush (v := 99) hx hb d_x_isPublisher_2 (by decide) ?_
  refine rl_callr hS (va_runS (As := [.int jn, .int 0, .int 99]) (rest := []) ⟨hx, hb, hml, hown, hG⟩ (k_x_isBetween l D a kI kZ jn 0 99 _) (cwS 3 hG (rl_gS wd_200 wd_201 wd_14 wd_202) rfl rfl rfl (by decide +kernel) ⟨Nat.le_of_ble_eq_true rfl, Nat.le_of_ble_eq_true rfl⟩) (rl_BR.pre rl_nw0 rl_P0 hK hN) rfl rfl hl.1 rfl (lv_room (Nat.le_of_ble_eq_true rfl)) d_x_isPublisher_4 ⟨Nat.le_of_ble_eq_true rfl, Nat.le_of_ble_eq_true rfl⟩) (fun r locs hw hS => ?_)
  try simp only [rl_n0, rl_n99] at hw
  rcases hw with ⟨rfl, h1⟩ | ⟨rfl, h1⟩
  · exact W.zret (v := 1) hx hb hr rfl (fun t ht hW => ⟨⟨1, (), rfl, Or.inl ⟨rfl, by omega⟩, ht⟩, hS.F ht⟩) hS.2.2 d_x_isPublisher_7
  · exact W.zret (v := 0) hx hb hr rfl (fun t ht hW => ⟨⟨0, (), rfl, Or.inr ⟨rfl, by omega⟩, ht⟩, hS.F ht⟩) hS.2.2 d_x_isPublisher_7
set_option maxHeartbeats 4000000 in
set_option maxRecDepth 100000 in
theorem k_x_isPerson (l : Launch) (D : va_G) (a : Nat → Nat) (kI kZ : ClassId) (jn : Int32) (H0 : Heap) : rl_Ri l ⟨"RightsLimit", "isPerson", "(I)Z"⟩ (Cond.code ⟨"RightsLimit", "isPerson", "(I)Z"⟩ prog_1_method_26_code 1 (some .boolean) :: rl_G) { frames := 1, cells := 0, slots := 0, locals := 22 } D rl_cl (rl_tys kI kZ) [] [.int jn] [] H0 (fun (r : Int32) => (r = 1 ∧ (0 ≤ jn.toInt ∧ jn.toInt ≤ 99)) ∨ (r = 0 ∧ ¬ (0 ≤ jn.toInt ∧ jn.toInt ≤ 99))) := by
  refine rl_metr (cc := prog_1_method_26_code) (maxL := 1) (ret := (some .boolean)) (by decide) rfl (Nat.le_of_ble_eq_true rfl) ?_
  intro p e s m below meth c ls hx hb hr hml hown hts hlocks hP hK hS hN hl
  have hown : s.vm.findClass "RightsLimit" = some m.cls := hown
  have hG : ∀ x ∈ rl_G, x.before _ s = true := fun x h => hts x (List.mem_cons_of_mem _ h)
  have hl : lv_has ls 1 [(0, .int jn)] := hl
  refine lv_iload_n hx hb d_x_isPerson_0 rfl (lv_at hl 0 rfl) ?_
  refine lv_iconst (v := 0) hx hb d_x_isPerson_1 (by decide) ?_
  refine lv_bipush (v := 99) hx hb d_x_isPerson_2 (by decide) ?_
  refine rl_callr hS (va_runS (As := [.int jn, .int 0, .int 99]) (rest := []) ⟨hx, hb, hml, hown, hG⟩ (k_x_isBetween l D a kI kZ jn 0 99 _) (cwS 3 hG (rl_gS wd_200 wd_201 wd_14 wd_202) rfl rfl rfl (by decide +kernel) ⟨Nat.le_of_ble_eq_true rfl, Nat.le_of_ble_eq_true rfl⟩) (rl_BR.pre rl_nw0 rl_P0 hK hN) rfl rfl hl.1 rfl (lv_room (Nat.le_of_ble_eq_true rfl)) d_x_isPerson_4 ⟨Nat.le_of_ble_eq_true rfl, Nat.le_of_ble_eq_true rfl⟩) (fun r locs hw hS => ?_)
  try simp only [rl_n0, rl_n99] at hw
  rcases hw with ⟨rfl, h1⟩ | ⟨rfl, h1⟩
  · exact W.zret (v := 1) hx hb hr rfl (fun t ht hW => ⟨⟨1, (), rfl, Or.inl ⟨rfl, by omega⟩, ht⟩, hS.F ht⟩) hS.2.2 d_x_isPerson_7
  · exact W.zret (v := 0) hx hb hr rfl (fun t ht hW => ⟨⟨0, (), rfl, Or.inr ⟨rfl, by omega⟩, ht⟩, hS.F ht⟩) hS.2.2 d_x_isPerson_7
set_option maxHeartbeats 4000000 in
set_option maxRecDepth 100000 in
theorem k_t_has (l : Launch) (D : va_G) (a : Nat → Nat) (kI kZ : ClassId) (jn : Int32) (H0 : Heap) : rl_Ri l ⟨"RightsLimit$Titles", "has", "(I)Z"⟩ (Cond.code ⟨"RightsLimit$Titles", "has", "(I)Z"⟩ prog_5_method_2_code 2 (some .boolean) :: rl_G) { frames := 0, cells := 0, slots := 0, locals := 0 } D rl_cl (rl_tys kI kZ) [] [.ref (a 1), .int jn] (rl_w a kI kZ rl_F0) H0 (fun (r : Int32) => r = 0) := by
  refine rl_metr (cc := prog_5_method_2_code) (maxL := 2) (ret := (some .boolean)) (by decide) rfl (Nat.le_of_ble_eq_true rfl) ?_
  intro p e s m below meth c ls hx hb hr hml hown hts hlocks hP hK hS hN hl
  have hown : s.vm.findClass "RightsLimit$Titles" = some m.cls := hown
  have hG : ∀ x ∈ rl_G, x.before _ s = true := fun x h => hts x (List.mem_cons_of_mem _ h)
  have hl : lv_has ls 2 [(0, .ref (a 1)), (1, .int jn)] := hl
  refine lv_iload_n hx hb d_t_has_0 rfl (lv_at hl 1 rfl) ?_
  refine lv_if_lt (tgt := 16) hx hb d_t_has_1 (by decide) (fun c1 => ?_) (fun c1 => ?_)
  · have ic1 := rl_ilt c1
    simp only [rl_n0] at ic1
    refine lv_iconst (v := 0) hx hb d_t_has_16 (by decide) ?_
    exact W.zret (v := 0) hx hb hr rfl (fun t ht hW => ⟨⟨0, (), rfl, rfl, ht⟩, hS.F ht⟩) hS.2.2 d_t_has_17
  · have ic1 := rl_inlt c1
    simp only [rl_n0] at ic1
    refine lv_iload_n hx hb d_t_has_4 rfl (lv_at hl 1 rfl) ?_
    refine lv_aload_n hx hb d_t_has_5 rfl (lv_at hl 0 rfl) ?_
    refine va_get (D := D) (ci := 1) (v := .int 0) (C := "RightsLimit$Titles") (T := fT_t) (N := 5) hx hb hG fi_t hown hK hP 1 rfl rfl 4 (by decide) (hG _ wd_46) (fun _ h9 => h9) rfl d_t_has_6 ?_
    refine lv_icmp_ge (tgt := 16) hx hb d_t_has_9 (by decide) (fun c2 => ?_) (fun c2 => ?_)
    · have ic2 := rl_ile c2
      simp only [rl_n0] at ic2
      refine lv_iconst (v := 0) hx hb d_t_has_16 (by decide) ?_
      exact W.zret (v := 0) hx hb hr rfl (fun t ht hW => ⟨⟨0, (), rfl, rfl, ht⟩, hS.F ht⟩) hS.2.2 d_t_has_17
    · have ic2 := rl_inle c2
      simp only [rl_n0] at ic2
      exfalso; omega
set_option maxHeartbeats 4000000 in
set_option maxRecDepth 100000 in
theorem k_c_has (l : Launch) (D : va_G) (a : Nat → Nat) (kI kZ : ClassId) (jn : Int32) (H0 : Heap) : rl_Ri l ⟨"RightsLimit$Licences", "has", "(I)Z"⟩ (Cond.code ⟨"RightsLimit$Licences", "has", "(I)Z"⟩ prog_2_method_2_code 2 (some .boolean) :: rl_G) { frames := 0, cells := 0, slots := 0, locals := 0 } D rl_cl (rl_tys kI kZ) [] [.ref (a 3), .int jn] (rl_w a kI kZ rl_F0) H0 (fun (r : Int32) => r = 0) := by
  refine rl_metr (cc := prog_2_method_2_code) (maxL := 2) (ret := (some .boolean)) (by decide) rfl (Nat.le_of_ble_eq_true rfl) ?_
  intro p e s m below meth c ls hx hb hr hml hown hts hlocks hP hK hS hN hl
  have hown : s.vm.findClass "RightsLimit$Licences" = some m.cls := hown
  have hG : ∀ x ∈ rl_G, x.before _ s = true := fun x h => hts x (List.mem_cons_of_mem _ h)
  have hl : lv_has ls 2 [(0, .ref (a 3)), (1, .int jn)] := hl
  refine lv_iload_n hx hb d_c_has_0 rfl (lv_at hl 1 rfl) ?_
  refine lv_if_lt (tgt := 16) hx hb d_c_has_1 (by decide) (fun c1 => ?_) (fun c1 => ?_)
  · have ic1 := rl_ilt c1
    simp only [rl_n0] at ic1
    refine lv_iconst (v := 0) hx hb d_c_has_16 (by decide) ?_
    exact W.zret (v := 0) hx hb hr rfl (fun t ht hW => ⟨⟨0, (), rfl, rfl, ht⟩, hS.F ht⟩) hS.2.2 d_c_has_17
  · have ic1 := rl_inlt c1
    simp only [rl_n0] at ic1
    refine lv_iload_n hx hb d_c_has_4 rfl (lv_at hl 1 rfl) ?_
    refine lv_aload_n hx hb d_c_has_5 rfl (lv_at hl 0 rfl) ?_
    refine va_get (D := D) (ci := 3) (v := .int 0) (C := "RightsLimit$Licences") (T := fT_c) (N := 6) hx hb hG fi_c hown hK hP 3 rfl rfl 5 (by decide) (hG _ wd_97) (fun _ h9 => h9) rfl d_c_has_6 ?_
    refine lv_icmp_ge (tgt := 16) hx hb d_c_has_9 (by decide) (fun c2 => ?_) (fun c2 => ?_)
    · have ic2 := rl_ile c2
      simp only [rl_n0] at ic2
      refine lv_iconst (v := 0) hx hb d_c_has_16 (by decide) ?_
      exact W.zret (v := 0) hx hb hr rfl (fun t ht hW => ⟨⟨0, (), rfl, rfl, ht⟩, hS.F ht⟩) hS.2.2 d_c_has_17
    · have ic2 := rl_inle c2
      simp only [rl_n0] at ic2
      exfalso; omega
set_option maxHeartbeats 4000000 in
set_option maxRecDepth 100000 in
theorem k_q_has (l : Launch) (D : va_G) (a : Nat → Nat) (kI kZ : ClassId) (jn : Int32) (H0 : Heap) : rl_Ri l ⟨"RightsLimit$Requests", "has", "(I)Z"⟩ (Cond.code ⟨"RightsLimit$Requests", "has", "(I)Z"⟩ prog_4_method_2_code 2 (some .boolean) :: rl_G) { frames := 0, cells := 0, slots := 0, locals := 0 } D rl_cl (rl_tys kI kZ) [] [.ref (a 4), .int jn] (rl_w a kI kZ rl_F0) H0 (fun (r : Int32) => r = 0) := by
  refine rl_metr (cc := prog_4_method_2_code) (maxL := 2) (ret := (some .boolean)) (by decide) rfl (Nat.le_of_ble_eq_true rfl) ?_
  intro p e s m below meth c ls hx hb hr hml hown hts hlocks hP hK hS hN hl
  have hown : s.vm.findClass "RightsLimit$Requests" = some m.cls := hown
  have hG : ∀ x ∈ rl_G, x.before _ s = true := fun x h => hts x (List.mem_cons_of_mem _ h)
  have hl : lv_has ls 2 [(0, .ref (a 4)), (1, .int jn)] := hl
  refine lv_iload_n hx hb d_q_has_0 rfl (lv_at hl 1 rfl) ?_
  refine lv_if_lt (tgt := 16) hx hb d_q_has_1 (by decide) (fun c1 => ?_) (fun c1 => ?_)
  · have ic1 := rl_ilt c1
    simp only [rl_n0] at ic1
    refine lv_iconst (v := 0) hx hb d_q_has_16 (by decide) ?_
    exact W.zret (v := 0) hx hb hr rfl (fun t ht hW => ⟨⟨0, (), rfl, rfl, ht⟩, hS.F ht⟩) hS.2.2 d_q_has_17
  · have ic1 := rl_inlt c1
    simp only [rl_n0] at ic1
    refine lv_iload_n hx hb d_q_has_4 rfl (lv_at hl 1 rfl) ?_
    refine lv_aload_n hx hb d_q_has_5 rfl (lv_at hl 0 rfl) ?_
    refine va_get (D := D) (ci := 4) (v := .int 0) (C := "RightsLimit$Requests") (T := fT_q) (N := 13) hx hb hG fi_q hown hK hP 4 rfl rfl 12 (by decide) (hG _ wd_140) (fun _ h9 => h9) rfl d_q_has_6 ?_
    refine lv_icmp_ge (tgt := 16) hx hb d_q_has_9 (by decide) (fun c2 => ?_) (fun c2 => ?_)
    · have ic2 := rl_ile c2
      simp only [rl_n0] at ic2
      refine lv_iconst (v := 0) hx hb d_q_has_16 (by decide) ?_
      exact W.zret (v := 0) hx hb hr rfl (fun t ht hW => ⟨⟨0, (), rfl, rfl, ht⟩, hS.F ht⟩) hS.2.2 d_q_has_17
    · have ic2 := rl_inle c2
      simp only [rl_n0] at ic2
      exfalso; omega
set_option maxHeartbeats 4000000 in
set_option maxRecDepth 100000 in
theorem k_t_add (l : Launch) (D : va_G) (a : Nat → Nat) (kI kZ : ClassId) (jp : Int32) (sz : Nat) : rl_Ci (S := Nat → Nat → Int32) l ⟨"RightsLimit$Titles", "add", "(I)I"⟩ (Cond.code ⟨"RightsLimit$Titles", "add", "(I)I"⟩ prog_5_method_3_code 2 (some .int) :: rl_G) { frames := 0, cells := 0, slots := 0, locals := 0 } D rl_cl (rl_tys kI kZ) [] [.ref (a 1), .int jp] (rl_w a kI kZ rl_F0) sz (fun (r : Int32) (F' : Nat → Nat → Int32) => r.toInt = 0) (fun F' => rl_w a kI kZ F') 0 0 := by
  refine rl_meti (cc := prog_5_method_3_code) (maxL := 2) (ret := (some .int)) (by decide) rfl (Nat.le_of_ble_eq_true rfl) ?_
  intro p e s m below meth c A ls hx hb hr hml hown hts hlocks hnm hP hK hD hS hA hN hl
  have hown : s.vm.findClass "RightsLimit$Titles" = some m.cls := hown
  have hG : ∀ x ∈ rl_G, x.before _ s = true := fun x h => hts x (List.mem_cons_of_mem _ h)
  have hl : lv_has ls 2 [(0, .ref (a 1)), (1, .int jp)] := hl
  refine lv_aload_n hx hb d_t_add_0 rfl (lv_at hl 0 rfl) ?_
  refine va_get (D := D) (ci := 1) (v := .int 0) (C := "RightsLimit$Titles") (T := fT_t) (N := 5) hx hb hG fi_t hown hK hP 1 rfl rfl 4 (by decide) (hG _ wd_46) (fun _ h9 => h9) rfl d_t_add_1 ?_
  refine lv_bipush (v := 50) hx hb d_t_add_4 (by decide) ?_
  refine lv_icmp_lt (tgt := 12) hx hb d_t_add_6 (by decide) (fun _ => ?_) (fun c9 => absurd c9 (by decide))
  refine lv_aload_n hx hb d_t_add_12 rfl (lv_at hl 0 rfl) ?_
  refine va_get (D := D) (ci := 1) (v := .ref (a 5)) (C := "RightsLimit$Titles") (T := fT_t) (N := 5) hx hb hG fi_t hown hK hP 1 rfl rfl 0 (by decide) (hG _ wd_38) (fun _ h9 => h9) rfl d_t_add_13 ?_
  refine lv_aload_n hx hb d_t_add_16 rfl (lv_at hl 0 rfl) ?_
  refine va_get (D := D) (ci := 1) (v := .int 0) (C := "RightsLimit$Titles") (T := fT_t) (N := 5) hx hb hG fi_t hown hK hP 1 rfl rfl 4 (by decide) (hG _ wd_46) (fun _ h9 => h9) rfl d_t_add_17 ?_
  refine lv_iload_n hx hb d_t_add_20 rfl (lv_at hl 1 rfl) ?_
  refine va_iast hx hb hK hP hD hS 5 0 rfl rfl (rl_in (x := 0) (n := 50) (by decide) (by decide)) d_t_add_21 (fun H locs hP hD hS => ?_)
  have hP : va_P D rl_cl (rl_w a kI kZ (rl_st rl_F0 0 (0 : Int32).toNatClampNeg jp)) H := hP
  have hD : va_D A (rl_w a kI kZ (rl_st rl_F0 0 (0 : Int32).toNatClampNeg jp)) := hD
  refine lv_aload_n hx hb d_t_add_22 rfl (lv_at hl 0 rfl) ?_
  refine lv_dup hx hb d_t_add_23 rfl ?_
  refine va_get (D := D) (ci := 1) (v := .int 0) (C := "RightsLimit$Titles") (T := fT_t) (N := 5) hx hb hG fi_t hown hK hP 1 rfl rfl 4 (by decide) (hG _ wd_46) (fun _ h9 => h9) rfl d_t_add_24 ?_
  refine lv_iconst (v := 1) hx hb d_t_add_27 (by decide) ?_
  refine lv_iadd hx hb d_t_add_28 ?_
  refine lv_topi (fun v1 ev1 => ?_)
  have iv1 : v1.toInt = 1 := by rw [ev1]; decide
  refine va_put (D := D) (ci := 1) (v := .int v1) (ty := .int) (C := "RightsLimit$Titles") (T := fT_t) (N := 5) hx hb hG fi_t fy_t fo_t fn_t hown hK hP hD hS 1 rfl rfl 4 (by decide) (hG _ wd_46) (fun _ h9 => h9) rfl (by decide +kernel) rfl rfl (Nat.le_of_ble_eq_true rfl) d_t_add_29 (fun H locs hP hD hS => ?_)
  have hP : va_P D rl_cl (rl_w a kI kZ (rl_st (rl_st rl_F0 0 (0 : Int32).toNatClampNeg jp) 27 0 v1)) H := hP
  have hD : va_D A (rl_w a kI kZ (rl_st (rl_st rl_F0 0 (0 : Int32).toNatClampNeg jp) 27 0 v1)) := hD
  refine lv_aload_n hx hb d_t_add_32 rfl (lv_at hl 0 rfl) ?_
  refine va_get (D := D) (ci := 1) (v := .int v1) (C := "RightsLimit$Titles") (T := fT_t) (N := 5) hx hb hG fi_t hown hK hP 1 rfl rfl 4 (by decide) (hG _ wd_46) (fun _ h9 => h9) rfl d_t_add_33 ?_
  refine lv_iconst (v := 1) hx hb d_t_add_36 (by decide) ?_
  refine lv_isub hx hb d_t_add_37 ?_
  refine lv_topi (fun v2 ev2 => ?_)
  have iv2 : v2.toInt = v1.toInt - 1 := by rw [ev2]; exact rl_subk (by decide) (by omega) (by omega)
  exact W.iret (v := v2) hx hb hr (fun t ht hW => ⟨⟨v2, (rl_st (rl_st rl_F0 0 (0 : Int32).toNatClampNeg jp) 27 0 v1), rfl, (show v2.toInt = 0 by omega), ⟨by rw [ht]; exact hP, hD⟩⟩, hS.F ht⟩) hS.2.2 d_t_add_38
set_option maxHeartbeats 4000000 in
set_option maxRecDepth 100000 in
theorem k_q_countOf (l : Launch) (D : va_G) (a : Nat → Nat) (kI kZ : ClassId) (jn : Int32) (H0 : Heap) : rl_Ri l ⟨"RightsLimit$Requests", "countOf", "(I)I"⟩ (Cond.code ⟨"RightsLimit$Requests", "countOf", "(I)I"⟩ prog_4_method_14_code 4 (some .int) :: rl_G) { frames := 0, cells := 0, slots := 0, locals := 0 } D rl_cl (rl_tys kI kZ) [] [.ref (a 4), .int jn] (rl_w a kI kZ rl_F0) H0 (fun (r : Int32) => r.toInt = 0) := by
  refine rl_metr (cc := prog_4_method_14_code) (maxL := 4) (ret := (some .int)) (by decide) rfl (Nat.le_of_ble_eq_true rfl) ?_
  intro p e s m below meth c ls hx hb hr hml hown hts hlocks hP hK hS hN hl
  have hown : s.vm.findClass "RightsLimit$Requests" = some m.cls := hown
  have hG : ∀ x ∈ rl_G, x.before _ s = true := fun x h => hts x (List.mem_cons_of_mem _ h)
  have hl : lv_has ls 4 [(0, .ref (a 4)), (1, .int jn)] := hl
  refine lv_iconst (v := 0) hx hb d_q_countOf_0 (by decide) ?_
  refine lv_istore_n (lv' := [(2, .int 0), (0, .ref (a 4)), (1, .int jn)]) hx hb d_q_countOf_1 rfl hl (by decide) rfl (fun ls hl => ?_)
  refine lv_iconst (v := 0) hx hb d_q_countOf_2 (by decide) ?_
  refine lv_istore_n (lv' := [(3, .int 0), (2, .int 0), (0, .ref (a 4)), (1, .int jn)]) hx hb d_q_countOf_3 rfl hl (by decide) rfl (fun ls hl => ?_)
  refine lv_iload_n hx hb d_q_countOf_4 rfl (lv_at hl 0 rfl) ?_
  refine lv_aload_n hx hb d_q_countOf_5 rfl (lv_at hl 2 rfl) ?_
  refine va_get (D := D) (ci := 4) (v := .int 0) (C := "RightsLimit$Requests") (T := fT_q) (N := 13) hx hb hG fi_q hown hK hP 4 rfl rfl 12 (by decide) (hG _ wd_140) (fun _ h9 => h9) rfl d_q_countOf_6 ?_
  refine lv_icmp_ge (tgt := 31) hx hb d_q_countOf_9 (by decide) (fun _ => ?_) (fun c9 => absurd c9 (by decide))
  refine lv_iload_n hx hb d_q_countOf_31 rfl (lv_at hl 1 rfl) ?_
  exact W.iret (v := 0) hx hb hr (fun t ht hW => ⟨⟨0, (), rfl, (show (0 : Int32).toInt = 0 by have q9 := rl_n0; omega), ht⟩, hS.F ht⟩) hS.2.2 d_q_countOf_32
set_option maxHeartbeats 4000000 in
set_option maxRecDepth 100000 in
theorem k_q_countRefusedOf (l : Launch) (D : va_G) (a : Nat → Nat) (kI kZ : ClassId) (jn : Int32) (H0 : Heap) : rl_Ri l ⟨"RightsLimit$Requests", "countRefusedOf", "(I)I"⟩ (Cond.code ⟨"RightsLimit$Requests", "countRefusedOf", "(I)I"⟩ prog_4_method_15_code 4 (some .int) :: rl_G) { frames := 0, cells := 0, slots := 0, locals := 0 } D rl_cl (rl_tys kI kZ) [] [.ref (a 4), .int jn] (rl_w a kI kZ rl_F0) H0 (fun (r : Int32) => r.toInt = 0) := by
  refine rl_metr (cc := prog_4_method_15_code) (maxL := 4) (ret := (some .int)) (by decide) rfl (Nat.le_of_ble_eq_true rfl) ?_
  intro p e s m below meth c ls hx hb hr hml hown hts hlocks hP hK hS hN hl
  have hown : s.vm.findClass "RightsLimit$Requests" = some m.cls := hown
  have hG : ∀ x ∈ rl_G, x.before _ s = true := fun x h => hts x (List.mem_cons_of_mem _ h)
  have hl : lv_has ls 4 [(0, .ref (a 4)), (1, .int jn)] := hl
  refine lv_iconst (v := 0) hx hb d_q_countRefusedOf_0 (by decide) ?_
  refine lv_istore_n (lv' := [(2, .int 0), (0, .ref (a 4)), (1, .int jn)]) hx hb d_q_countRefusedOf_1 rfl hl (by decide) rfl (fun ls hl => ?_)
  refine lv_iconst (v := 0) hx hb d_q_countRefusedOf_2 (by decide) ?_
  refine lv_istore_n (lv' := [(3, .int 0), (2, .int 0), (0, .ref (a 4)), (1, .int jn)]) hx hb d_q_countRefusedOf_3 rfl hl (by decide) rfl (fun ls hl => ?_)
  refine lv_iload_n hx hb d_q_countRefusedOf_4 rfl (lv_at hl 0 rfl) ?_
  refine lv_aload_n hx hb d_q_countRefusedOf_5 rfl (lv_at hl 2 rfl) ?_
  refine va_get (D := D) (ci := 4) (v := .int 0) (C := "RightsLimit$Requests") (T := fT_q) (N := 13) hx hb hG fi_q hown hK hP 4 rfl rfl 12 (by decide) (hG _ wd_140) (fun _ h9 => h9) rfl d_q_countRefusedOf_6 ?_
  refine lv_icmp_ge (tgt := 39) hx hb d_q_countRefusedOf_9 (by decide) (fun _ => ?_) (fun c9 => absurd c9 (by decide))
  refine lv_iload_n hx hb d_q_countRefusedOf_39 rfl (lv_at hl 1 rfl) ?_
  exact W.iret (v := 0) hx hb hr (fun t ht hW => ⟨⟨0, (), rfl, (show (0 : Int32).toInt = 0 by have q9 := rl_n0; omega), ht⟩, hS.F ht⟩) hS.2.2 d_q_countRefusedOf_40
set_option maxHeartbeats 4000000 in
set_option maxRecDepth 100000 in
theorem k_q_pagesAllowedTo (l : Launch) (D : va_G) (a : Nat → Nat) (kI kZ : ClassId) (jn : Int32) (H0 : Heap) : rl_Ri l ⟨"RightsLimit$Requests", "pagesAllowedTo", "(I)I"⟩ (Cond.code ⟨"RightsLimit$Requests", "pagesAllowedTo", "(I)I"⟩ prog_4_method_16_code 4 (some .int) :: rl_G) { frames := 0, cells := 0, slots := 0, locals := 0 } D rl_cl (rl_tys kI kZ) [] [.ref (a 4), .int jn] (rl_w a kI kZ rl_F0) H0 (fun (r : Int32) => r.toInt = 0) := by
  refine rl_metr (cc := prog_4_method_16_code) (maxL := 4) (ret := (some .int)) (by decide) rfl (Nat.le_of_ble_eq_true rfl) ?_
  intro p e s m below meth c ls hx hb hr hml hown hts hlocks hP hK hS hN hl
  have hown : s.vm.findClass "RightsLimit$Requests" = some m.cls := hown
  have hG : ∀ x ∈ rl_G, x.before _ s = true := fun x h => hts x (List.mem_cons_of_mem _ h)
  have hl : lv_has ls 4 [(0, .ref (a 4)), (1, .int jn)] := hl
  refine lv_iconst (v := 0) hx hb d_q_pagesAllowedTo_0 (by decide) ?_
  refine lv_istore_n (lv' := [(2, .int 0), (0, .ref (a 4)), (1, .int jn)]) hx hb d_q_pagesAllowedTo_1 rfl hl (by decide) rfl (fun ls hl => ?_)
  refine lv_iconst (v := 0) hx hb d_q_pagesAllowedTo_2 (by decide) ?_
  refine lv_istore_n (lv' := [(3, .int 0), (2, .int 0), (0, .ref (a 4)), (1, .int jn)]) hx hb d_q_pagesAllowedTo_3 rfl hl (by decide) rfl (fun ls hl => ?_)
  refine lv_iload_n hx hb d_q_pagesAllowedTo_4 rfl (lv_at hl 0 rfl) ?_
  refine lv_aload_n hx hb d_q_pagesAllowedTo_5 rfl (lv_at hl 2 rfl) ?_
  refine va_get (D := D) (ci := 4) (v := .int 0) (C := "RightsLimit$Requests") (T := fT_q) (N := 13) hx hb hG fi_q hown hK hP 4 rfl rfl 12 (by decide) (hG _ wd_140) (fun _ h9 => h9) rfl d_q_pagesAllowedTo_6 ?_
  refine lv_icmp_ge (tgt := 45) hx hb d_q_pagesAllowedTo_9 (by decide) (fun _ => ?_) (fun c9 => absurd c9 (by decide))
  refine lv_iload_n hx hb d_q_pagesAllowedTo_45 rfl (lv_at hl 1 rfl) ?_
  exact W.iret (v := 0) hx hb hr (fun t ht hW => ⟨⟨0, (), rfl, (show (0 : Int32).toInt = 0 by have q9 := rl_n0; omega), ht⟩, hS.F ht⟩) hS.2.2 d_q_pagesAllowedTo_46
set_option maxHeartbeats 4000000 in
set_option maxRecDepth 100000 in
theorem k_q_centsOf (l : Launch) (D : va_G) (a : Nat → Nat) (kI kZ : ClassId) (jn : Int32) (H0 : Heap) : rl_Ri l ⟨"RightsLimit$Requests", "centsOf", "(I)I"⟩ (Cond.code ⟨"RightsLimit$Requests", "centsOf", "(I)I"⟩ prog_4_method_17_code 4 (some .int) :: rl_G) { frames := 0, cells := 0, slots := 0, locals := 0 } D rl_cl (rl_tys kI kZ) [] [.ref (a 4), .int jn] (rl_w a kI kZ rl_F0) H0 (fun (r : Int32) => r.toInt = 0) := by
  refine rl_metr (cc := prog_4_method_17_code) (maxL := 4) (ret := (some .int)) (by decide) rfl (Nat.le_of_ble_eq_true rfl) ?_
  intro p e s m below meth c ls hx hb hr hml hown hts hlocks hP hK hS hN hl
  have hown : s.vm.findClass "RightsLimit$Requests" = some m.cls := hown
  have hG : ∀ x ∈ rl_G, x.before _ s = true := fun x h => hts x (List.mem_cons_of_mem _ h)
  have hl : lv_has ls 4 [(0, .ref (a 4)), (1, .int jn)] := hl
  refine lv_iconst (v := 0) hx hb d_q_centsOf_0 (by decide) ?_
  refine lv_istore_n (lv' := [(2, .int 0), (0, .ref (a 4)), (1, .int jn)]) hx hb d_q_centsOf_1 rfl hl (by decide) rfl (fun ls hl => ?_)
  refine lv_iconst (v := 0) hx hb d_q_centsOf_2 (by decide) ?_
  refine lv_istore_n (lv' := [(3, .int 0), (2, .int 0), (0, .ref (a 4)), (1, .int jn)]) hx hb d_q_centsOf_3 rfl hl (by decide) rfl (fun ls hl => ?_)
  refine lv_iload_n hx hb d_q_centsOf_4 rfl (lv_at hl 0 rfl) ?_
  refine lv_aload_n hx hb d_q_centsOf_5 rfl (lv_at hl 2 rfl) ?_
  refine va_get (D := D) (ci := 4) (v := .int 0) (C := "RightsLimit$Requests") (T := fT_q) (N := 13) hx hb hG fi_q hown hK hP 4 rfl rfl 12 (by decide) (hG _ wd_140) (fun _ h9 => h9) rfl d_q_centsOf_6 ?_
  refine lv_icmp_ge (tgt := 37) hx hb d_q_centsOf_9 (by decide) (fun _ => ?_) (fun c9 => absurd c9 (by decide))
  refine lv_iload_n hx hb d_q_centsOf_37 rfl (lv_at hl 1 rfl) ?_
  exact W.iret (v := 0) hx hb hr (fun t ht hW => ⟨⟨0, (), rfl, (show (0 : Int32).toInt = 0 by have q9 := rl_n0; omega), ht⟩, hS.F ht⟩) hS.2.2 d_q_centsOf_38
set_option maxHeartbeats 4000000 in
set_option maxRecDepth 100000 in
theorem k_q_endedAt (l : Launch) (D : va_G) (a : Nat → Nat) (kI kZ : ClassId) (jt jn : Int32) (H0 : Heap) : rl_Ri l ⟨"RightsLimit$Requests", "endedAt", "(II)I"⟩ (Cond.code ⟨"RightsLimit$Requests", "endedAt", "(II)I"⟩ prog_4_method_13_code 5 (some .int) :: rl_G) { frames := 0, cells := 0, slots := 0, locals := 0 } D rl_cl (rl_tys kI kZ) [] [.ref (a 4), .int jt, .int jn] (rl_w a kI kZ rl_F0) H0 (fun (r : Int32) => r = -1) := by
  refine rl_metr (cc := prog_4_method_13_code) (maxL := 5) (ret := (some .int)) (by decide) rfl (Nat.le_of_ble_eq_true rfl) ?_
  intro p e s m below meth c ls hx hb hr hml hown hts hlocks hP hK hS hN hl
  have hown : s.vm.findClass "RightsLimit$Requests" = some m.cls := hown
  have hG : ∀ x ∈ rl_G, x.before _ s = true := fun x h => hts x (List.mem_cons_of_mem _ h)
  have hl : lv_has ls 5 [(0, .ref (a 4)), (1, .int jt), (2, .int jn)] := hl
  refine lv_iconst (v := 0) hx hb d_q_endedAt_0 (by decide) ?_
  refine lv_istore_n (lv' := [(3, .int 0), (0, .ref (a 4)), (1, .int jt), (2, .int jn)]) hx hb d_q_endedAt_1 rfl hl (by decide) rfl (fun ls hl => ?_)
  refine lv_iconst (v := 0) hx hb d_q_endedAt_2 (by decide) ?_
  refine lv_istore (lv' := [(4, .int 0), (3, .int 0), (0, .ref (a 4)), (1, .int jt), (2, .int jn)]) hx hb d_q_endedAt_3 hl (by decide) rfl (fun ls hl => ?_)
  refine lv_iload hx hb d_q_endedAt_5 (lv_at hl 0 rfl) ?_
  refine lv_aload_n hx hb d_q_endedAt_7 rfl (lv_at hl 2 rfl) ?_
  refine va_get (D := D) (ci := 4) (v := .int 0) (C := "RightsLimit$Requests") (T := fT_q) (N := 13) hx hb hG fi_q hown hK hP 4 rfl rfl 12 (by decide) (hG _ wd_140) (fun _ h9 => h9) rfl d_q_endedAt_8 ?_
  refine lv_icmp_ge (tgt := 50) hx hb d_q_endedAt_11 (by decide) (fun _ => ?_) (fun c9 => absurd c9 (by decide))
  refine lv_iconst (v := (-1)) hx hb d_q_endedAt_50 (by decide) ?_
  exact W.iret (v := (-1)) hx hb hr (fun t ht hW => ⟨⟨(-1), (), rfl, rfl, ht⟩, hS.F ht⟩) hS.2.2 d_q_endedAt_51
set_option maxHeartbeats 4000000 in
set_option maxRecDepth 100000 in
theorem k_x_title (l : Launch) (D : va_G) (a : Nat → Nat) (kI kZ : ClassId) (jp : Int32) (sz : Nat) : rl_Ci (S := Nat → Nat → Int32) l ⟨"RightsLimit", "title", "(I)I"⟩ (Cond.code ⟨"RightsLimit", "title", "(I)I"⟩ prog_1_method_2_code 2 (some .int) :: rl_G) { frames := 2, cells := 0, slots := 0, locals := 42 } D rl_cl (rl_tys kI kZ) [] [.ref (a 0), .int jp] (rl_w a kI kZ rl_F0) sz (fun (r : Int32) (F' : Nat → Nat → Int32) => ((0 ≤ jp.toInt ∧ jp.toInt ≤ 99) ∧ r.toInt = 0) ∨ (¬ (0 ≤ jp.toInt ∧ jp.toInt ≤ 99) ∧ r.toInt = -2)) (fun F' => rl_w a kI kZ F') 0 0 := by
  refine rl_meti (cc := prog_1_method_2_code) (maxL := 2) (ret := (some .int)) (by decide) rfl (Nat.le_of_ble_eq_true rfl) ?_
  intro p e s m below meth c A ls hx hb hr hml hown hts hlocks hnm hP hK hD hS hA hN hl
  have hown : s.vm.findClass "RightsLimit" = some m.cls := hown
  have hG : ∀ x ∈ rl_G, x.before _ s = true := fun x h => hts x (List.mem_cons_of_mem _ h)
  have hl : lv_has ls 2 [(0, .ref (a 0)), (1, .int jp)] := hl
  refine lv_iload_n hx hb d_x_title_0 rfl (lv_at hl 1 rfl) ?_
  refine rl_callr hS (va_runS (As := [.int jp]) (rest := []) ⟨hx, hb, hml, hown, hG⟩ (k_x_isPublisher l D a kI kZ jp _) (cwS 1 hG (rl_gS wd_197 wd_198 wd_14 wd_199) rfl rfl rfl (by decide +kernel) ⟨Nat.le_of_ble_eq_true rfl, Nat.le_of_ble_eq_true rfl⟩) (rl_BR.pre rl_nw0 rl_P0 hK hN) rfl rfl hl.1 rfl (lv_room (Nat.le_of_ble_eq_true rfl)) d_x_title_1 ⟨Nat.le_of_ble_eq_true rfl, Nat.le_of_ble_eq_true rfl⟩) (fun r locs hw hS => ?_)
  rcases hw with ⟨rfl, h1⟩ | ⟨rfl, h1⟩
  · refine lv_if_ne (tgt := 10) hx hb d_x_title_4 (by decide) (fun _ => ?_) (fun c9 => absurd c9 (by decide))
    refine lv_aload_n hx hb d_x_title_10 rfl (lv_at hl 0 rfl) ?_
    refine va_get (D := D) (ci := 0) (v := .ref (a 1)) (C := "RightsLimit") (T := fT_x) (N := 8) hx hb hG fi_x hown hK hP 0 rfl rfl 0 (by decide) (hG _ wd_168) (fun _ h9 => h9) rfl d_x_title_11 ?_
    refine lv_iload_n hx hb d_x_title_14 rfl (lv_at hl 1 rfl) ?_
    have hpre := rl_B.pre (av := .ref (a 1) :: [.int jp]) rl_nw0 hP hK hD hN
    refine rl_calli0 hP hD hS hA (va_runV (As := [.int jp]) (rest := []) ⟨hx, hb, hml, hown, hG⟩ (k_t_add l D a kI kZ jp _) (cwV 1 hG (rl_gV wd_203 wd_204 wd_205 wd_15 wd_206) rfl rfl rfl (by decide +kernel) ⟨Nat.le_of_ble_eq_true rfl, Nat.le_of_ble_eq_true rfl⟩) ⟨hpre.1, (va_recv hK hP (ci := 1) (q0 := 1) rfl rfl), hpre.2⟩ rfl rfl hl.1 rfl (lv_room (Nat.le_of_ble_eq_true rfl)) d_x_title_15 ⟨Nat.le_of_ble_eq_true rfl, Nat.le_of_ble_eq_true rfl⟩) (fun r F2 H locs hw hP hD hS => ?_)
    have hP : va_P D rl_cl (rl_w a kI kZ F2) H := hP
    have hD : va_D A (rl_w a kI kZ F2) := hD
    obtain ⟨r3, er3⟩ : ∃ q, q = r := ⟨_, rfl⟩
    rw [← er3] at hw ⊢
    have hwr3 := hw
    exact W.iret (v := r3) hx hb hr (fun t ht hW => ⟨⟨r3, F2, rfl, (show ((0 ≤ jp.toInt ∧ jp.toInt ≤ 99) ∧ r3.toInt = 0) ∨ (¬ (0 ≤ jp.toInt ∧ jp.toInt ≤ 99) ∧ r3.toInt = -2) by omega), ⟨by rw [ht]; exact hP, hD⟩⟩, hS.F ht⟩) hS.2.2 d_x_title_18
  · refine lv_if_ne (tgt := 10) hx hb d_x_title_4 (by decide) (fun c9 => absurd c9 (by decide)) (fun _ => ?_)
    refine lv_bipush (v := (-2)) hx hb d_x_title_7 (by decide) ?_
    exact W.iret (v := (-2)) hx hb hr (fun t ht hW => ⟨⟨(-2), rl_F0, rfl, (show ((0 ≤ jp.toInt ∧ jp.toInt ≤ 99) ∧ ((-2) : Int32).toInt = 0) ∨ (¬ (0 ≤ jp.toInt ∧ jp.toInt ≤ 99) ∧ ((-2) : Int32).toInt = -2) by have q9 := rl_nm2; omega), ⟨by rw [ht]; exact hP, hD⟩⟩, hS.F ht⟩) hS.2.2 d_x_title_9
set_option maxHeartbeats 4000000 in
set_option maxRecDepth 100000 in
theorem k_x_open (l : Launch) (D : va_G) (a : Nat → Nat) (kI kZ : ClassId) (jt jb : Int32) (H0 : Heap) : rl_Ri l ⟨"RightsLimit", "open", "(IZ)I"⟩ (Cond.code ⟨"RightsLimit", "open", "(IZ)I"⟩ prog_1_method_3_code 3 (some .int) :: rl_G) { frames := 1, cells := 0, slots := 0, locals := 21 } D rl_cl (rl_tys kI kZ) [] [.ref (a 0), .int jt, .int jb] (rl_w a kI kZ rl_F0) H0 (fun (r : Int32) => r.toInt = -1) := by
  refine rl_metr (cc := prog_1_method_3_code) (maxL := 3) (ret := (some .int)) (by decide) rfl (Nat.le_of_ble_eq_true rfl) ?_
  intro p e s m below meth c ls hx hb hr hml hown hts hlocks hP hK hS hN hl
  have hown : s.vm.findClass "RightsLimit" = some m.cls := hown
  have hG : ∀ x ∈ rl_G, x.before _ s = true := fun x h => hts x (List.mem_cons_of_mem _ h)
  have hl : lv_has ls 3 [(0, .ref (a 0)), (1, .int jt), (2, .int jb)] := hl
  refine lv_aload_n hx hb d_x_open_0 rfl (lv_at hl 0 rfl) ?_
  refine va_get (D := D) (ci := 0) (v := .ref (a 1)) (C := "RightsLimit") (T := fT_x) (N := 8) hx hb hG fi_x hown hK hP 0 rfl rfl 0 (by decide) (hG _ wd_168) (fun _ h9 => h9) rfl d_x_open_1 ?_
  refine lv_iload_n hx hb d_x_open_4 rfl (lv_at hl 1 rfl) ?_
  have hpre := rl_BR.pre (av := .ref (a 1) :: [.int jt]) rl_nw0 hP hK hN
  refine rl_callr hS (va_runV (As := [.int jt]) (rest := []) ⟨hx, hb, hml, hown, hG⟩ (k_t_has l D a kI kZ jt _) (cwV 1 hG (rl_gV wd_211 wd_212 wd_213 wd_15 wd_214) rfl rfl rfl (by decide +kernel) ⟨Nat.le_of_ble_eq_true rfl, Nat.le_of_ble_eq_true rfl⟩) ⟨hpre.1, (va_recv hK hP (ci := 1) (q0 := 1) rfl rfl), hpre.2⟩ rfl rfl hl.1 rfl (lv_room (Nat.le_of_ble_eq_true rfl)) d_x_open_5 ⟨Nat.le_of_ble_eq_true rfl, Nat.le_of_ble_eq_true rfl⟩) (fun r locs hw hS => ?_)
  obtain rfl := hw
  refine lv_if_ne (tgt := 13) hx hb d_x_open_8 (by decide) (fun c9 => absurd c9 (by decide)) (fun _ => ?_)
  refine lv_iconst (v := (-1)) hx hb d_x_open_11 (by decide) ?_
  exact W.iret (v := (-1)) hx hb hr (fun t ht hW => ⟨⟨(-1), (), rfl, (show ((-1) : Int32).toInt = -1 by have q9 := rl_nm1; omega), ht⟩, hS.F ht⟩) hS.2.2 d_x_open_12
set_option maxHeartbeats 4000000 in
set_option maxRecDepth 100000 in
theorem k_x_limit (l : Launch) (D : va_G) (a : Nat → Nat) (kI kZ : ClassId) (jt jk jd jn : Int32) (H0 : Heap) : rl_Ri l ⟨"RightsLimit", "limit", "(IIII)I"⟩ (Cond.code ⟨"RightsLimit", "limit", "(IIII)I"⟩ prog_1_method_4_code 5 (some .int) :: rl_G) { frames := 1, cells := 0, slots := 0, locals := 21 } D rl_cl (rl_tys kI kZ) [] [.ref (a 0), .int jt, .int jk, .int jd, .int jn] (rl_w a kI kZ rl_F0) H0 (fun (r : Int32) => r.toInt = -1) := by
  refine rl_metr (cc := prog_1_method_4_code) (maxL := 5) (ret := (some .int)) (by decide) rfl (Nat.le_of_ble_eq_true rfl) ?_
  intro p e s m below meth c ls hx hb hr hml hown hts hlocks hP hK hS hN hl
  have hown : s.vm.findClass "RightsLimit" = some m.cls := hown
  have hG : ∀ x ∈ rl_G, x.before _ s = true := fun x h => hts x (List.mem_cons_of_mem _ h)
  have hl : lv_has ls 5 [(0, .ref (a 0)), (1, .int jt), (2, .int jk), (3, .int jd), (4, .int jn)] := hl
  refine lv_aload_n hx hb d_x_limit_0 rfl (lv_at hl 0 rfl) ?_
  refine va_get (D := D) (ci := 0) (v := .ref (a 1)) (C := "RightsLimit") (T := fT_x) (N := 8) hx hb hG fi_x hown hK hP 0 rfl rfl 0 (by decide) (hG _ wd_168) (fun _ h9 => h9) rfl d_x_limit_1 ?_
  refine lv_iload_n hx hb d_x_limit_4 rfl (lv_at hl 1 rfl) ?_
  have hpre := rl_BR.pre (av := .ref (a 1) :: [.int jt]) rl_nw0 hP hK hN
  refine rl_callr hS (va_runV (As := [.int jt]) (rest := []) ⟨hx, hb, hml, hown, hG⟩ (k_t_has l D a kI kZ jt _) (cwV 1 hG (rl_gV wd_211 wd_212 wd_213 wd_15 wd_214) rfl rfl rfl (by decide +kernel) ⟨Nat.le_of_ble_eq_true rfl, Nat.le_of_ble_eq_true rfl⟩) ⟨hpre.1, (va_recv hK hP (ci := 1) (q0 := 1) rfl rfl), hpre.2⟩ rfl rfl hl.1 rfl (lv_room (Nat.le_of_ble_eq_true rfl)) d_x_limit_5 ⟨Nat.le_of_ble_eq_true rfl, Nat.le_of_ble_eq_true rfl⟩) (fun r locs hw hS => ?_)
  obtain rfl := hw
  refine lv_if_ne (tgt := 13) hx hb d_x_limit_8 (by decide) (fun c9 => absurd c9 (by decide)) (fun _ => ?_)
  refine lv_iconst (v := (-1)) hx hb d_x_limit_11 (by decide) ?_
  exact W.iret (v := (-1)) hx hb hr (fun t ht hW => ⟨⟨(-1), (), rfl, (show ((-1) : Int32).toInt = -1 by have q9 := rl_nm1; omega), ht⟩, hS.F ht⟩) hS.2.2 d_x_limit_12
set_option maxHeartbeats 4000000 in
set_option maxRecDepth 100000 in
theorem k_x_licence (l : Launch) (D : va_G) (a : Nat → Nat) (kI kZ : ClassId) (jt jk jn ju jv : Int32) (H0 : Heap) : rl_Ri l ⟨"RightsLimit", "licence", "(IIIII)I"⟩ (Cond.code ⟨"RightsLimit", "licence", "(IIIII)I"⟩ prog_1_method_5_code 6 (some .int) :: rl_G) { frames := 1, cells := 0, slots := 0, locals := 21 } D rl_cl (rl_tys kI kZ) [] [.ref (a 0), .int jt, .int jk, .int jn, .int ju, .int jv] (rl_w a kI kZ rl_F0) H0 (fun (r : Int32) => r.toInt = -1) := by
  refine rl_metr (cc := prog_1_method_5_code) (maxL := 6) (ret := (some .int)) (by decide) rfl (Nat.le_of_ble_eq_true rfl) ?_
  intro p e s m below meth c ls hx hb hr hml hown hts hlocks hP hK hS hN hl
  have hown : s.vm.findClass "RightsLimit" = some m.cls := hown
  have hG : ∀ x ∈ rl_G, x.before _ s = true := fun x h => hts x (List.mem_cons_of_mem _ h)
  have hl : lv_has ls 6 [(0, .ref (a 0)), (1, .int jt), (2, .int jk), (3, .int jn), (4, .int ju), (5, .int jv)] := hl
  refine lv_aload_n hx hb d_x_licence_0 rfl (lv_at hl 0 rfl) ?_
  refine va_get (D := D) (ci := 0) (v := .ref (a 1)) (C := "RightsLimit") (T := fT_x) (N := 8) hx hb hG fi_x hown hK hP 0 rfl rfl 0 (by decide) (hG _ wd_168) (fun _ h9 => h9) rfl d_x_licence_1 ?_
  refine lv_iload_n hx hb d_x_licence_4 rfl (lv_at hl 1 rfl) ?_
  have hpre := rl_BR.pre (av := .ref (a 1) :: [.int jt]) rl_nw0 hP hK hN
  refine rl_callr hS (va_runV (As := [.int jt]) (rest := []) ⟨hx, hb, hml, hown, hG⟩ (k_t_has l D a kI kZ jt _) (cwV 1 hG (rl_gV wd_211 wd_212 wd_213 wd_15 wd_214) rfl rfl rfl (by decide +kernel) ⟨Nat.le_of_ble_eq_true rfl, Nat.le_of_ble_eq_true rfl⟩) ⟨hpre.1, (va_recv hK hP (ci := 1) (q0 := 1) rfl rfl), hpre.2⟩ rfl rfl hl.1 rfl (lv_room (Nat.le_of_ble_eq_true rfl)) d_x_licence_5 ⟨Nat.le_of_ble_eq_true rfl, Nat.le_of_ble_eq_true rfl⟩) (fun r locs hw hS => ?_)
  obtain rfl := hw
  refine lv_if_ne (tgt := 13) hx hb d_x_licence_8 (by decide) (fun c9 => absurd c9 (by decide)) (fun _ => ?_)
  refine lv_iconst (v := (-1)) hx hb d_x_licence_11 (by decide) ?_
  exact W.iret (v := (-1)) hx hb hr (fun t ht hW => ⟨⟨(-1), (), rfl, (show ((-1) : Int32).toInt = -1 by have q9 := rl_nm1; omega), ht⟩, hS.F ht⟩) hS.2.2 d_x_licence_12
set_option maxHeartbeats 4000000 in
set_option maxRecDepth 100000 in
theorem k_x_fee (l : Launch) (D : va_G) (a : Nat → Nat) (kI kZ : ClassId) (jp jn : Int32) (sz : Nat) : rl_Ci (S := Nat → Nat → Int32) l ⟨"RightsLimit", "fee", "(II)I"⟩ (Cond.code ⟨"RightsLimit", "fee", "(II)I"⟩ prog_1_method_6_code 3 (some .int) :: rl_G) { frames := 2, cells := 0, slots := 0, locals := 42 } D rl_cl (rl_tys kI kZ) [] [.ref (a 0), .int jp, .int jn] (rl_w a kI kZ rl_F0) sz (fun (r : Int32) (F' : Nat → Nat → Int32) => (((0 ≤ jp.toInt ∧ jp.toInt ≤ 99) ∧ (0 ≤ jn.toInt ∧ jn.toInt ≤ 10000)) ∧ r.toInt = 1) ∨ (¬ ((0 ≤ jp.toInt ∧ jp.toInt ≤ 99) ∧ (0 ≤ jn.toInt ∧ jn.toInt ≤ 10000)) ∧ r.toInt = -2)) (fun F' => rl_w a kI kZ F') 0 0 := by
  refine rl_meti (cc := prog_1_method_6_code) (maxL := 3) (ret := (some .int)) (by decide) rfl (Nat.le_of_ble_eq_true rfl) ?_
  intro p e s m below meth c A ls hx hb hr hml hown hts hlocks hnm hP hK hD hS hA hN hl
  have hown : s.vm.findClass "RightsLimit" = some m.cls := hown
  have hG : ∀ x ∈ rl_G, x.before _ s = true := fun x h => hts x (List.mem_cons_of_mem _ h)
  have hl : lv_has ls 3 [(0, .ref (a 0)), (1, .int jp), (2, .int jn)] := hl
  refine lv_iload_n hx hb d_x_fee_0 rfl (lv_at hl 1 rfl) ?_
  refine rl_callr hS (va_runS (As := [.int jp]) (rest := []) ⟨hx, hb, hml, hown, hG⟩ (k_x_isPublisher l D a kI kZ jp _) (cwS 1 hG (rl_gS wd_197 wd_198 wd_14 wd_199) rfl rfl rfl (by decide +kernel) ⟨Nat.le_of_ble_eq_true rfl, Nat.le_of_ble_eq_true rfl⟩) (rl_BR.pre rl_nw0 rl_P0 hK hN) rfl rfl hl.1 rfl (lv_room (Nat.le_of_ble_eq_true rfl)) d_x_fee_1 ⟨Nat.le_of_ble_eq_true rfl, Nat.le_of_ble_eq_true rfl⟩) (fun r locs hw hS => ?_)
  rcases hw with ⟨rfl, h1⟩ | ⟨rfl, h1⟩
  · refine lv_if_eq (tgt := 18) hx hb d_x_fee_4 (by decide) (fun c9 => absurd c9 (by decide)) (fun _ => ?_)
    refine lv_iload_n hx hb d_x_fee_7 rfl (lv_at hl 2 rfl) ?_
    refine lv_iconst (v := 0) hx hb d_x_fee_8 (by decide) ?_
    refine lv_sipush (v := 10000) hx hb d_x_fee_9 (by decide) ?_
    refine rl_callr hS (va_runS (As := [.int jn, .int 0, .int 10000]) (rest := []) ⟨hx, hb, hml, hown, hG⟩ (k_x_isBetween l D a kI kZ jn 0 10000 _) (cwS 3 hG (rl_gS wd_200 wd_201 wd_14 wd_202) rfl rfl rfl (by decide +kernel) ⟨Nat.le_of_ble_eq_true rfl, Nat.le_of_ble_eq_true rfl⟩) (rl_BR.pre rl_nw0 rl_P0 hK hN) rfl rfl hl.1 rfl (lv_room (Nat.le_of_ble_eq_true rfl)) d_x_fee_12 ⟨Nat.le_of_ble_eq_true rfl, Nat.le_of_ble_eq_true rfl⟩) (fun r locs hw hS => ?_)
    try simp only [rl_n0, rl_n10000] at hw
    rcases hw with ⟨rfl, h2⟩ | ⟨rfl, h2⟩
    · refine lv_if_ne (tgt := 21) hx hb d_x_fee_15 (by decide) (fun _ => ?_) (fun c9 => absurd c9 (by decide))
      refine lv_aload_n hx hb d_x_fee_21 rfl (lv_at hl 0 rfl) ?_
      refine va_get (D := D) (ci := 0) (v := .ref (a 30)) (C := "RightsLimit") (T := fT_x) (N := 8) hx hb hG fi_x hown hK hP 0 rfl rfl 4 (by decide) (hG _ wd_172) (fun _ h9 => h9) rfl d_x_fee_22 ?_
      refine lv_iload_n hx hb d_x_fee_25 rfl (lv_at hl 1 rfl) ?_
      refine lv_iload_n hx hb d_x_fee_26 rfl (lv_at hl 2 rfl) ?_
      refine va_iast hx hb hK hP hD hS 30 0 rfl rfl (rl_in (n := 100) (by omega) (by omega)) d_x_fee_27 (fun H locs hP hD hS => ?_)
      have hP : va_P D rl_cl (rl_w a kI kZ (rl_st rl_F0 25 jp.toNatClampNeg jn)) H := hP
      have hD : va_D A (rl_w a kI kZ (rl_st rl_F0 25 jp.toNatClampNeg jn)) := hD
      refine lv_iconst (v := 1) hx hb d_x_fee_28 (by decide) ?_
      exact W.iret (v := 1) hx hb hr (fun t ht hW => ⟨⟨1, (rl_st rl_F0 25 jp.toNatClampNeg jn), rfl, (show (((0 ≤ jp.toInt ∧ jp.toInt ≤ 99) ∧ (0 ≤ jn.toInt ∧ jn.toInt ≤ 10000)) ∧ (1 : Int32).toInt = 1) ∨ (¬ ((0 ≤ jp.toInt ∧ jp.toInt ≤ 99) ∧ (0 ≤ jn.toInt ∧ jn.toInt ≤ 10000)) ∧ (1 : Int32).toInt = -2) by have q9 := rl_n1; omega), ⟨by rw [ht]; exact hP, hD⟩⟩, hS.F ht⟩) hS.2.2 d_x_fee_29
    · refine lv_if_ne (tgt := 21) hx hb d_x_fee_15 (by decide) (fun c9 => absurd c9 (by decide)) (fun _ => ?_)
      refine lv_bipush (v := (-2)) hx hb d_x_fee_18 (by decide) ?_
      exact W.iret (v := (-2)) hx hb hr (fun t ht hW => ⟨⟨(-2), rl_F0, rfl, (show (((0 ≤ jp.toInt ∧ jp.toInt ≤ 99) ∧ (0 ≤ jn.toInt ∧ jn.toInt ≤ 10000)) ∧ ((-2) : Int32).toInt = 1) ∨ (¬ ((0 ≤ jp.toInt ∧ jp.toInt ≤ 99) ∧ (0 ≤ jn.toInt ∧ jn.toInt ≤ 10000)) ∧ ((-2) : Int32).toInt = -2) by have q9 := rl_nm2; omega), ⟨by rw [ht]; exact hP, hD⟩⟩, hS.F ht⟩) hS.2.2 d_x_fee_20
  · refine lv_if_eq (tgt := 18) hx hb d_x_fee_4 (by decide) (fun _ => ?_) (fun c9 => absurd c9 (by decide))
    refine lv_bipush (v := (-2)) hx hb d_x_fee_18 (by decide) ?_
    exact W.iret (v := (-2)) hx hb hr (fun t ht hW => ⟨⟨(-2), rl_F0, rfl, (show (((0 ≤ jp.toInt ∧ jp.toInt ≤ 99) ∧ (0 ≤ jn.toInt ∧ jn.toInt ≤ 10000)) ∧ ((-2) : Int32).toInt = 1) ∨ (¬ ((0 ≤ jp.toInt ∧ jp.toInt ≤ 99) ∧ (0 ≤ jn.toInt ∧ jn.toInt ≤ 10000)) ∧ ((-2) : Int32).toInt = -2) by have q9 := rl_nm2; omega), ⟨by rw [ht]; exact hP, hD⟩⟩, hS.F ht⟩) hS.2.2 d_x_fee_20
set_option maxHeartbeats 4000000 in
set_option maxRecDepth 100000 in
theorem k_x_ask (l : Launch) (D : va_G) (a : Nat → Nat) (kI kZ : ClassId) (jn jt jk jg ju : Int32) (H0 : Heap) : rl_Ri l ⟨"RightsLimit", "ask", "(IIIII)I"⟩ (Cond.code ⟨"RightsLimit", "ask", "(IIIII)I"⟩ prog_1_method_7_code 7 (some .int) :: rl_G) { frames := 1, cells := 0, slots := 0, locals := 21 } D rl_cl (rl_tys kI kZ) [] [.ref (a 0), .int jn, .int jt, .int jk, .int jg, .int ju] (rl_w a kI kZ rl_F0) H0 (fun (r : Int32) => r.toInt = -1) := by
  refine rl_metr (cc := prog_1_method_7_code) (maxL := 7) (ret := (some .int)) (by decide) rfl (Nat.le_of_ble_eq_true rfl) ?_
  intro p e s m below meth c ls hx hb hr hml hown hts hlocks hP hK hS hN hl
  have hown : s.vm.findClass "RightsLimit" = some m.cls := hown
  have hG : ∀ x ∈ rl_G, x.before _ s = true := fun x h => hts x (List.mem_cons_of_mem _ h)
  have hl : lv_has ls 7 [(0, .ref (a 0)), (1, .int jn), (2, .int jt), (3, .int jk), (4, .int jg), (5, .int ju)] := hl
  refine lv_aload_n hx hb d_x_ask_0 rfl (lv_at hl 0 rfl) ?_
  refine va_get (D := D) (ci := 0) (v := .ref (a 1)) (C := "RightsLimit") (T := fT_x) (N := 8) hx hb hG fi_x hown hK hP 0 rfl rfl 0 (by decide) (hG _ wd_168) (fun _ h9 => h9) rfl d_x_ask_1 ?_
  refine lv_iload_n hx hb d_x_ask_4 rfl (lv_at hl 2 rfl) ?_
  have hpre := rl_BR.pre (av := .ref (a 1) :: [.int jt]) rl_nw0 hP hK hN
  refine rl_callr hS (va_runV (As := [.int jt]) (rest := []) ⟨hx, hb, hml, hown, hG⟩ (k_t_has l D a kI kZ jt _) (cwV 1 hG (rl_gV wd_211 wd_212 wd_213 wd_15 wd_214) rfl rfl rfl (by decide +kernel) ⟨Nat.le_of_ble_eq_true rfl, Nat.le_of_ble_eq_true rfl⟩) ⟨hpre.1, (va_recv hK hP (ci := 1) (q0 := 1) rfl rfl), hpre.2⟩ rfl rfl hl.1 rfl (lv_room (Nat.le_of_ble_eq_true rfl)) d_x_ask_5 ⟨Nat.le_of_ble_eq_true rfl, Nat.le_of_ble_eq_true rfl⟩) (fun r locs hw hS => ?_)
  obtain rfl := hw
  refine lv_if_ne (tgt := 13) hx hb d_x_ask_8 (by decide) (fun c9 => absurd c9 (by decide)) (fun _ => ?_)
  refine lv_iconst (v := (-1)) hx hb d_x_ask_11 (by decide) ?_
  exact W.iret (v := (-1)) hx hb hr (fun t ht hW => ⟨⟨(-1), (), rfl, (show ((-1) : Int32).toInt = -1 by have q9 := rl_nm1; omega), ht⟩, hS.F ht⟩) hS.2.2 d_x_ask_12
set_option maxHeartbeats 4000000 in
set_option maxRecDepth 100000 in
theorem k_x_why (l : Launch) (D : va_G) (a : Nat → Nat) (kI kZ : ClassId) (H0 : Heap) : rl_Ri l ⟨"RightsLimit", "why", "()I"⟩ (Cond.code ⟨"RightsLimit", "why", "()I"⟩ prog_1_method_8_code 1 (some .int) :: rl_G) { frames := 0, cells := 0, slots := 0, locals := 0 } D rl_cl (rl_tys kI kZ) [] [.ref (a 0)] (rl_w a kI kZ rl_F0) H0 (fun (r : Int32) => r.toInt = -1) := by
  refine rl_metr (cc := prog_1_method_8_code) (maxL := 1) (ret := (some .int)) (by decide) rfl (Nat.le_of_ble_eq_true rfl) ?_
  intro p e s m below meth c ls hx hb hr hml hown hts hlocks hP hK hS hN hl
  have hown : s.vm.findClass "RightsLimit" = some m.cls := hown
  have hG : ∀ x ∈ rl_G, x.before _ s = true := fun x h => hts x (List.mem_cons_of_mem _ h)
  have hl : lv_has ls 1 [(0, .ref (a 0))] := hl
  refine lv_aload_n hx hb d_x_why_0 rfl (lv_at hl 0 rfl) ?_
  refine va_get (D := D) (ci := 0) (v := .int (-1)) (C := "RightsLimit") (T := fT_x) (N := 8) hx hb hG fi_x hown hK hP 0 rfl rfl 7 (by decide) (hG _ wd_175) (fun _ h9 => h9) rfl d_x_why_1 ?_
  exact W.iret (v := (-1)) hx hb hr (fun t ht hW => ⟨⟨(-1), (), rfl, (show ((-1) : Int32).toInt = -1 by have q9 := rl_nm1; omega), ht⟩, hS.F ht⟩) hS.2.2 d_x_why_4
set_option maxHeartbeats 4000000 in
set_option maxRecDepth 100000 in
theorem k_x_give (l : Launch) (D : va_G) (a : Nat → Nat) (kI kZ : ClassId) (jn jg jb : Int32) (sz : Nat) : rl_Ci (S := Nat → Nat → Int32) l ⟨"RightsLimit", "give", "(IIZ)I"⟩ (Cond.code ⟨"RightsLimit", "give", "(IIZ)I"⟩ prog_1_method_9_code 5 (some .int) :: rl_G) { frames := 2, cells := 0, slots := 0, locals := 42 } D rl_cl (rl_tys kI kZ) [] [.ref (a 0), .int jn, .int jg, .int jb] (rl_w a kI kZ rl_F0) sz (fun (r : Int32) (F' : Nat → Nat → Int32) => (((0 ≤ jn.toInt ∧ jn.toInt ≤ 99) ∧ (1 ≤ jg.toInt ∧ jg.toInt ≤ 9)) ∧ r.toInt = 1) ∨ (¬ ((0 ≤ jn.toInt ∧ jn.toInt ≤ 99) ∧ (1 ≤ jg.toInt ∧ jg.toInt ≤ 9)) ∧ r.toInt = -2)) (fun F' => rl_w a kI kZ F') 0 0 := by
  refine rl_meti (cc := prog_1_method_9_code) (maxL := 5) (ret := (some .int)) (by decide) rfl (Nat.le_of_ble_eq_true rfl) ?_
  intro p e s m below meth c A ls hx hb hr hml hown hts hlocks hnm hP hK hD hS hA hN hl
  have hown : s.vm.findClass "RightsLimit" = some m.cls := hown
  have hG : ∀ x ∈ rl_G, x.before _ s = true := fun x h => hts x (List.mem_cons_of_mem _ h)
  have hl : lv_has ls 5 [(0, .ref (a 0)), (1, .int jn), (2, .int jg), (3, .int jb)] := hl
  refine lv_iload_n hx hb d_x_give_0 rfl (lv_at hl 1 rfl) ?_
  refine rl_callr hS (va_runS (As := [.int jn]) (rest := []) ⟨hx, hb, hml, hown, hG⟩ (k_x_isPerson l D a kI kZ jn _) (cwS 1 hG (rl_gS wd_252 wd_253 wd_14 wd_254) rfl rfl rfl (by decide +kernel) ⟨Nat.le_of_ble_eq_true rfl, Nat.le_of_ble_eq_true rfl⟩) (rl_BR.pre rl_nw0 rl_P0 hK hN) rfl rfl hl.1 rfl (lv_room (Nat.le_of_ble_eq_true rfl)) d_x_give_1 ⟨Nat.le_of_ble_eq_true rfl, Nat.le_of_ble_eq_true rfl⟩) (fun r locs hw hS => ?_)
  rcases hw with ⟨rfl, h1⟩ | ⟨rfl, h1⟩
  · refine lv_if_eq (tgt := 17) hx hb d_x_give_4 (by decide) (fun c9 => absurd c9 (by decide)) (fun _ => ?_)
    refine lv_iload_n hx hb d_x_give_7 rfl (lv_at hl 2 rfl) ?_
    refine lv_iconst (v := 1) hx hb d_x_give_8 (by decide) ?_
    refine lv_bipush (v := 9) hx hb d_x_give_9 (by decide) ?_
    refine rl_callr hS (va_runS (As := [.int jg, .int 1, .int 9]) (rest := []) ⟨hx, hb, hml, hown, hG⟩ (k_x_isBetween l D a kI kZ jg 1 9 _) (cwS 3 hG (rl_gS wd_200 wd_201 wd_14 wd_202) rfl rfl rfl (by decide +kernel) ⟨Nat.le_of_ble_eq_true rfl, Nat.le_of_ble_eq_true rfl⟩) (rl_BR.pre rl_nw0 rl_P0 hK hN) rfl rfl hl.1 rfl (lv_room (Nat.le_of_ble_eq_true rfl)) d_x_give_11 ⟨Nat.le_of_ble_eq_true rfl, Nat.le_of_ble_eq_true rfl⟩) (fun r locs hw hS => ?_)
    try simp only [rl_n1, rl_n9] at hw
    rcases hw with ⟨rfl, h2⟩ | ⟨rfl, h2⟩
    · refine lv_if_ne (tgt := 20) hx hb d_x_give_14 (by decide) (fun _ => ?_) (fun c9 => absurd c9 (by decide))
      refine lv_iconst (v := 1) hx hb d_x_give_20 (by decide) ?_
      refine lv_iload_n hx hb d_x_give_21 rfl (lv_at hl 2 rfl) ?_
      refine lv_ishl hx hb d_x_give_22 ?_
      refine lv_topi (fun v3 ev3 => ?_)
      refine lv_istore (lv' := [(4, .int v3), (0, .ref (a 0)), (1, .int jn), (2, .int jg), (3, .int jb)]) hx hb d_x_give_23 hl (by decide) rfl (fun ls hl => ?_)
      refine lv_iload_n hx hb d_x_give_25 rfl (lv_at hl 4 rfl) ?_
      refine lv_if_eq (tgt := 43) hx hb d_x_give_26 (by decide) (fun c4 => ?_) (fun c4 => ?_)
      · have ic4 := rl_ieq c4
        simp only [rl_n0] at ic4
        refine lv_aload_n hx hb d_x_give_43 rfl (lv_at hl 1 rfl) ?_
        refine va_get (D := D) (ci := 0) (v := .ref (a 31)) (C := "RightsLimit") (T := fT_x) (N := 8) hx hb hG fi_x hown hK hP 0 rfl rfl 5 (by decide) (hG _ wd_173) (fun _ h9 => h9) rfl d_x_give_44 ?_
        refine lv_iload_n hx hb d_x_give_47 rfl (lv_at hl 2 rfl) ?_
        refine lv_dup2_11 hx hb d_x_give_48 rfl rfl ?_
        refine va_iald hx hb hK hP 31 0 rfl rfl (rl_in (n := 100) (by omega) (by omega)) d_x_give_49 ?_
        refine lv_topi (fun v5 ev5 => ?_)
        refine lv_iload hx hb d_x_give_50 (lv_at hl 0 rfl) ?_
        refine lv_iconst (v := (-1)) hx hb d_x_give_52 (by decide) ?_
        refine lv_ixor hx hb d_x_give_53 ?_
        refine lv_topi (fun v6 ev6 => ?_)
        refine lv_iand hx hb d_x_give_54 ?_
        refine lv_topi (fun v7 ev7 => ?_)
        refine va_iast hx hb hK hP hD hS 31 0 rfl rfl (rl_in (n := 100) (by omega) (by omega)) d_x_give_55 (fun H locs hP hD hS => ?_)
        have hP : va_P D rl_cl (rl_w a kI kZ (rl_st rl_F0 26 jn.toNatClampNeg v7)) H := hP
        have hD : va_D A (rl_w a kI kZ (rl_st rl_F0 26 jn.toNatClampNeg v7)) := hD
        refine lv_iconst (v := 1) hx hb d_x_give_56 (by decide) ?_
        exact W.iret (v := 1) hx hb hr (fun t ht hW => ⟨⟨1, (rl_st rl_F0 26 jn.toNatClampNeg v7), rfl, (show (((0 ≤ jn.toInt ∧ jn.toInt ≤ 99) ∧ (1 ≤ jg.toInt ∧ jg.toInt ≤ 9)) ∧ (1 : Int32).toInt = 1) ∨ (¬ ((0 ≤ jn.toInt ∧ jn.toInt ≤ 99) ∧ (1 ≤ jg.toInt ∧ jg.toInt ≤ 9)) ∧ (1 : Int32).toInt = -2) by have q9 := rl_n1; omega), ⟨by rw [ht]; exact hP, hD⟩⟩, hS.F ht⟩) hS.2.2 d_x_give_57
      · have ic4 := rl_ine c4
        simp only [rl_n0] at ic4
        refine lv_aload_n hx hb d_x_give_29 rfl (lv_at hl 1 rfl) ?_
        refine va_get (D := D) (ci := 0) (v := .ref (a 31)) (C := "RightsLimit") (T := fT_x) (N := 8) hx hb hG fi_x hown hK hP 0 rfl rfl 5 (by decide) (hG _ wd_173) (fun _ h9 => h9) rfl d_x_give_30 ?_
        refine lv_iload_n hx hb d_x_give_33 rfl (lv_at hl 2 rfl) ?_
        refine lv_dup2_11 hx hb d_x_give_34 rfl rfl ?_
        refine va_iald hx hb hK hP 31 0 rfl rfl (rl_in (n := 100) (by omega) (by omega)) d_x_give_35 ?_
        refine lv_topi (fun v8 ev8 => ?_)
        refine lv_iload hx hb d_x_give_36 (lv_at hl 0 rfl) ?_
        refine lv_ior hx hb d_x_give_38 ?_
        refine lv_topi (fun v9 ev9 => ?_)
        refine va_iast hx hb hK hP hD hS 31 0 rfl rfl (rl_in (n := 100) (by omega) (by omega)) d_x_give_39 (fun H locs hP hD hS => ?_)
        have hP : va_P D rl_cl (rl_w a kI kZ (rl_st rl_F0 26 jn.toNatClampNeg v9)) H := hP
        have hD : va_D A (rl_w a kI kZ (rl_st rl_F0 26 jn.toNatClampNeg v9)) := hD
        refine lv_goto (tgt := 56) hx hb d_x_give_40 (by decide) ?_
        refine lv_iconst (v := 1) hx hb d_x_give_56 (by decide) ?_
        exact W.iret (v := 1) hx hb hr (fun t ht hW => ⟨⟨1, (rl_st rl_F0 26 jn.toNatClampNeg v9), rfl, (show (((0 ≤ jn.toInt ∧ jn.toInt ≤ 99) ∧ (1 ≤ jg.toInt ∧ jg.toInt ≤ 9)) ∧ (1 : Int32).toInt = 1) ∨ (¬ ((0 ≤ jn.toInt ∧ jn.toInt ≤ 99) ∧ (1 ≤ jg.toInt ∧ jg.toInt ≤ 9)) ∧ (1 : Int32).toInt = -2) by have q9 := rl_n1; omega), ⟨by rw [ht]; exact hP, hD⟩⟩, hS.F ht⟩) hS.2.2 d_x_give_57
    · refine lv_if_ne (tgt := 20) hx hb d_x_give_14 (by decide) (fun c9 => absurd c9 (by decide)) (fun _ => ?_)
      refine lv_bipush (v := (-2)) hx hb d_x_give_17 (by decide) ?_
      exact W.iret (v := (-2)) hx hb hr (fun t ht hW => ⟨⟨(-2), rl_F0, rfl, (show (((0 ≤ jn.toInt ∧ jn.toInt ≤ 99) ∧ (1 ≤ jg.toInt ∧ jg.toInt ≤ 9)) ∧ ((-2) : Int32).toInt = 1) ∨ (¬ ((0 ≤ jn.toInt ∧ jn.toInt ≤ 99) ∧ (1 ≤ jg.toInt ∧ jg.toInt ≤ 9)) ∧ ((-2) : Int32).toInt = -2) by have q9 := rl_nm2; omega), ⟨by rw [ht]; exact hP, hD⟩⟩, hS.F ht⟩) hS.2.2 d_x_give_19
  · refine lv_if_eq (tgt := 17) hx hb d_x_give_4 (by decide) (fun _ => ?_) (fun c9 => absurd c9 (by decide))
    refine lv_bipush (v := (-2)) hx hb d_x_give_17 (by decide) ?_
    exact W.iret (v := (-2)) hx hb hr (fun t ht hW => ⟨⟨(-2), rl_F0, rfl, (show (((0 ≤ jn.toInt ∧ jn.toInt ≤ 99) ∧ (1 ≤ jg.toInt ∧ jg.toInt ≤ 9)) ∧ ((-2) : Int32).toInt = 1) ∨ (¬ ((0 ≤ jn.toInt ∧ jn.toInt ≤ 99) ∧ (1 ≤ jg.toInt ∧ jg.toInt ≤ 9)) ∧ ((-2) : Int32).toInt = -2) by have q9 := rl_nm2; omega), ⟨by rw [ht]; exact hP, hD⟩⟩, hS.F ht⟩) hS.2.2 d_x_give_19
set_option maxHeartbeats 4000000 in
set_option maxRecDepth 100000 in
theorem k_x_right (l : Launch) (D : va_G) (a : Nat → Nat) (kI kZ : ClassId) (jt jg : Int32) (H0 : Heap) : rl_Ri l ⟨"RightsLimit", "right", "(II)I"⟩ (Cond.code ⟨"RightsLimit", "right", "(II)I"⟩ prog_1_method_10_code 3 (some .int) :: rl_G) { frames := 1, cells := 0, slots := 0, locals := 21 } D rl_cl (rl_tys kI kZ) [] [.ref (a 0), .int jt, .int jg] (rl_w a kI kZ rl_F0) H0 (fun (r : Int32) => r.toInt = -1) := by
  refine rl_metr (cc := prog_1_method_10_code) (maxL := 3) (ret := (some .int)) (by decide) rfl (Nat.le_of_ble_eq_true rfl) ?_
  intro p e s m below meth c ls hx hb hr hml hown hts hlocks hP hK hS hN hl
  have hown : s.vm.findClass "RightsLimit" = some m.cls := hown
  have hG : ∀ x ∈ rl_G, x.before _ s = true := fun x h => hts x (List.mem_cons_of_mem _ h)
  have hl : lv_has ls 3 [(0, .ref (a 0)), (1, .int jt), (2, .int jg)] := hl
  refine lv_aload_n hx hb d_x_right_0 rfl (lv_at hl 0 rfl) ?_
  refine va_get (D := D) (ci := 0) (v := .ref (a 1)) (C := "RightsLimit") (T := fT_x) (N := 8) hx hb hG fi_x hown hK hP 0 rfl rfl 0 (by decide) (hG _ wd_168) (fun _ h9 => h9) rfl d_x_right_1 ?_
  refine lv_iload_n hx hb d_x_right_4 rfl (lv_at hl 1 rfl) ?_
  have hpre := rl_BR.pre (av := .ref (a 1) :: [.int jt]) rl_nw0 hP hK hN
  refine rl_callr hS (va_runV (As := [.int jt]) (rest := []) ⟨hx, hb, hml, hown, hG⟩ (k_t_has l D a kI kZ jt _) (cwV 1 hG (rl_gV wd_211 wd_212 wd_213 wd_15 wd_214) rfl rfl rfl (by decide +kernel) ⟨Nat.le_of_ble_eq_true rfl, Nat.le_of_ble_eq_true rfl⟩) ⟨hpre.1, (va_recv hK hP (ci := 1) (q0 := 1) rfl rfl), hpre.2⟩ rfl rfl hl.1 rfl (lv_room (Nat.le_of_ble_eq_true rfl)) d_x_right_5 ⟨Nat.le_of_ble_eq_true rfl, Nat.le_of_ble_eq_true rfl⟩) (fun r locs hw hS => ?_)
  obtain rfl := hw
  refine lv_if_ne (tgt := 13) hx hb d_x_right_8 (by decide) (fun c9 => absurd c9 (by decide)) (fun _ => ?_)
  refine lv_iconst (v := (-1)) hx hb d_x_right_11 (by decide) ?_
  exact W.iret (v := (-1)) hx hb hr (fun t ht hW => ⟨⟨(-1), (), rfl, (show ((-1) : Int32).toInt = -1 by have q9 := rl_nm1; omega), ht⟩, hS.F ht⟩) hS.2.2 d_x_right_12
set_option maxHeartbeats 4000000 in
set_option maxRecDepth 100000 in
theorem k_x_waive (l : Launch) (D : va_G) (a : Nat → Nat) (kI kZ : ClassId) (jt jn : Int32) (H0 : Heap) : rl_Ri l ⟨"RightsLimit", "waive", "(II)I"⟩ (Cond.code ⟨"RightsLimit", "waive", "(II)I"⟩ prog_1_method_11_code 3 (some .int) :: rl_G) { frames := 1, cells := 0, slots := 0, locals := 21 } D rl_cl (rl_tys kI kZ) [] [.ref (a 0), .int jt, .int jn] (rl_w a kI kZ rl_F0) H0 (fun (r : Int32) => r.toInt = -1) := by
  refine rl_metr (cc := prog_1_method_11_code) (maxL := 3) (ret := (some .int)) (by decide) rfl (Nat.le_of_ble_eq_true rfl) ?_
  intro p e s m below meth c ls hx hb hr hml hown hts hlocks hP hK hS hN hl
  have hown : s.vm.findClass "RightsLimit" = some m.cls := hown
  have hG : ∀ x ∈ rl_G, x.before _ s = true := fun x h => hts x (List.mem_cons_of_mem _ h)
  have hl : lv_has ls 3 [(0, .ref (a 0)), (1, .int jt), (2, .int jn)] := hl
  refine lv_aload_n hx hb d_x_waive_0 rfl (lv_at hl 0 rfl) ?_
  refine va_get (D := D) (ci := 0) (v := .ref (a 1)) (C := "RightsLimit") (T := fT_x) (N := 8) hx hb hG fi_x hown hK hP 0 rfl rfl 0 (by decide) (hG _ wd_168) (fun _ h9 => h9) rfl d_x_waive_1 ?_
  refine lv_iload_n hx hb d_x_waive_4 rfl (lv_at hl 1 rfl) ?_
  have hpre := rl_BR.pre (av := .ref (a 1) :: [.int jt]) rl_nw0 hP hK hN
  refine rl_callr hS (va_runV (As := [.int jt]) (rest := []) ⟨hx, hb, hml, hown, hG⟩ (k_t_has l D a kI kZ jt _) (cwV 1 hG (rl_gV wd_211 wd_212 wd_213 wd_15 wd_214) rfl rfl rfl (by decide +kernel) ⟨Nat.le_of_ble_eq_true rfl, Nat.le_of_ble_eq_true rfl⟩) ⟨hpre.1, (va_recv hK hP (ci := 1) (q0 := 1) rfl rfl), hpre.2⟩ rfl rfl hl.1 rfl (lv_room (Nat.le_of_ble_eq_true rfl)) d_x_waive_5 ⟨Nat.le_of_ble_eq_true rfl, Nat.le_of_ble_eq_true rfl⟩) (fun r locs hw hS => ?_)
  obtain rfl := hw
  refine lv_if_ne (tgt := 13) hx hb d_x_waive_8 (by decide) (fun c9 => absurd c9 (by decide)) (fun _ => ?_)
  refine lv_iconst (v := (-1)) hx hb d_x_waive_11 (by decide) ?_
  exact W.iret (v := (-1)) hx hb hr (fun t ht hW => ⟨⟨(-1), (), rfl, (show ((-1) : Int32).toInt = -1 by have q9 := rl_nm1; omega), ht⟩, hS.F ht⟩) hS.2.2 d_x_waive_12
set_option maxHeartbeats 4000000 in
set_option maxRecDepth 100000 in
theorem k_x_renew (l : Launch) (D : va_G) (a : Nat → Nat) (kI kZ : ClassId) (jn jt : Int32) (H0 : Heap) : rl_Ri l ⟨"RightsLimit", "renew", "(II)I"⟩ (Cond.code ⟨"RightsLimit", "renew", "(II)I"⟩ prog_1_method_12_code 3 (some .int) :: rl_G) { frames := 1, cells := 0, slots := 0, locals := 21 } D rl_cl (rl_tys kI kZ) [] [.ref (a 0), .int jn, .int jt] (rl_w a kI kZ rl_F0) H0 (fun (r : Int32) => r.toInt = -1) := by
  refine rl_metr (cc := prog_1_method_12_code) (maxL := 3) (ret := (some .int)) (by decide) rfl (Nat.le_of_ble_eq_true rfl) ?_
  intro p e s m below meth c ls hx hb hr hml hown hts hlocks hP hK hS hN hl
  have hown : s.vm.findClass "RightsLimit" = some m.cls := hown
  have hG : ∀ x ∈ rl_G, x.before _ s = true := fun x h => hts x (List.mem_cons_of_mem _ h)
  have hl : lv_has ls 3 [(0, .ref (a 0)), (1, .int jn), (2, .int jt)] := hl
  refine lv_aload_n hx hb d_x_renew_0 rfl (lv_at hl 0 rfl) ?_
  refine va_get (D := D) (ci := 0) (v := .ref (a 4)) (C := "RightsLimit") (T := fT_x) (N := 8) hx hb hG fi_x hown hK hP 0 rfl rfl 3 (by decide) (hG _ wd_171) (fun _ h9 => h9) rfl d_x_renew_1 ?_
  refine lv_iload_n hx hb d_x_renew_4 rfl (lv_at hl 1 rfl) ?_
  have hpre := rl_BR.pre (av := .ref (a 4) :: [.int jn]) rl_nw0 hP hK hN
  refine rl_callr hS (va_runV (As := [.int jn]) (rest := []) ⟨hx, hb, hml, hown, hG⟩ (k_q_has l D a kI kZ jn _) (cwV 1 hG (rl_gV wd_331 wd_332 wd_333 wd_18 wd_334) rfl rfl rfl (by decide +kernel) ⟨Nat.le_of_ble_eq_true rfl, Nat.le_of_ble_eq_true rfl⟩) ⟨hpre.1, (va_recv hK hP (ci := 4) (q0 := 4) rfl rfl), hpre.2⟩ rfl rfl hl.1 rfl (lv_room (Nat.le_of_ble_eq_true rfl)) d_x_renew_5 ⟨Nat.le_of_ble_eq_true rfl, Nat.le_of_ble_eq_true rfl⟩) (fun r locs hw hS => ?_)
  obtain rfl := hw
  refine lv_if_ne (tgt := 13) hx hb d_x_renew_8 (by decide) (fun c9 => absurd c9 (by decide)) (fun _ => ?_)
  refine lv_iconst (v := (-1)) hx hb d_x_renew_11 (by decide) ?_
  exact W.iret (v := (-1)) hx hb hr (fun t ht hW => ⟨⟨(-1), (), rfl, (show ((-1) : Int32).toInt = -1 by have q9 := rl_nm1; omega), ht⟩, hS.F ht⟩) hS.2.2 d_x_renew_12
set_option maxHeartbeats 4000000 in
set_option maxRecDepth 100000 in
theorem k_x_delete (l : Launch) (D : va_G) (a : Nat → Nat) (kI kZ : ClassId) (jn jt : Int32) (H0 : Heap) : rl_Ri l ⟨"RightsLimit", "delete", "(II)I"⟩ (Cond.code ⟨"RightsLimit", "delete", "(II)I"⟩ prog_1_method_13_code 3 (some .int) :: rl_G) { frames := 1, cells := 0, slots := 0, locals := 21 } D rl_cl (rl_tys kI kZ) [] [.ref (a 0), .int jn, .int jt] (rl_w a kI kZ rl_F0) H0 (fun (r : Int32) => r.toInt = -1) := by
  refine rl_metr (cc := prog_1_method_13_code) (maxL := 3) (ret := (some .int)) (by decide) rfl (Nat.le_of_ble_eq_true rfl) ?_
  intro p e s m below meth c ls hx hb hr hml hown hts hlocks hP hK hS hN hl
  have hown : s.vm.findClass "RightsLimit" = some m.cls := hown
  have hG : ∀ x ∈ rl_G, x.before _ s = true := fun x h => hts x (List.mem_cons_of_mem _ h)
  have hl : lv_has ls 3 [(0, .ref (a 0)), (1, .int jn), (2, .int jt)] := hl
  refine lv_aload_n hx hb d_x_delete_0 rfl (lv_at hl 0 rfl) ?_
  refine va_get (D := D) (ci := 0) (v := .ref (a 4)) (C := "RightsLimit") (T := fT_x) (N := 8) hx hb hG fi_x hown hK hP 0 rfl rfl 3 (by decide) (hG _ wd_171) (fun _ h9 => h9) rfl d_x_delete_1 ?_
  refine lv_iload_n hx hb d_x_delete_4 rfl (lv_at hl 1 rfl) ?_
  have hpre := rl_BR.pre (av := .ref (a 4) :: [.int jn]) rl_nw0 hP hK hN
  refine rl_callr hS (va_runV (As := [.int jn]) (rest := []) ⟨hx, hb, hml, hown, hG⟩ (k_q_has l D a kI kZ jn _) (cwV 1 hG (rl_gV wd_331 wd_332 wd_333 wd_18 wd_334) rfl rfl rfl (by decide +kernel) ⟨Nat.le_of_ble_eq_true rfl, Nat.le_of_ble_eq_true rfl⟩) ⟨hpre.1, (va_recv hK hP (ci := 4) (q0 := 4) rfl rfl), hpre.2⟩ rfl rfl hl.1 rfl (lv_room (Nat.le_of_ble_eq_true rfl)) d_x_delete_5 ⟨Nat.le_of_ble_eq_true rfl, Nat.le_of_ble_eq_true rfl⟩) (fun r locs hw hS => ?_)
  obtain rfl := hw
  refine lv_if_ne (tgt := 13) hx hb d_x_delete_8 (by decide) (fun c9 => absurd c9 (by decide)) (fun _ => ?_)
  refine lv_iconst (v := (-1)) hx hb d_x_delete_11 (by decide) ?_
  exact W.iret (v := (-1)) hx hb hr (fun t ht hW => ⟨⟨(-1), (), rfl, (show ((-1) : Int32).toInt = -1 by have q9 := rl_nm1; omega), ht⟩, hS.F ht⟩) hS.2.2 d_x_delete_12
set_option maxHeartbeats 4000000 in
set_option maxRecDepth 100000 in
theorem k_x_counted (l : Launch) (D : va_G) (a : Nat → Nat) (kI kZ : ClassId) (jt jk jd ju : Int32) (H0 : Heap) : rl_Ri l ⟨"RightsLimit", "counted", "(IIII)I"⟩ (Cond.code ⟨"RightsLimit", "counted", "(IIII)I"⟩ prog_1_method_14_code 5 (some .int) :: rl_G) { frames := 1, cells := 0, slots := 0, locals := 21 } D rl_cl (rl_tys kI kZ) [] [.ref (a 0), .int jt, .int jk, .int jd, .int ju] (rl_w a kI kZ rl_F0) H0 (fun (r : Int32) => r.toInt = -1) := by
  refine rl_metr (cc := prog_1_method_14_code) (maxL := 5) (ret := (some .int)) (by decide) rfl (Nat.le_of_ble_eq_true rfl) ?_
  intro p e s m below meth c ls hx hb hr hml hown hts hlocks hP hK hS hN hl
  have hown : s.vm.findClass "RightsLimit" = some m.cls := hown
  have hG : ∀ x ∈ rl_G, x.before _ s = true := fun x h => hts x (List.mem_cons_of_mem _ h)
  have hl : lv_has ls 5 [(0, .ref (a 0)), (1, .int jt), (2, .int jk), (3, .int jd), (4, .int ju)] := hl
  refine lv_aload_n hx hb d_x_counted_0 rfl (lv_at hl 0 rfl) ?_
  refine va_get (D := D) (ci := 0) (v := .ref (a 1)) (C := "RightsLimit") (T := fT_x) (N := 8) hx hb hG fi_x hown hK hP 0 rfl rfl 0 (by decide) (hG _ wd_168) (fun _ h9 => h9) rfl d_x_counted_1 ?_
  refine lv_iload_n hx hb d_x_counted_4 rfl (lv_at hl 1 rfl) ?_
  have hpre := rl_BR.pre (av := .ref (a 1) :: [.int jt]) rl_nw0 hP hK hN
  refine rl_callr hS (va_runV (As := [.int jt]) (rest := []) ⟨hx, hb, hml, hown, hG⟩ (k_t_has l D a kI kZ jt _) (cwV 1 hG (rl_gV wd_211 wd_212 wd_213 wd_15 wd_214) rfl rfl rfl (by decide +kernel) ⟨Nat.le_of_ble_eq_true rfl, Nat.le_of_ble_eq_true rfl⟩) ⟨hpre.1, (va_recv hK hP (ci := 1) (q0 := 1) rfl rfl), hpre.2⟩ rfl rfl hl.1 rfl (lv_room (Nat.le_of_ble_eq_true rfl)) d_x_counted_5 ⟨Nat.le_of_ble_eq_true rfl, Nat.le_of_ble_eq_true rfl⟩) (fun r locs hw hS => ?_)
  obtain rfl := hw
  refine lv_if_ne (tgt := 13) hx hb d_x_counted_8 (by decide) (fun c9 => absurd c9 (by decide)) (fun _ => ?_)
  refine lv_iconst (v := (-1)) hx hb d_x_counted_11 (by decide) ?_
  exact W.iret (v := (-1)) hx hb hr (fun t ht hW => ⟨⟨(-1), (), rfl, (show ((-1) : Int32).toInt = -1 by have q9 := rl_nm1; omega), ht⟩, hS.F ht⟩) hS.2.2 d_x_counted_12
set_option maxHeartbeats 4000000 in
set_option maxRecDepth 100000 in
theorem k_x_left (l : Launch) (D : va_G) (a : Nat → Nat) (kI kZ : ClassId) (jn : Int32) (H0 : Heap) : rl_Ri l ⟨"RightsLimit", "left", "(I)I"⟩ (Cond.code ⟨"RightsLimit", "left", "(I)I"⟩ prog_1_method_16_code 2 (some .int) :: rl_G) { frames := 1, cells := 0, slots := 0, locals := 21 } D rl_cl (rl_tys kI kZ) [] [.ref (a 0), .int jn] (rl_w a kI kZ rl_F0) H0 (fun (r : Int32) => r.toInt = -1) := by
  refine rl_metr (cc := prog_1_method_16_code) (maxL := 2) (ret := (some .int)) (by decide) rfl (Nat.le_of_ble_eq_true rfl) ?_
  intro p e s m below meth c ls hx hb hr hml hown hts hlocks hP hK hS hN hl
  have hown : s.vm.findClass "RightsLimit" = some m.cls := hown
  have hG : ∀ x ∈ rl_G, x.before _ s = true := fun x h => hts x (List.mem_cons_of_mem _ h)
  have hl : lv_has ls 2 [(0, .ref (a 0)), (1, .int jn)] := hl
  refine lv_aload_n hx hb d_x_left_0 rfl (lv_at hl 0 rfl) ?_
  refine va_get (D := D) (ci := 0) (v := .ref (a 3)) (C := "RightsLimit") (T := fT_x) (N := 8) hx hb hG fi_x hown hK hP 0 rfl rfl 2 (by decide) (hG _ wd_170) (fun _ h9 => h9) rfl d_x_left_1 ?_
  refine lv_iload_n hx hb d_x_left_4 rfl (lv_at hl 1 rfl) ?_
  have hpre := rl_BR.pre (av := .ref (a 3) :: [.int jn]) rl_nw0 hP hK hN
  refine rl_callr hS (va_runV (As := [.int jn]) (rest := []) ⟨hx, hb, hml, hown, hG⟩ (k_c_has l D a kI kZ jn _) (cwV 1 hG (rl_gV wd_366 wd_367 wd_368 wd_17 wd_369) rfl rfl rfl (by decide +kernel) ⟨Nat.le_of_ble_eq_true rfl, Nat.le_of_ble_eq_true rfl⟩) ⟨hpre.1, (va_recv hK hP (ci := 3) (q0 := 3) rfl rfl), hpre.2⟩ rfl rfl hl.1 rfl (lv_room (Nat.le_of_ble_eq_true rfl)) d_x_left_5 ⟨Nat.le_of_ble_eq_true rfl, Nat.le_of_ble_eq_true rfl⟩) (fun r locs hw hS => ?_)
  obtain rfl := hw
  refine lv_if_eq (tgt := 23) hx hb d_x_left_8 (by decide) (fun _ => ?_) (fun c9 => absurd c9 (by decide))
  refine lv_iconst (v := (-1)) hx hb d_x_left_23 (by decide) ?_
  exact W.iret (v := (-1)) hx hb hr (fun t ht hW => ⟨⟨(-1), (), rfl, (show ((-1) : Int32).toInt = -1 by have q9 := rl_nm1; omega), ht⟩, hS.F ht⟩) hS.2.2 d_x_left_24
set_option maxHeartbeats 4000000 in
set_option maxRecDepth 100000 in
theorem k_x_statistics (l : Launch) (D : va_G) (a : Nat → Nat) (kI kZ : ClassId) (jn jw : Int32) (H0 : Heap) : rl_Ri l ⟨"RightsLimit", "statistics", "(II)I"⟩ (Cond.code ⟨"RightsLimit", "statistics", "(II)I"⟩ prog_1_method_17_code 3 (some .int) :: rl_G) { frames := 2, cells := 0, slots := 0, locals := 42 } D rl_cl (rl_tys kI kZ) [] [.ref (a 0), .int jn, .int jw] (rl_w a kI kZ rl_F0) H0 (fun (r : Int32) => (((0 ≤ jn.toInt ∧ jn.toInt ≤ 99) ∧ (0 ≤ jw.toInt ∧ jw.toInt ≤ 3)) ∧ r.toInt = 0) ∨ (¬ ((0 ≤ jn.toInt ∧ jn.toInt ≤ 99) ∧ (0 ≤ jw.toInt ∧ jw.toInt ≤ 3)) ∧ r.toInt = -1)) := by
  refine rl_metr (cc := prog_1_method_17_code) (maxL := 3) (ret := (some .int)) (by decide) rfl (Nat.le_of_ble_eq_true rfl) ?_
  intro p e s m below meth c ls hx hb hr hml hown hts hlocks hP hK hS hN hl
  have hown : s.vm.findClass "RightsLimit" = some m.cls := hown
  have hG : ∀ x ∈ rl_G, x.before _ s = true := fun x h => hts x (List.mem_cons_of_mem _ h)
  have hl : lv_has ls 3 [(0, .ref (a 0)), (1, .int jn), (2, .int jw)] := hl
  refine lv_iload_n hx hb d_x_statistics_0 rfl (lv_at hl 1 rfl) ?_
  refine rl_callr hS (va_runS (As := [.int jn]) (rest := []) ⟨hx, hb, hml, hown, hG⟩ (k_x_isPerson l D a kI kZ jn _) (cwS 1 hG (rl_gS wd_252 wd_253 wd_14 wd_254) rfl rfl rfl (by decide +kernel) ⟨Nat.le_of_ble_eq_true rfl, Nat.le_of_ble_eq_true rfl⟩) (rl_BR.pre rl_nw0 rl_P0 hK hN) rfl rfl hl.1 rfl (lv_room (Nat.le_of_ble_eq_true rfl)) d_x_statistics_1 ⟨Nat.le_of_ble_eq_true rfl, Nat.le_of_ble_eq_true rfl⟩) (fun r locs hw hS => ?_)
  rcases hw with ⟨rfl, h1⟩ | ⟨rfl, h1⟩
  · refine lv_if_ne (tgt := 9) hx hb d_x_statistics_4 (by decide) (fun _ => ?_) (fun c9 => absurd c9 (by decide))
    refine lv_iload_n hx hb d_x_statistics_9 rfl (lv_at hl 2 rfl) ?_
    by_cases hsw : jw.toInt < 0 ∨ 3 < jw.toInt
    · refine lv_tableOut (tgt := 76) hx hb d_x_statistics_10 hsw (by decide) ?_
      refine lv_iconst (v := (-1)) hx hb d_x_statistics_76 (by decide) ?_
      exact W.iret (v := (-1)) hx hb hr (fun t ht hW => ⟨⟨(-1), (), rfl, (show (((0 ≤ jn.toInt ∧ jn.toInt ≤ 99) ∧ (0 ≤ jw.toInt ∧ jw.toInt ≤ 3)) ∧ ((-1) : Int32).toInt = 0) ∨ (¬ ((0 ≤ jn.toInt ∧ jn.toInt ≤ 99) ∧ (0 ≤ jw.toInt ∧ jw.toInt ≤ 3)) ∧ ((-1) : Int32).toInt = -1) by have q9 := rl_nm1; omega), ht⟩, hS.F ht⟩) hS.2.2 d_x_statistics_77
    · have hsk : jw.toInt = 0 ∨ jw.toInt = 1 ∨ jw.toInt = 2 ∨ jw.toInt = 3 := by omega
      rcases hsk with hsk | hsk | hsk | hsk
      · refine lv_tableIn (off := 30) (tgt := 40) hx hb d_x_statistics_10 (by omega) (by omega) (by rw [hsk]; rfl) (by decide) ?_
        refine lv_aload_n hx hb d_x_statistics_40 rfl (lv_at hl 0 rfl) ?_
        refine va_get (D := D) (ci := 0) (v := .ref (a 4)) (C := "RightsLimit") (T := fT_x) (N := 8) hx hb hG fi_x hown hK hP 0 rfl rfl 3 (by decide) (hG _ wd_171) (fun _ h9 => h9) rfl d_x_statistics_41 ?_
        refine lv_iload_n hx hb d_x_statistics_44 rfl (lv_at hl 1 rfl) ?_
        have hpre := rl_BR.pre (av := .ref (a 4) :: [.int jn]) rl_nw0 hP hK hN
        refine rl_callr hS (va_runV (As := [.int jn]) (rest := []) ⟨hx, hb, hml, hown, hG⟩ (k_q_countOf l D a kI kZ jn _) (cwV 1 hG (rl_gV wd_374 wd_375 wd_376 wd_18 wd_377) rfl rfl rfl (by decide +kernel) ⟨Nat.le_of_ble_eq_true rfl, Nat.le_of_ble_eq_true rfl⟩) ⟨hpre.1, (va_recv hK hP (ci := 4) (q0 := 4) rfl rfl), hpre.2⟩ rfl rfl hl.1 rfl (lv_room (Nat.le_of_ble_eq_true rfl)) d_x_statistics_45 ⟨Nat.le_of_ble_eq_true rfl, Nat.le_of_ble_eq_true rfl⟩) (fun r locs hw hS => ?_)
        obtain ⟨r2, er2⟩ : ∃ q, q = r := ⟨_, rfl⟩
        rw [← er2] at hw ⊢
        have hwr2 := hw
        exact W.iret (v := r2) hx hb hr (fun t ht hW => ⟨⟨r2, (), rfl, (show (((0 ≤ jn.toInt ∧ jn.toInt ≤ 99) ∧ (0 ≤ jw.toInt ∧ jw.toInt ≤ 3)) ∧ r2.toInt = 0) ∨ (¬ ((0 ≤ jn.toInt ∧ jn.toInt ≤ 99) ∧ (0 ≤ jw.toInt ∧ jw.toInt ≤ 3)) ∧ r2.toInt = -1) by omega), ht⟩, hS.F ht⟩) hS.2.2 d_x_statistics_48
      · refine lv_tableIn (off := 39) (tgt := 49) hx hb d_x_statistics_10 (by omega) (by omega) (by rw [hsk]; rfl) (by decide) ?_
        refine lv_aload_n hx hb d_x_statistics_49 rfl (lv_at hl 0 rfl) ?_
        refine va_get (D := D) (ci := 0) (v := .ref (a 4)) (C := "RightsLimit") (T := fT_x) (N := 8) hx hb hG fi_x hown hK hP 0 rfl rfl 3 (by decide) (hG _ wd_171) (fun _ h9 => h9) rfl d_x_statistics_50 ?_
        refine lv_iload_n hx hb d_x_statistics_53 rfl (lv_at hl 1 rfl) ?_
        have hpre := rl_BR.pre (av := .ref (a 4) :: [.int jn]) rl_nw0 hP hK hN
        refine rl_callr hS (va_runV (As := [.int jn]) (rest := []) ⟨hx, hb, hml, hown, hG⟩ (k_q_countRefusedOf l D a kI kZ jn _) (cwV 1 hG (rl_gV wd_378 wd_379 wd_380 wd_18 wd_381) rfl rfl rfl (by decide +kernel) ⟨Nat.le_of_ble_eq_true rfl, Nat.le_of_ble_eq_true rfl⟩) ⟨hpre.1, (va_recv hK hP (ci := 4) (q0 := 4) rfl rfl), hpre.2⟩ rfl rfl hl.1 rfl (lv_room (Nat.le_of_ble_eq_true rfl)) d_x_statistics_54 ⟨Nat.le_of_ble_eq_true rfl, Nat.le_of_ble_eq_true rfl⟩) (fun r locs hw hS => ?_)
        obtain ⟨r3, er3⟩ : ∃ q, q = r := ⟨_, rfl⟩
        rw [← er3] at hw ⊢
        have hwr3 := hw
        exact W.iret (v := r3) hx hb hr (fun t ht hW => ⟨⟨r3, (), rfl, (show (((0 ≤ jn.toInt ∧ jn.toInt ≤ 99) ∧ (0 ≤ jw.toInt ∧ jw.toInt ≤ 3)) ∧ r3.toInt = 0) ∨ (¬ ((0 ≤ jn.toInt ∧ jn.toInt ≤ 99) ∧ (0 ≤ jw.toInt ∧ jw.toInt ≤ 3)) ∧ r3.toInt = -1) by omega), ht⟩, hS.F ht⟩) hS.2.2 d_x_statistics_57
      · refine lv_tableIn (off := 48) (tgt := 58) hx hb d_x_statistics_10 (by omega) (by omega) (by rw [hsk]; rfl) (by decide) ?_
        refine lv_aload_n hx hb d_x_statistics_58 rfl (lv_at hl 0 rfl) ?_
        refine va_get (D := D) (ci := 0) (v := .ref (a 4)) (C := "RightsLimit") (T := fT_x) (N := 8) hx hb hG fi_x hown hK hP 0 rfl rfl 3 (by decide) (hG _ wd_171) (fun _ h9 => h9) rfl d_x_statistics_59 ?_
        refine lv_iload_n hx hb d_x_statistics_62 rfl (lv_at hl 1 rfl) ?_
        have hpre := rl_BR.pre (av := .ref (a 4) :: [.int jn]) rl_nw0 hP hK hN
        refine rl_callr hS (va_runV (As := [.int jn]) (rest := []) ⟨hx, hb, hml, hown, hG⟩ (k_q_pagesAllowedTo l D a kI kZ jn _) (cwV 1 hG (rl_gV wd_382 wd_383 wd_384 wd_18 wd_385) rfl rfl rfl (by decide +kernel) ⟨Nat.le_of_ble_eq_true rfl, Nat.le_of_ble_eq_true rfl⟩) ⟨hpre.1, (va_recv hK hP (ci := 4) (q0 := 4) rfl rfl), hpre.2⟩ rfl rfl hl.1 rfl (lv_room (Nat.le_of_ble_eq_true rfl)) d_x_statistics_63 ⟨Nat.le_of_ble_eq_true rfl, Nat.le_of_ble_eq_true rfl⟩) (fun r locs hw hS => ?_)
        obtain ⟨r4, er4⟩ : ∃ q, q = r := ⟨_, rfl⟩
        rw [← er4] at hw ⊢
        have hwr4 := hw
        exact W.iret (v := r4) hx hb hr (fun t ht hW => ⟨⟨r4, (), rfl, (show (((0 ≤ jn.toInt ∧ jn.toInt ≤ 99) ∧ (0 ≤ jw.toInt ∧ jw.toInt ≤ 3)) ∧ r4.toInt = 0) ∨ (¬ ((0 ≤ jn.toInt ∧ jn.toInt ≤ 99) ∧ (0 ≤ jw.toInt ∧ jw.toInt ≤ 3)) ∧ r4.toInt = -1) by omega), ht⟩, hS.F ht⟩) hS.2.2 d_x_statistics_66
      · refine lv_tableIn (off := 57) (tgt := 67) hx hb d_x_statistics_10 (by omega) (by omega) (by rw [hsk]; rfl) (by decide) ?_
        refine lv_aload_n hx hb d_x_statistics_67 rfl (lv_at hl 0 rfl) ?_
        refine va_get (D := D) (ci := 0) (v := .ref (a 4)) (C := "RightsLimit") (T := fT_x) (N := 8) hx hb hG fi_x hown hK hP 0 rfl rfl 3 (by decide) (hG _ wd_171) (fun _ h9 => h9) rfl d_x_statistics_68 ?_
        refine lv_iload_n hx hb d_x_statistics_71 rfl (lv_at hl 1 rfl) ?_
        have hpre := rl_BR.pre (av := .ref (a 4) :: [.int jn]) rl_nw0 hP hK hN
        refine rl_callr hS (va_runV (As := [.int jn]) (rest := []) ⟨hx, hb, hml, hown, hG⟩ (k_q_centsOf l D a kI kZ jn _) (cwV 1 hG (rl_gV wd_386 wd_387 wd_388 wd_18 wd_389) rfl rfl rfl (by decide +kernel) ⟨Nat.le_of_ble_eq_true rfl, Nat.le_of_ble_eq_true rfl⟩) ⟨hpre.1, (va_recv hK hP (ci := 4) (q0 := 4) rfl rfl), hpre.2⟩ rfl rfl hl.1 rfl (lv_room (Nat.le_of_ble_eq_true rfl)) d_x_statistics_72 ⟨Nat.le_of_ble_eq_true rfl, Nat.le_of_ble_eq_true rfl⟩) (fun r locs hw hS => ?_)
        obtain ⟨r5, er5⟩ : ∃ q, q = r := ⟨_, rfl⟩
        rw [← er5] at hw ⊢
        have hwr5 := hw
        exact W.iret (v := r5) hx hb hr (fun t ht hW => ⟨⟨r5, (), rfl, (show (((0 ≤ jn.toInt ∧ jn.toInt ≤ 99) ∧ (0 ≤ jw.toInt ∧ jw.toInt ≤ 3)) ∧ r5.toInt = 0) ∨ (¬ ((0 ≤ jn.toInt ∧ jn.toInt ≤ 99) ∧ (0 ≤ jw.toInt ∧ jw.toInt ≤ 3)) ∧ r5.toInt = -1) by omega), ht⟩, hS.F ht⟩) hS.2.2 d_x_statistics_75
  · refine lv_if_ne (tgt := 9) hx hb d_x_statistics_4 (by decide) (fun c9 => absurd c9 (by decide)) (fun _ => ?_)
    refine lv_iconst (v := (-1)) hx hb d_x_statistics_7 (by decide) ?_
    exact W.iret (v := (-1)) hx hb hr (fun t ht hW => ⟨⟨(-1), (), rfl, (show (((0 ≤ jn.toInt ∧ jn.toInt ≤ 99) ∧ (0 ≤ jw.toInt ∧ jw.toInt ≤ 3)) ∧ ((-1) : Int32).toInt = 0) ∨ (¬ ((0 ≤ jn.toInt ∧ jn.toInt ≤ 99) ∧ (0 ≤ jw.toInt ∧ jw.toInt ≤ 3)) ∧ ((-1) : Int32).toInt = -1) by have q9 := rl_nm1; omega), ht⟩, hS.F ht⟩) hS.2.2 d_x_statistics_8
