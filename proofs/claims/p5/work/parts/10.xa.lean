set_option maxHeartbeats 4000000 in
set_option maxRecDepth 100000 in
theorem k_x_isBetween (l : Launch) (D : va_G) (a : Nat → Nat) (kI kZ : ClassId) (jn jlo jhi : Int32) (H0 : Heap) : rl_Ri l ⟨"RightsLimit", "isBetween", "(III)Z"⟩ (Cond.code ⟨"RightsLimit", "isBetween", "(III)Z"⟩ prog_1_method_30_code 3 (some .boolean) :: rl_G) { frames := 0, cells := 0, slots := 0, locals := 0 } D rl_cl (rl_tys kI kZ) rl_nw [.int jn, .int jlo, .int jhi] [] H0 (fun (r : Int32) => (r = 1 ∧ (jlo.toInt ≤ jn.toInt ∧ jn.toInt ≤ jhi.toInt)) ∨ (r = 0 ∧ ¬ (jlo.toInt ≤ jn.toInt ∧ jn.toInt ≤ jhi.toInt))) := by
  refine rl_metr (cc := prog_1_method_30_code) (maxL := 3) (ret := (some .boolean)) (by decide) rfl (Nat.le_of_ble_eq_true rfl) ?_
  intro p e s m below meth c ls hx hb hr hml hown hts hlocks hP hK hS hN hl
  have hown : s.vm.findClass "RightsLimit" = some m.cls := hown
  have hG : ∀ x ∈ rl_G, x.before _ s = true := fun x h => hts x (List.mem_cons_of_mem _ h)
  have hl : lv_has ls 3 [(0, .int jn), (1, .int jlo), (2, .int jhi)] := hl
  refine lv_iload_n hx hb d_x_isBetween_0 rfl (lv_at hl 0 rfl) ?_
  refine lv_iload_n hx hb d_x_isBetween_1 rfl (lv_at hl 1 rfl) ?_
  refine lv_icmp_lt (tgt := 14) hx hb d_x_isBetween_2 (by decide) (fun c1 => ?_) (fun c1 => ?_)
  · have ic1 := rl_ilt c1
    refine lv_iconst (v := 0) hx hb d_x_isBetween_14 (by decide) ?_
    exact W.zret (v := 0) hx hb hr rfl (fun t ht hW => ⟨⟨0, (), rfl, Or.inr ⟨rfl, by omega⟩, ht⟩, hS.F ht⟩) hS.2.2 d_x_isBetween_15
  · have ic1 := rl_inlt c1
    refine lv_iload_n hx hb d_x_isBetween_5 rfl (lv_at hl 0 rfl) ?_
    refine lv_iload_n hx hb d_x_isBetween_6 rfl (lv_at hl 2 rfl) ?_
    refine lv_icmp_gt (tgt := 14) hx hb d_x_isBetween_7 (by decide) (fun c2 => ?_) (fun c2 => ?_)
    · have ic2 := rl_ilt c2
      refine lv_iconst (v := 0) hx hb d_x_isBetween_14 (by decide) ?_
      exact W.zret (v := 0) hx hb hr rfl (fun t ht hW => ⟨⟨0, (), rfl, Or.inr ⟨rfl, by omega⟩, ht⟩, hS.F ht⟩) hS.2.2 d_x_isBetween_15
    · have ic2 := rl_inlt c2
      refine lv_iconst (v := 1) hx hb d_x_isBetween_10 (by decide) ?_
      refine lv_goto (tgt := 15) hx hb d_x_isBetween_11 (by decide) ?_
      exact W.zret (v := 1) hx hb hr rfl (fun t ht hW => ⟨⟨1, (), rfl, Or.inl ⟨rfl, by omega⟩, ht⟩, hS.F ht⟩) hS.2.2 d_x_isBetween_15
set_option maxHeartbeats 4000000 in
set_option maxRecDepth 100000 in
theorem k_x_isTime (l : Launch) (D : va_G) (a : Nat → Nat) (kI kZ : ClassId) (jn : Int32) (H0 : Heap) : rl_Ri l ⟨"RightsLimit", "isTime", "(I)Z"⟩ (Cond.code ⟨"RightsLimit", "isTime", "(I)Z"⟩ prog_1_method_24_code 1 (some .boolean) :: rl_G) { frames := 1, cells := 0, slots := 0, locals := 22 } D rl_cl (rl_tys kI kZ) rl_nw [.int jn] [] H0 (fun (r : Int32) => (r = 1 ∧ (0 ≤ jn.toInt ∧ jn.toInt ≤ 1000000000)) ∨ (r = 0 ∧ ¬ (0 ≤ jn.toInt ∧ jn.toInt ≤ 1000000000))) := by
  refine rl_metr (cc := prog_1_method_24_code) (maxL := 1) (ret := (some .boolean)) (by decide) rfl (Nat.le_of_ble_eq_true rfl) ?_
  intro p e s m below meth c ls hx hb hr hml hown hts hlocks hP hK hS hN hl
  have hown : s.vm.findClass "RightsLimit" = some m.cls := hown
  have hG : ∀ x ∈ rl_G, x.before _ s = true := fun x h => hts x (List.mem_cons_of_mem _ h)
  have hl : lv_has ls 1 [(0, .int jn)] := hl
  refine lv_iload_n hx hb d_x_isTime_0 rfl (lv_at hl 0 rfl) ?_
  refine lv_iconst (v := 0) hx hb d_x_isTime_1 (by decide) ?_
  refine lv_ldc (v := 1000000000) hx hb hown (hG _ wd_239) d_x_isTime_2 ?_
  refine rl_callr hS (va_runS (As := [.int jn, .int 0, .int 1000000000]) (rest := []) ⟨hx, hb, hml, hown, hG⟩ (k_x_isBetween l D a kI kZ jn 0 1000000000 _) (cwS 3 hG (rl_gS wd_200 wd_201 wd_14 wd_202) rfl rfl rfl (by decide +kernel) ⟨Nat.le_of_ble_eq_true rfl, Nat.le_of_ble_eq_true rfl⟩) (rl_BR.pre rl_nw_ok rl_P0 hK hN) rfl rfl hl.1 rfl (lv_room (Nat.le_of_ble_eq_true rfl)) d_x_isTime_4 ⟨Nat.le_of_ble_eq_true rfl, Nat.le_of_ble_eq_true rfl⟩) (fun r1 locs hw hS => ?_)
  try simp only [rl_n0, rl_n1000000000] at hw
  rcases hw with ⟨rfl, h2⟩ | ⟨rfl, h2⟩
  · exact W.zret (v := 1) hx hb hr rfl (fun t ht hW => ⟨⟨1, (), rfl, Or.inl ⟨rfl, by omega⟩, ht⟩, hS.F ht⟩) hS.2.2 d_x_isTime_7
  · exact W.zret (v := 0) hx hb hr rfl (fun t ht hW => ⟨⟨0, (), rfl, Or.inr ⟨rfl, by omega⟩, ht⟩, hS.F ht⟩) hS.2.2 d_x_isTime_7
set_option maxHeartbeats 4000000 in
set_option maxRecDepth 100000 in
theorem k_x_isPublisher (l : Launch) (D : va_G) (a : Nat → Nat) (kI kZ : ClassId) (jn : Int32) (H0 : Heap) : rl_Ri l ⟨"RightsLimit", "isPublisher", "(I)Z"⟩ (Cond.code ⟨"RightsLimit", "isPublisher", "(I)Z"⟩ prog_1_method_25_code 1 (some .boolean) :: rl_G) { frames := 1, cells := 0, slots := 0, locals := 22 } D rl_cl (rl_tys kI kZ) rl_nw [.int jn] [] H0 (fun (r : Int32) => (r = 1 ∧ (0 ≤ jn.toInt ∧ jn.toInt ≤ 99)) ∨ (r = 0 ∧ ¬ (0 ≤ jn.toInt ∧ jn.toInt ≤ 99))) := by
  refine rl_metr (cc := prog_1_method_25_code) (maxL := 1) (ret := (some .boolean)) (by decide) rfl (Nat.le_of_ble_eq_true rfl) ?_
  intro p e s m below meth c ls hx hb hr hml hown hts hlocks hP hK hS hN hl
  have hown : s.vm.findClass "RightsLimit" = some m.cls := hown
  have hG : ∀ x ∈ rl_G, x.before _ s = true := fun x h => hts x (List.mem_cons_of_mem _ h)
  have hl : lv_has ls 1 [(0, .int jn)] := hl
  refine lv_iload_n hx hb d_x_isPublisher_0 rfl (lv_at hl 0 rfl) ?_
  refine lv_iconst (v := 0) hx hb d_x_isPublisher_1 (by decide) ?_
  refine lv_bipush (v := 99) hx hb d_x_isPublisher_2 (by decide) ?_
  refine rl_callr hS (va_runS (As := [.int jn, .int 0, .int 99]) (rest := []) ⟨hx, hb, hml, hown, hG⟩ (k_x_isBetween l D a kI kZ jn 0 99 _) (cwS 3 hG (rl_gS wd_200 wd_201 wd_14 wd_202) rfl rfl rfl (by decide +kernel) ⟨Nat.le_of_ble_eq_true rfl, Nat.le_of_ble_eq_true rfl⟩) (rl_BR.pre rl_nw_ok rl_P0 hK hN) rfl rfl hl.1 rfl (lv_room (Nat.le_of_ble_eq_true rfl)) d_x_isPublisher_4 ⟨Nat.le_of_ble_eq_true rfl, Nat.le_of_ble_eq_true rfl⟩) (fun r1 locs hw hS => ?_)
  try simp only [rl_n0, rl_n99] at hw
  rcases hw with ⟨rfl, h2⟩ | ⟨rfl, h2⟩
  · exact W.zret (v := 1) hx hb hr rfl (fun t ht hW => ⟨⟨1, (), rfl, Or.inl ⟨rfl, by omega⟩, ht⟩, hS.F ht⟩) hS.2.2 d_x_isPublisher_7
  · exact W.zret (v := 0) hx hb hr rfl (fun t ht hW => ⟨⟨0, (), rfl, Or.inr ⟨rfl, by omega⟩, ht⟩, hS.F ht⟩) hS.2.2 d_x_isPublisher_7
set_option maxHeartbeats 4000000 in
set_option maxRecDepth 100000 in
theorem k_x_isPerson (l : Launch) (D : va_G) (a : Nat → Nat) (kI kZ : ClassId) (jn : Int32) (H0 : Heap) : rl_Ri l ⟨"RightsLimit", "isPerson", "(I)Z"⟩ (Cond.code ⟨"RightsLimit", "isPerson", "(I)Z"⟩ prog_1_method_26_code 1 (some .boolean) :: rl_G) { frames := 1, cells := 0, slots := 0, locals := 22 } D rl_cl (rl_tys kI kZ) rl_nw [.int jn] [] H0 (fun (r : Int32) => (r = 1 ∧ (0 ≤ jn.toInt ∧ jn.toInt ≤ 99)) ∨ (r = 0 ∧ ¬ (0 ≤ jn.toInt ∧ jn.toInt ≤ 99))) := by
  refine rl_metr (cc := prog_1_method_26_code) (maxL := 1) (ret := (some .boolean)) (by decide) rfl (Nat.le_of_ble_eq_true rfl) ?_
  intro p e s m below meth c ls hx hb hr hml hown hts hlocks hP hK hS hN hl
  have hown : s.vm.findClass "RightsLimit" = some m.cls := hown
  have hG : ∀ x ∈ rl_G, x.before _ s = true := fun x h => hts x (List.mem_cons_of_mem _ h)
  have hl : lv_has ls 1 [(0, .int jn)] := hl
  refine lv_iload_n hx hb d_x_isPerson_0 rfl (lv_at hl 0 rfl) ?_
  refine lv_iconst (v := 0) hx hb d_x_isPerson_1 (by decide) ?_
  refine lv_bipush (v := 99) hx hb d_x_isPerson_2 (by decide) ?_
  refine rl_callr hS (va_runS (As := [.int jn, .int 0, .int 99]) (rest := []) ⟨hx, hb, hml, hown, hG⟩ (k_x_isBetween l D a kI kZ jn 0 99 _) (cwS 3 hG (rl_gS wd_200 wd_201 wd_14 wd_202) rfl rfl rfl (by decide +kernel) ⟨Nat.le_of_ble_eq_true rfl, Nat.le_of_ble_eq_true rfl⟩) (rl_BR.pre rl_nw_ok rl_P0 hK hN) rfl rfl hl.1 rfl (lv_room (Nat.le_of_ble_eq_true rfl)) d_x_isPerson_4 ⟨Nat.le_of_ble_eq_true rfl, Nat.le_of_ble_eq_true rfl⟩) (fun r1 locs hw hS => ?_)
  try simp only [rl_n0, rl_n99] at hw
  rcases hw with ⟨rfl, h2⟩ | ⟨rfl, h2⟩
  · exact W.zret (v := 1) hx hb hr rfl (fun t ht hW => ⟨⟨1, (), rfl, Or.inl ⟨rfl, by omega⟩, ht⟩, hS.F ht⟩) hS.2.2 d_x_isPerson_7
  · exact W.zret (v := 0) hx hb hr rfl (fun t ht hW => ⟨⟨0, (), rfl, Or.inr ⟨rfl, by omega⟩, ht⟩, hS.F ht⟩) hS.2.2 d_x_isPerson_7
set_option maxHeartbeats 4000000 in
set_option maxRecDepth 100000 in
theorem k_x_isKind (l : Launch) (D : va_G) (a : Nat → Nat) (kI kZ : ClassId) (jn : Int32) (H0 : Heap) : rl_Ri l ⟨"RightsLimit", "isKind", "(I)Z"⟩ (Cond.code ⟨"RightsLimit", "isKind", "(I)Z"⟩ prog_1_method_27_code 1 (some .boolean) :: rl_G) { frames := 1, cells := 0, slots := 0, locals := 22 } D rl_cl (rl_tys kI kZ) rl_nw [.int jn] [] H0 (fun (r : Int32) => (r = 1 ∧ (0 ≤ jn.toInt ∧ jn.toInt ≤ 1)) ∨ (r = 0 ∧ ¬ (0 ≤ jn.toInt ∧ jn.toInt ≤ 1))) := by
  refine rl_metr (cc := prog_1_method_27_code) (maxL := 1) (ret := (some .boolean)) (by decide) rfl (Nat.le_of_ble_eq_true rfl) ?_
  intro p e s m below meth c ls hx hb hr hml hown hts hlocks hP hK hS hN hl
  have hown : s.vm.findClass "RightsLimit" = some m.cls := hown
  have hG : ∀ x ∈ rl_G, x.before _ s = true := fun x h => hts x (List.mem_cons_of_mem _ h)
  have hl : lv_has ls 1 [(0, .int jn)] := hl
  refine lv_iload_n hx hb d_x_isKind_0 rfl (lv_at hl 0 rfl) ?_
  refine lv_iconst (v := 0) hx hb d_x_isKind_1 (by decide) ?_
  refine lv_iconst (v := 1) hx hb d_x_isKind_2 (by decide) ?_
  refine rl_callr hS (va_runS (As := [.int jn, .int 0, .int 1]) (rest := []) ⟨hx, hb, hml, hown, hG⟩ (k_x_isBetween l D a kI kZ jn 0 1 _) (cwS 3 hG (rl_gS wd_200 wd_201 wd_14 wd_202) rfl rfl rfl (by decide +kernel) ⟨Nat.le_of_ble_eq_true rfl, Nat.le_of_ble_eq_true rfl⟩) (rl_BR.pre rl_nw_ok rl_P0 hK hN) rfl rfl hl.1 rfl (lv_room (Nat.le_of_ble_eq_true rfl)) d_x_isKind_3 ⟨Nat.le_of_ble_eq_true rfl, Nat.le_of_ble_eq_true rfl⟩) (fun r1 locs hw hS => ?_)
  try simp only [rl_n0, rl_n1] at hw
  rcases hw with ⟨rfl, h2⟩ | ⟨rfl, h2⟩
  · exact W.zret (v := 1) hx hb hr rfl (fun t ht hW => ⟨⟨1, (), rfl, Or.inl ⟨rfl, by omega⟩, ht⟩, hS.F ht⟩) hS.2.2 d_x_isKind_6
  · exact W.zret (v := 0) hx hb hr rfl (fun t ht hW => ⟨⟨0, (), rfl, Or.inr ⟨rfl, by omega⟩, ht⟩, hS.F ht⟩) hS.2.2 d_x_isKind_6
set_option maxHeartbeats 4000000 in
set_option maxRecDepth 100000 in
theorem k_x_isDays (l : Launch) (D : va_G) (a : Nat → Nat) (kI kZ : ClassId) (jn : Int32) (H0 : Heap) : rl_Ri l ⟨"RightsLimit", "isDays", "(I)Z"⟩ (Cond.code ⟨"RightsLimit", "isDays", "(I)Z"⟩ prog_1_method_28_code 1 (some .boolean) :: rl_G) { frames := 1, cells := 0, slots := 0, locals := 22 } D rl_cl (rl_tys kI kZ) rl_nw [.int jn] [] H0 (fun (r : Int32) => (r = 1 ∧ (1 ≤ jn.toInt ∧ jn.toInt ≤ 5000)) ∨ (r = 0 ∧ ¬ (1 ≤ jn.toInt ∧ jn.toInt ≤ 5000))) := by
  refine rl_metr (cc := prog_1_method_28_code) (maxL := 1) (ret := (some .boolean)) (by decide) rfl (Nat.le_of_ble_eq_true rfl) ?_
  intro p e s m below meth c ls hx hb hr hml hown hts hlocks hP hK hS hN hl
  have hown : s.vm.findClass "RightsLimit" = some m.cls := hown
  have hG : ∀ x ∈ rl_G, x.before _ s = true := fun x h => hts x (List.mem_cons_of_mem _ h)
  have hl : lv_has ls 1 [(0, .int jn)] := hl
  refine lv_iload_n hx hb d_x_isDays_0 rfl (lv_at hl 0 rfl) ?_
  refine lv_iconst (v := 1) hx hb d_x_isDays_1 (by decide) ?_
  refine lv_sipush (v := 5000) hx hb d_x_isDays_2 (by decide) ?_
  refine rl_callr hS (va_runS (As := [.int jn, .int 1, .int 5000]) (rest := []) ⟨hx, hb, hml, hown, hG⟩ (k_x_isBetween l D a kI kZ jn 1 5000 _) (cwS 3 hG (rl_gS wd_200 wd_201 wd_14 wd_202) rfl rfl rfl (by decide +kernel) ⟨Nat.le_of_ble_eq_true rfl, Nat.le_of_ble_eq_true rfl⟩) (rl_BR.pre rl_nw_ok rl_P0 hK hN) rfl rfl hl.1 rfl (lv_room (Nat.le_of_ble_eq_true rfl)) d_x_isDays_5 ⟨Nat.le_of_ble_eq_true rfl, Nat.le_of_ble_eq_true rfl⟩) (fun r1 locs hw hS => ?_)
  try simp only [rl_n1, rl_n5000] at hw
  rcases hw with ⟨rfl, h2⟩ | ⟨rfl, h2⟩
  · exact W.zret (v := 1) hx hb hr rfl (fun t ht hW => ⟨⟨1, (), rfl, Or.inl ⟨rfl, by omega⟩, ht⟩, hS.F ht⟩) hS.2.2 d_x_isDays_8
  · exact W.zret (v := 0) hx hb hr rfl (fun t ht hW => ⟨⟨0, (), rfl, Or.inr ⟨rfl, by omega⟩, ht⟩, hS.F ht⟩) hS.2.2 d_x_isDays_8
set_option maxHeartbeats 4000000 in
set_option maxRecDepth 100000 in
theorem k_x_isCopies (l : Launch) (D : va_G) (a : Nat → Nat) (kI kZ : ClassId) (jn : Int32) (H0 : Heap) : rl_Ri l ⟨"RightsLimit", "isCopies", "(I)Z"⟩ (Cond.code ⟨"RightsLimit", "isCopies", "(I)Z"⟩ prog_1_method_29_code 1 (some .boolean) :: rl_G) { frames := 1, cells := 0, slots := 0, locals := 22 } D rl_cl (rl_tys kI kZ) rl_nw [.int jn] [] H0 (fun (r : Int32) => (r = 1 ∧ (0 ≤ jn.toInt ∧ jn.toInt ≤ 1000)) ∨ (r = 0 ∧ ¬ (0 ≤ jn.toInt ∧ jn.toInt ≤ 1000))) := by
  refine rl_metr (cc := prog_1_method_29_code) (maxL := 1) (ret := (some .boolean)) (by decide) rfl (Nat.le_of_ble_eq_true rfl) ?_
  intro p e s m below meth c ls hx hb hr hml hown hts hlocks hP hK hS hN hl
  have hown : s.vm.findClass "RightsLimit" = some m.cls := hown
  have hG : ∀ x ∈ rl_G, x.before _ s = true := fun x h => hts x (List.mem_cons_of_mem _ h)
  have hl : lv_has ls 1 [(0, .int jn)] := hl
  refine lv_iload_n hx hb d_x_isCopies_0 rfl (lv_at hl 0 rfl) ?_
  refine lv_iconst (v := 0) hx hb d_x_isCopies_1 (by decide) ?_
  refine lv_sipush (v := 1000) hx hb d_x_isCopies_2 (by decide) ?_
  refine rl_callr hS (va_runS (As := [.int jn, .int 0, .int 1000]) (rest := []) ⟨hx, hb, hml, hown, hG⟩ (k_x_isBetween l D a kI kZ jn 0 1000 _) (cwS 3 hG (rl_gS wd_200 wd_201 wd_14 wd_202) rfl rfl rfl (by decide +kernel) ⟨Nat.le_of_ble_eq_true rfl, Nat.le_of_ble_eq_true rfl⟩) (rl_BR.pre rl_nw_ok rl_P0 hK hN) rfl rfl hl.1 rfl (lv_room (Nat.le_of_ble_eq_true rfl)) d_x_isCopies_5 ⟨Nat.le_of_ble_eq_true rfl, Nat.le_of_ble_eq_true rfl⟩) (fun r1 locs hw hS => ?_)
  try simp only [rl_n0, rl_n1000] at hw
  rcases hw with ⟨rfl, h2⟩ | ⟨rfl, h2⟩
  · exact W.zret (v := 1) hx hb hr rfl (fun t ht hW => ⟨⟨1, (), rfl, Or.inl ⟨rfl, by omega⟩, ht⟩, hS.F ht⟩) hS.2.2 d_x_isCopies_8
  · exact W.zret (v := 0) hx hb hr rfl (fun t ht hW => ⟨⟨0, (), rfl, Or.inr ⟨rfl, by omega⟩, ht⟩, hS.F ht⟩) hS.2.2 d_x_isCopies_8
set_option maxHeartbeats 4000000 in
set_option maxRecDepth 100000 in
theorem k_t_has (l : Launch) (D : va_G) (a : Nat → Nat) (kI kZ : ClassId) (F : Nat → Nat → Int32) (jn : Int32) (hI : rl_I F) (H0 : Heap) : rl_Ri l ⟨"RightsLimit$Titles", "has", "(I)Z"⟩ (Cond.code ⟨"RightsLimit$Titles", "has", "(I)Z"⟩ prog_5_method_2_code 2 (some .boolean) :: rl_G) { frames := 0, cells := 0, slots := 0, locals := 0 } D rl_cl (rl_tys kI kZ) rl_nw [.ref (a 1), .int jn] (rl_w a kI kZ F) H0 (fun (r : Int32) => (r = 1 ∧ (0 ≤ jn.toInt ∧ jn.toInt < (F 27 0).toInt)) ∨ (r = 0 ∧ ¬ (0 ≤ jn.toInt ∧ jn.toInt < (F 27 0).toInt))) := by
  refine rl_metr (cc := prog_5_method_2_code) (maxL := 2) (ret := (some .boolean)) (by decide) rfl (Nat.le_of_ble_eq_true rfl) ?_
  intro p e s m below meth c ls hx hb hr hml hown hts hlocks hP hK hS hN hl
  have hown : s.vm.findClass "RightsLimit$Titles" = some m.cls := hown
  have hG : ∀ x ∈ rl_G, x.before _ s = true := fun x h => hts x (List.mem_cons_of_mem _ h)
  have hl : lv_has ls 2 [(0, .ref (a 1)), (1, .int jn)] := hl
  obtain ⟨hcnt, hR⟩ := id hI
  refine lv_iload_n hx hb d_t_has_0 rfl (lv_at hl 1 rfl) ?_
  refine lv_if_lt (tgt := 16) hx hb d_t_has_1 (by decide) (fun c1 => ?_) (fun c1 => ?_)
  · have ic1 := rl_ilt c1
    simp only [rl_n0] at ic1
    refine lv_iconst (v := 0) hx hb d_t_has_16 (by decide) ?_
    exact W.zret (v := 0) hx hb hr rfl (fun t ht hW => ⟨⟨0, (), rfl, Or.inr ⟨rfl, by omega⟩, ht⟩, hS.F ht⟩) hS.2.2 d_t_has_17
  · have ic1 := rl_inlt c1
    simp only [rl_n0] at ic1
    refine lv_iload_n hx hb d_t_has_4 rfl (lv_at hl 1 rfl) ?_
    refine lv_aload_n hx hb d_t_has_5 rfl (lv_at hl 0 rfl) ?_
    refine va_get (D := D) (ci := 1) (v := .int (F 27 0)) (C := "RightsLimit$Titles") (T := fT_t) (N := 5) hx hb hG fi_t hown hK hP 1 rfl rfl 4 (by decide) (hG _ wd_46) (fun _ h9 => h9) rfl d_t_has_6 ?_
    refine lv_icmp_ge (tgt := 16) hx hb d_t_has_9 (by decide) (fun c2 => ?_) (fun c2 => ?_)
    · have ic2 := rl_ile c2
      refine lv_iconst (v := 0) hx hb d_t_has_16 (by decide) ?_
      exact W.zret (v := 0) hx hb hr rfl (fun t ht hW => ⟨⟨0, (), rfl, Or.inr ⟨rfl, by omega⟩, ht⟩, hS.F ht⟩) hS.2.2 d_t_has_17
    · have ic2 := rl_inle c2
      refine lv_iconst (v := 1) hx hb d_t_has_12 (by decide) ?_
      refine lv_goto (tgt := 17) hx hb d_t_has_13 (by decide) ?_
      exact W.zret (v := 1) hx hb hr rfl (fun t ht hW => ⟨⟨1, (), rfl, Or.inl ⟨rfl, by omega⟩, ht⟩, hS.F ht⟩) hS.2.2 d_t_has_17
set_option maxHeartbeats 4000000 in
set_option maxRecDepth 100000 in
theorem k_t_add (l : Launch) (D : va_G) (a : Nat → Nat) (kI kZ : ClassId) (F : Nat → Nat → Int32) (jp : Int32) (hI : rl_I F) (hp0 : 0 ≤ jp.toInt) (hp1 : jp.toInt < 100) (sz : Nat) : rl_Ci (S := Nat → Nat → Int32) l ⟨"RightsLimit$Titles", "add", "(I)I"⟩ (Cond.code ⟨"RightsLimit$Titles", "add", "(I)I"⟩ prog_5_method_3_code 2 (some .int) :: rl_G) { frames := 0, cells := 0, slots := 0, locals := 0 } D rl_cl (rl_tys kI kZ) rl_nw [.ref (a 1), .int jp] (rl_w a kI kZ F) sz (fun (r : Int32) (F' : Nat → Nat → Int32) => rl_R F' ∧ (((F 27 0).toInt < 50 ∧ r.toInt = (F 27 0).toInt ∧ (F' 27 0).toInt = (F 27 0).toInt + 1 ∧ (F' 27 1).toInt = (F 27 1).toInt ∧ (F' 27 2).toInt = (F 27 2).toInt ∧ (F' 27 3).toInt = (F 27 3).toInt) ∨ (50 ≤ (F 27 0).toInt ∧ r.toInt = -4 ∧ (F' 27 0).toInt = (F 27 0).toInt ∧ (F' 27 1).toInt = (F 27 1).toInt ∧ (F' 27 2).toInt = (F 27 2).toInt ∧ (F' 27 3).toInt = (F 27 3).toInt))) (fun F' => rl_w a kI kZ F') 0 0 := by
  refine rl_meti (cc := prog_5_method_3_code) (maxL := 2) (ret := (some .int)) (by decide) rfl (Nat.le_of_ble_eq_true rfl) ?_
  intro p e s m below meth c A ls hx hb hr hml hown hts hlocks hnm hP hK hD hS hA hN hl
  have hown : s.vm.findClass "RightsLimit$Titles" = some m.cls := hown
  have hG : ∀ x ∈ rl_G, x.before _ s = true := fun x h => hts x (List.mem_cons_of_mem _ h)
  have hl : lv_has ls 2 [(0, .ref (a 1)), (1, .int jp)] := hl
  obtain ⟨hcnt, hR⟩ := id hI
  refine lv_aload_n hx hb d_t_add_0 rfl (lv_at hl 0 rfl) ?_
  refine va_get (D := D) (ci := 1) (v := .int (F 27 0)) (C := "RightsLimit$Titles") (T := fT_t) (N := 5) hx hb hG fi_t hown hK hP 1 rfl rfl 4 (by decide) (hG _ wd_46) (fun _ h9 => h9) rfl d_t_add_1 ?_
  refine lv_bipush (v := 50) hx hb d_t_add_4 (by decide) ?_
  refine lv_icmp_lt (tgt := 12) hx hb d_t_add_6 (by decide) (fun c1 => ?_) (fun c1 => ?_)
  · have ic1 := rl_ilt c1
    simp only [rl_n50] at ic1
    refine lv_aload_n hx hb d_t_add_12 rfl (lv_at hl 0 rfl) ?_
    refine va_get (D := D) (ci := 1) (v := .ref (a 5)) (C := "RightsLimit$Titles") (T := fT_t) (N := 5) hx hb hG fi_t hown hK hP 1 rfl rfl 0 (by decide) (hG _ wd_38) (fun _ h9 => h9) rfl d_t_add_13 ?_
    refine lv_aload_n hx hb d_t_add_16 rfl (lv_at hl 0 rfl) ?_
    refine va_get (D := D) (ci := 1) (v := .int (F 27 0)) (C := "RightsLimit$Titles") (T := fT_t) (N := 5) hx hb hG fi_t hown hK hP 1 rfl rfl 4 (by decide) (hG _ wd_46) (fun _ h9 => h9) rfl d_t_add_17 ?_
    refine lv_iload_n hx hb d_t_add_20 rfl (lv_at hl 1 rfl) ?_
    refine va_iast hx hb hK hP hD hS 5 0 rfl rfl (rl_in (n := 50) (by omega) (by omega)) d_t_add_21 (fun H locs hP hD hS => ?_)
    obtain ⟨F2, eF2⟩ : ∃ G, G = rl_st F 0 ((F 27 0).toNatClampNeg) jp := ⟨_, rfl⟩
    have hP : va_P D rl_cl (rl_w a kI kZ F2) H := by rw [eF2]; exact hP
    have hD : va_D A (rl_w a kI kZ F2) := by rw [eF2]; exact hD
    obtain ⟨tF2, hRF2⟩ := rl_keep0 eF2 (⟨by omega, by omega⟩) hR
    refine lv_aload_n hx hb d_t_add_22 rfl (lv_at hl 0 rfl) ?_
    refine lv_dup hx hb d_t_add_23 rfl ?_
    refine va_get (D := D) (ci := 1) (v := .int (F2 27 0)) (C := "RightsLimit$Titles") (T := fT_t) (N := 5) hx hb hG fi_t hown hK hP 1 rfl rfl 4 (by decide) (hG _ wd_46) (fun _ h9 => h9) rfl d_t_add_24 ?_
    refine lv_iconst (v := 1) hx hb d_t_add_27 (by decide) ?_
    refine lv_iadd hx hb d_t_add_28 ?_
    refine lv_topi (fun v3 ev3 => ?_)
    have iv3 : v3.toInt = (F2 27 0).toInt + 1 := by rw [ev3]; exact rl_addk (by decide) (by omega) (by omega)
    refine va_put (D := D) (ci := 1) (v := .int v3) (ty := .int) (C := "RightsLimit$Titles") (T := fT_t) (N := 5) hx hb hG fi_t fy_t fo_t fn_t hown hK hP hD hS 1 rfl rfl 4 (by decide) (hG _ wd_46) (fun _ h9 => h9) rfl (by decide +kernel) rfl rfl (Nat.le_of_ble_eq_true rfl) d_t_add_29 (fun H locs hP hD hS => ?_)
    obtain ⟨F4, eF4⟩ : ∃ G, G = rl_st F2 27 0 v3 := ⟨_, rfl⟩
    have hP : va_P D rl_cl (rl_w a kI kZ F4) H := by rw [eF4]; exact hP
    have hD : va_D A (rl_w a kI kZ F4) := by rw [eF4]; exact hD
    obtain ⟨tF4, hRF4⟩ := rl_put0 eF4 hRF2
    refine lv_aload_n hx hb d_t_add_32 rfl (lv_at hl 0 rfl) ?_
    refine va_get (D := D) (ci := 1) (v := .int (F4 27 0)) (C := "RightsLimit$Titles") (T := fT_t) (N := 5) hx hb hG fi_t hown hK hP 1 rfl rfl 4 (by decide) (hG _ wd_46) (fun _ h9 => h9) rfl d_t_add_33 ?_
    refine lv_iconst (v := 1) hx hb d_t_add_36 (by decide) ?_
    refine lv_isub hx hb d_t_add_37 ?_
    refine lv_topi (fun v5 ev5 => ?_)
    have iv5 : v5.toInt = (F4 27 0).toInt - 1 := by rw [ev5]; exact rl_subk (by decide) (by omega) (by omega)
    exact W.iret (v := v5) hx hb hr (fun t ht hW => ⟨⟨v5, F4, rfl, ⟨hRF4, (show ((F 27 0).toInt < 50 ∧ v5.toInt = (F 27 0).toInt ∧ (F4 27 0).toInt = (F 27 0).toInt + 1 ∧ (F4 27 1).toInt = (F 27 1).toInt ∧ (F4 27 2).toInt = (F 27 2).toInt ∧ (F4 27 3).toInt = (F 27 3).toInt) ∨ (50 ≤ (F 27 0).toInt ∧ v5.toInt = -4 ∧ (F4 27 0).toInt = (F 27 0).toInt ∧ (F4 27 1).toInt = (F 27 1).toInt ∧ (F4 27 2).toInt = (F 27 2).toInt ∧ (F4 27 3).toInt = (F 27 3).toInt) by omega)⟩, ⟨by rw [ht]; exact hP, hD⟩⟩, hS.F ht⟩) hS.2.2 d_t_add_38
  · have ic1 := rl_inlt c1
    simp only [rl_n50] at ic1
    refine lv_bipush (v := (-4)) hx hb d_t_add_9 (by decide) ?_
    exact W.iret (v := (-4)) hx hb hr (fun t ht hW => ⟨⟨(-4), F, rfl, ⟨hR, (show ((F 27 0).toInt < 50 ∧ ((-4) : Int32).toInt = (F 27 0).toInt ∧ (F 27 0).toInt = (F 27 0).toInt + 1 ∧ (F 27 1).toInt = (F 27 1).toInt ∧ (F 27 2).toInt = (F 27 2).toInt ∧ (F 27 3).toInt = (F 27 3).toInt) ∨ (50 ≤ (F 27 0).toInt ∧ ((-4) : Int32).toInt = -4 ∧ (F 27 0).toInt = (F 27 0).toInt ∧ (F 27 1).toInt = (F 27 1).toInt ∧ (F 27 2).toInt = (F 27 2).toInt ∧ (F 27 3).toInt = (F 27 3).toInt) by have q9 := rl_nm4; omega)⟩, ⟨by rw [ht]; exact hP, hD⟩⟩, hS.F ht⟩) hS.2.2 d_t_add_11
set_option maxHeartbeats 4000000 in
set_option maxRecDepth 100000 in
theorem k_l_add (l : Launch) (D : va_G) (a : Nat → Nat) (kI kZ : ClassId) (F : Nat → Nat → Int32) (jp1 jp2 jp3 jp4 : Int32) (hI : rl_I F) (sz : Nat) : rl_Ci (S := Nat → Nat → Int32) l ⟨"RightsLimit$Limits", "add", "(IIII)I"⟩ (Cond.code ⟨"RightsLimit$Limits", "add", "(IIII)I"⟩ prog_3_method_2_code 5 (some .int) :: rl_G) { frames := 0, cells := 0, slots := 0, locals := 0 } D rl_cl (rl_tys kI kZ) rl_nw [.ref (a 2), .int jp1, .int jp2, .int jp3, .int jp4] (rl_w a kI kZ F) sz (fun (r : Int32) (F' : Nat → Nat → Int32) => rl_R F' ∧ (((F 27 1).toInt < 100 ∧ r.toInt = (F 27 1).toInt ∧ (F' 27 1).toInt = (F 27 1).toInt + 1 ∧ (F' 27 0).toInt = (F 27 0).toInt ∧ (F' 27 2).toInt = (F 27 2).toInt ∧ (F' 27 3).toInt = (F 27 3).toInt) ∨ (100 ≤ (F 27 1).toInt ∧ r.toInt = -4 ∧ (F' 27 0).toInt = (F 27 0).toInt ∧ (F' 27 1).toInt = (F 27 1).toInt ∧ (F' 27 2).toInt = (F 27 2).toInt ∧ (F' 27 3).toInt = (F 27 3).toInt))) (fun F' => rl_w a kI kZ F') 0 0 := by
  refine rl_meti (cc := prog_3_method_2_code) (maxL := 5) (ret := (some .int)) (by decide) rfl (Nat.le_of_ble_eq_true rfl) ?_
  intro p e s m below meth c A ls hx hb hr hml hown hts hlocks hnm hP hK hD hS hA hN hl
  have hown : s.vm.findClass "RightsLimit$Limits" = some m.cls := hown
  have hG : ∀ x ∈ rl_G, x.before _ s = true := fun x h => hts x (List.mem_cons_of_mem _ h)
  have hl : lv_has ls 5 [(0, .ref (a 2)), (1, .int jp1), (2, .int jp2), (3, .int jp3), (4, .int jp4)] := hl
  obtain ⟨hcnt, hR⟩ := id hI
  refine lv_aload_n hx hb d_l_add_0 rfl (lv_at hl 0 rfl) ?_
  refine va_get (D := D) (ci := 2) (v := .int (F 27 1)) (C := "RightsLimit$Limits") (T := fT_l) (N := 5) hx hb hG fi_l hown hK hP 2 rfl rfl 4 (by decide) (hG _ wd_72) (fun _ h9 => h9) rfl d_l_add_1 ?_
  refine lv_bipush (v := 100) hx hb d_l_add_4 (by decide) ?_
  refine lv_icmp_lt (tgt := 12) hx hb d_l_add_6 (by decide) (fun c1 => ?_) (fun c1 => ?_)
  · have ic1 := rl_ilt c1
    simp only [rl_n100] at ic1
    refine lv_aload_n hx hb d_l_add_12 rfl (lv_at hl 0 rfl) ?_
    refine va_get (D := D) (ci := 2) (v := .ref (a 9)) (C := "RightsLimit$Limits") (T := fT_l) (N := 5) hx hb hG fi_l hown hK hP 2 rfl rfl 0 (by decide) (hG _ wd_66) (fun _ h9 => h9) rfl d_l_add_13 ?_
    refine lv_aload_n hx hb d_l_add_16 rfl (lv_at hl 0 rfl) ?_
    refine va_get (D := D) (ci := 2) (v := .int (F 27 1)) (C := "RightsLimit$Limits") (T := fT_l) (N := 5) hx hb hG fi_l hown hK hP 2 rfl rfl 4 (by decide) (hG _ wd_72) (fun _ h9 => h9) rfl d_l_add_17 ?_
    refine lv_iload_n hx hb d_l_add_20 rfl (lv_at hl 1 rfl) ?_
    refine va_iast hx hb hK hP hD hS 9 0 rfl rfl (rl_in (n := 100) (by omega) (by omega)) d_l_add_21 (fun H locs hP hD hS => ?_)
    obtain ⟨F2, eF2⟩ : ∃ G, G = rl_st F 4 ((F 27 1).toNatClampNeg) jp1 := ⟨_, rfl⟩
    have hP : va_P D rl_cl (rl_w a kI kZ F2) H := by rw [eF2]; exact hP
    have hD : va_D A (rl_w a kI kZ F2) := by rw [eF2]; exact hD
    obtain ⟨tF2, hRF2⟩ := rl_keep eF2 (by decide) (by decide) hR
    refine lv_aload_n hx hb d_l_add_22 rfl (lv_at hl 0 rfl) ?_
    refine va_get (D := D) (ci := 2) (v := .ref (a 10)) (C := "RightsLimit$Limits") (T := fT_l) (N := 5) hx hb hG fi_l hown hK hP 2 rfl rfl 1 (by decide) (hG _ wd_67) (fun _ h9 => h9) rfl d_l_add_23 ?_
    refine lv_aload_n hx hb d_l_add_26 rfl (lv_at hl 0 rfl) ?_
    refine va_get (D := D) (ci := 2) (v := .int (F2 27 1)) (C := "RightsLimit$Limits") (T := fT_l) (N := 5) hx hb hG fi_l hown hK hP 2 rfl rfl 4 (by decide) (hG _ wd_72) (fun _ h9 => h9) rfl d_l_add_27 ?_
    refine lv_iload_n hx hb d_l_add_30 rfl (lv_at hl 2 rfl) ?_
    refine va_iast hx hb hK hP hD hS 10 0 rfl rfl (rl_in (n := 100) (by omega) (by omega)) d_l_add_31 (fun H locs hP hD hS => ?_)
    obtain ⟨F3, eF3⟩ : ∃ G, G = rl_st F2 5 ((F2 27 1).toNatClampNeg) jp2 := ⟨_, rfl⟩
    have hP : va_P D rl_cl (rl_w a kI kZ F3) H := by rw [eF3]; exact hP
    have hD : va_D A (rl_w a kI kZ F3) := by rw [eF3]; exact hD
    obtain ⟨tF3, hRF3⟩ := rl_keep eF3 (by decide) (by decide) hRF2
    refine lv_aload_n hx hb d_l_add_32 rfl (lv_at hl 0 rfl) ?_
    refine va_get (D := D) (ci := 2) (v := .ref (a 11)) (C := "RightsLimit$Limits") (T := fT_l) (N := 5) hx hb hG fi_l hown hK hP 2 rfl rfl 2 (by decide) (hG _ wd_68) (fun _ h9 => h9) rfl d_l_add_33 ?_
    refine lv_aload_n hx hb d_l_add_36 rfl (lv_at hl 0 rfl) ?_
    refine va_get (D := D) (ci := 2) (v := .int (F3 27 1)) (C := "RightsLimit$Limits") (T := fT_l) (N := 5) hx hb hG fi_l hown hK hP 2 rfl rfl 4 (by decide) (hG _ wd_72) (fun _ h9 => h9) rfl d_l_add_37 ?_
    refine lv_iload_n hx hb d_l_add_40 rfl (lv_at hl 3 rfl) ?_
    refine va_iast hx hb hK hP hD hS 11 0 rfl rfl (rl_in (n := 100) (by omega) (by omega)) d_l_add_41 (fun H locs hP hD hS => ?_)
    obtain ⟨F4, eF4⟩ : ∃ G, G = rl_st F3 6 ((F3 27 1).toNatClampNeg) jp3 := ⟨_, rfl⟩
    have hP : va_P D rl_cl (rl_w a kI kZ F4) H := by rw [eF4]; exact hP
    have hD : va_D A (rl_w a kI kZ F4) := by rw [eF4]; exact hD
    obtain ⟨tF4, hRF4⟩ := rl_keep eF4 (by decide) (by decide) hRF3
    refine lv_aload_n hx hb d_l_add_42 rfl (lv_at hl 0 rfl) ?_
    refine va_get (D := D) (ci := 2) (v := .ref (a 12)) (C := "RightsLimit$Limits") (T := fT_l) (N := 5) hx hb hG fi_l hown hK hP 2 rfl rfl 3 (by decide) (hG _ wd_70) (fun _ h9 => h9) rfl d_l_add_43 ?_
    refine lv_aload_n hx hb d_l_add_46 rfl (lv_at hl 0 rfl) ?_
    refine va_get (D := D) (ci := 2) (v := .int (F4 27 1)) (C := "RightsLimit$Limits") (T := fT_l) (N := 5) hx hb hG fi_l hown hK hP 2 rfl rfl 4 (by decide) (hG _ wd_72) (fun _ h9 => h9) rfl d_l_add_47 ?_
    refine lv_iload hx hb d_l_add_50 (lv_at hl 4 rfl) ?_
    refine va_iast hx hb hK hP hD hS 12 0 rfl rfl (rl_in (n := 100) (by omega) (by omega)) d_l_add_52 (fun H locs hP hD hS => ?_)
    obtain ⟨F5, eF5⟩ : ∃ G, G = rl_st F4 7 ((F4 27 1).toNatClampNeg) jp4 := ⟨_, rfl⟩
    have hP : va_P D rl_cl (rl_w a kI kZ F5) H := by rw [eF5]; exact hP
    have hD : va_D A (rl_w a kI kZ F5) := by rw [eF5]; exact hD
    obtain ⟨tF5, hRF5⟩ := rl_keep eF5 (by decide) (by decide) hRF4
    refine lv_aload_n hx hb d_l_add_53 rfl (lv_at hl 0 rfl) ?_
    refine lv_dup hx hb d_l_add_54 rfl ?_
    refine va_get (D := D) (ci := 2) (v := .int (F5 27 1)) (C := "RightsLimit$Limits") (T := fT_l) (N := 5) hx hb hG fi_l hown hK hP 2 rfl rfl 4 (by decide) (hG _ wd_72) (fun _ h9 => h9) rfl d_l_add_55 ?_
    refine lv_iconst (v := 1) hx hb d_l_add_58 (by decide) ?_
    refine lv_iadd hx hb d_l_add_59 ?_
    refine lv_topi (fun v6 ev6 => ?_)
    have iv6 : v6.toInt = (F5 27 1).toInt + 1 := by rw [ev6]; exact rl_addk (by decide) (by omega) (by omega)
    refine va_put (D := D) (ci := 2) (v := .int v6) (ty := .int) (C := "RightsLimit$Limits") (T := fT_l) (N := 5) hx hb hG fi_l fy_l fo_l fn_l hown hK hP hD hS 2 rfl rfl 4 (by decide) (hG _ wd_72) (fun _ h9 => h9) rfl (by decide +kernel) rfl rfl (Nat.le_of_ble_eq_true rfl) d_l_add_60 (fun H locs hP hD hS => ?_)
    obtain ⟨F7, eF7⟩ : ∃ G, G = rl_st F5 27 1 v6 := ⟨_, rfl⟩
    have hP : va_P D rl_cl (rl_w a kI kZ F7) H := by rw [eF7]; exact hP
    have hD : va_D A (rl_w a kI kZ F7) := by rw [eF7]; exact hD
    obtain ⟨tF7, hRF7⟩ := rl_put1 eF7 hRF5
    refine lv_aload_n hx hb d_l_add_63 rfl (lv_at hl 0 rfl) ?_
    refine va_get (D := D) (ci := 2) (v := .int (F7 27 1)) (C := "RightsLimit$Limits") (T := fT_l) (N := 5) hx hb hG fi_l hown hK hP 2 rfl rfl 4 (by decide) (hG _ wd_72) (fun _ h9 => h9) rfl d_l_add_64 ?_
    refine lv_iconst (v := 1) hx hb d_l_add_67 (by decide) ?_
    refine lv_isub hx hb d_l_add_68 ?_
    refine lv_topi (fun v8 ev8 => ?_)
    have iv8 : v8.toInt = (F7 27 1).toInt - 1 := by rw [ev8]; exact rl_subk (by decide) (by omega) (by omega)
    exact W.iret (v := v8) hx hb hr (fun t ht hW => ⟨⟨v8, F7, rfl, ⟨hRF7, (show ((F 27 1).toInt < 100 ∧ v8.toInt = (F 27 1).toInt ∧ (F7 27 1).toInt = (F 27 1).toInt + 1 ∧ (F7 27 0).toInt = (F 27 0).toInt ∧ (F7 27 2).toInt = (F 27 2).toInt ∧ (F7 27 3).toInt = (F 27 3).toInt) ∨ (100 ≤ (F 27 1).toInt ∧ v8.toInt = -4 ∧ (F7 27 0).toInt = (F 27 0).toInt ∧ (F7 27 1).toInt = (F 27 1).toInt ∧ (F7 27 2).toInt = (F 27 2).toInt ∧ (F7 27 3).toInt = (F 27 3).toInt) by omega)⟩, ⟨by rw [ht]; exact hP, hD⟩⟩, hS.F ht⟩) hS.2.2 d_l_add_69
  · have ic1 := rl_inlt c1
    simp only [rl_n100] at ic1
    refine lv_bipush (v := (-4)) hx hb d_l_add_9 (by decide) ?_
    exact W.iret (v := (-4)) hx hb hr (fun t ht hW => ⟨⟨(-4), F, rfl, ⟨hR, (show ((F 27 1).toInt < 100 ∧ ((-4) : Int32).toInt = (F 27 1).toInt ∧ (F 27 1).toInt = (F 27 1).toInt + 1 ∧ (F 27 0).toInt = (F 27 0).toInt ∧ (F 27 2).toInt = (F 27 2).toInt ∧ (F 27 3).toInt = (F 27 3).toInt) ∨ (100 ≤ (F 27 1).toInt ∧ ((-4) : Int32).toInt = -4 ∧ (F 27 0).toInt = (F 27 0).toInt ∧ (F 27 1).toInt = (F 27 1).toInt ∧ (F 27 2).toInt = (F 27 2).toInt ∧ (F 27 3).toInt = (F 27 3).toInt) by have q9 := rl_nm4; omega)⟩, ⟨by rw [ht]; exact hP, hD⟩⟩, hS.F ht⟩) hS.2.2 d_l_add_11
set_option maxHeartbeats 4000000 in
set_option maxRecDepth 100000 in
theorem k_l_isOf (l : Launch) (D : va_G) (a : Nat → Nat) (kI kZ : ClassId) (F : Nat → Nat → Int32) (jn jp1 jp2 : Int32) (hI : rl_I F) (hn0 : 0 ≤ jn.toInt) (hn1 : jn.toInt < 100) (H0 : Heap) : rl_Ri l ⟨"RightsLimit$Limits", "isOf", "(III)Z"⟩ (Cond.code ⟨"RightsLimit$Limits", "isOf", "(III)Z"⟩ prog_3_method_3_code 4 (some .boolean) :: rl_G) { frames := 0, cells := 0, slots := 0, locals := 0 } D rl_cl (rl_tys kI kZ) rl_nw [.ref (a 2), .int jn, .int jp1, .int jp2] (rl_w a kI kZ F) H0 (fun (r : Int32) => (r = 1 ∧ True) ∨ (r = 0 ∧ True)) := by
  refine rl_metr (cc := prog_3_method_3_code) (maxL := 4) (ret := (some .boolean)) (by decide) rfl (Nat.le_of_ble_eq_true rfl) ?_
  intro p e s m below meth c ls hx hb hr hml hown hts hlocks hP hK hS hN hl
  have hown : s.vm.findClass "RightsLimit$Limits" = some m.cls := hown
  have hG : ∀ x ∈ rl_G, x.before _ s = true := fun x h => hts x (List.mem_cons_of_mem _ h)
  have hl : lv_has ls 4 [(0, .ref (a 2)), (1, .int jn), (2, .int jp1), (3, .int jp2)] := hl
  obtain ⟨hcnt, hR⟩ := id hI
  refine lv_aload_n hx hb d_l_isOf_0 rfl (lv_at hl 0 rfl) ?_
  refine va_get (D := D) (ci := 2) (v := .ref (a 9)) (C := "RightsLimit$Limits") (T := fT_l) (N := 5) hx hb hG fi_l hown hK hP 2 rfl rfl 0 (by decide) (hG _ wd_66) (fun _ h9 => h9) rfl d_l_isOf_1 ?_
  refine lv_iload_n hx hb d_l_isOf_4 rfl (lv_at hl 1 rfl) ?_
  refine va_iald hx hb hK hP 9 0 rfl rfl (rl_in (n := 100) (by omega) (by omega)) d_l_isOf_5 ?_
  refine lv_topi (fun v1 ev1 => ?_)
  refine lv_iload_n hx hb d_l_isOf_6 rfl (lv_at hl 2 rfl) ?_
  refine lv_icmp_ne (tgt := 24) hx hb d_l_isOf_7 (by decide) (fun c2 => ?_) (fun c2 => ?_)
  · have ic2 := rl_ine c2
    refine lv_iconst (v := 0) hx hb d_l_isOf_24 (by decide) ?_
    exact W.zret (v := 0) hx hb hr rfl (fun t ht hW => ⟨⟨0, (), rfl, Or.inr ⟨rfl, trivial⟩, ht⟩, hS.F ht⟩) hS.2.2 d_l_isOf_25
  · have ic2 := rl_ieq c2
    refine lv_aload_n hx hb d_l_isOf_10 rfl (lv_at hl 0 rfl) ?_
    refine va_get (D := D) (ci := 2) (v := .ref (a 10)) (C := "RightsLimit$Limits") (T := fT_l) (N := 5) hx hb hG fi_l hown hK hP 2 rfl rfl 1 (by decide) (hG _ wd_67) (fun _ h9 => h9) rfl d_l_isOf_11 ?_
    refine lv_iload_n hx hb d_l_isOf_14 rfl (lv_at hl 1 rfl) ?_
    refine va_iald hx hb hK hP 10 0 rfl rfl (rl_in (n := 100) (by omega) (by omega)) d_l_isOf_15 ?_
    refine lv_topi (fun v3 ev3 => ?_)
    refine lv_iload_n hx hb d_l_isOf_16 rfl (lv_at hl 3 rfl) ?_
    refine lv_icmp_ne (tgt := 24) hx hb d_l_isOf_17 (by decide) (fun c4 => ?_) (fun c4 => ?_)
    · have ic4 := rl_ine c4
      refine lv_iconst (v := 0) hx hb d_l_isOf_24 (by decide) ?_
      exact W.zret (v := 0) hx hb hr rfl (fun t ht hW => ⟨⟨0, (), rfl, Or.inr ⟨rfl, trivial⟩, ht⟩, hS.F ht⟩) hS.2.2 d_l_isOf_25
    · have ic4 := rl_ieq c4
      refine lv_iconst (v := 1) hx hb d_l_isOf_20 (by decide) ?_
      refine lv_goto (tgt := 25) hx hb d_l_isOf_21 (by decide) ?_
      exact W.zret (v := 1) hx hb hr rfl (fun t ht hW => ⟨⟨1, (), rfl, Or.inl ⟨rfl, trivial⟩, ht⟩, hS.F ht⟩) hS.2.2 d_l_isOf_25
set_option maxHeartbeats 4000000 in
set_option maxRecDepth 100000 in
theorem k_c_has (l : Launch) (D : va_G) (a : Nat → Nat) (kI kZ : ClassId) (F : Nat → Nat → Int32) (jn : Int32) (hI : rl_I F) (H0 : Heap) : rl_Ri l ⟨"RightsLimit$Licences", "has", "(I)Z"⟩ (Cond.code ⟨"RightsLimit$Licences", "has", "(I)Z"⟩ prog_2_method_2_code 2 (some .boolean) :: rl_G) { frames := 0, cells := 0, slots := 0, locals := 0 } D rl_cl (rl_tys kI kZ) rl_nw [.ref (a 3), .int jn] (rl_w a kI kZ F) H0 (fun (r : Int32) => (r = 1 ∧ (0 ≤ jn.toInt ∧ jn.toInt < (F 27 2).toInt)) ∨ (r = 0 ∧ ¬ (0 ≤ jn.toInt ∧ jn.toInt < (F 27 2).toInt))) := by
  refine rl_metr (cc := prog_2_method_2_code) (maxL := 2) (ret := (some .boolean)) (by decide) rfl (Nat.le_of_ble_eq_true rfl) ?_
  intro p e s m below meth c ls hx hb hr hml hown hts hlocks hP hK hS hN hl
  have hown : s.vm.findClass "RightsLimit$Licences" = some m.cls := hown
  have hG : ∀ x ∈ rl_G, x.before _ s = true := fun x h => hts x (List.mem_cons_of_mem _ h)
  have hl : lv_has ls 2 [(0, .ref (a 3)), (1, .int jn)] := hl
  obtain ⟨hcnt, hR⟩ := id hI
  refine lv_iload_n hx hb d_c_has_0 rfl (lv_at hl 1 rfl) ?_
  refine lv_if_lt (tgt := 16) hx hb d_c_has_1 (by decide) (fun c1 => ?_) (fun c1 => ?_)
  · have ic1 := rl_ilt c1
    simp only [rl_n0] at ic1
    refine lv_iconst (v := 0) hx hb d_c_has_16 (by decide) ?_
    exact W.zret (v := 0) hx hb hr rfl (fun t ht hW => ⟨⟨0, (), rfl, Or.inr ⟨rfl, by omega⟩, ht⟩, hS.F ht⟩) hS.2.2 d_c_has_17
  · have ic1 := rl_inlt c1
    simp only [rl_n0] at ic1
    refine lv_iload_n hx hb d_c_has_4 rfl (lv_at hl 1 rfl) ?_
    refine lv_aload_n hx hb d_c_has_5 rfl (lv_at hl 0 rfl) ?_
    refine va_get (D := D) (ci := 3) (v := .int (F 27 2)) (C := "RightsLimit$Licences") (T := fT_c) (N := 6) hx hb hG fi_c hown hK hP 3 rfl rfl 5 (by decide) (hG _ wd_97) (fun _ h9 => h9) rfl d_c_has_6 ?_
    refine lv_icmp_ge (tgt := 16) hx hb d_c_has_9 (by decide) (fun c2 => ?_) (fun c2 => ?_)
    · have ic2 := rl_ile c2
      refine lv_iconst (v := 0) hx hb d_c_has_16 (by decide) ?_
      exact W.zret (v := 0) hx hb hr rfl (fun t ht hW => ⟨⟨0, (), rfl, Or.inr ⟨rfl, by omega⟩, ht⟩, hS.F ht⟩) hS.2.2 d_c_has_17
    · have ic2 := rl_inle c2
      refine lv_iconst (v := 1) hx hb d_c_has_12 (by decide) ?_
      refine lv_goto (tgt := 17) hx hb d_c_has_13 (by decide) ?_
      exact W.zret (v := 1) hx hb hr rfl (fun t ht hW => ⟨⟨1, (), rfl, Or.inl ⟨rfl, by omega⟩, ht⟩, hS.F ht⟩) hS.2.2 d_c_has_17
set_option maxHeartbeats 4000000 in
set_option maxRecDepth 100000 in
theorem k_c_add (l : Launch) (D : va_G) (a : Nat → Nat) (kI kZ : ClassId) (F : Nat → Nat → Int32) (jp1 jp2 jp3 jp4 jp5 : Int32) (hI : rl_I F) (sz : Nat) : rl_Ci (S := Nat → Nat → Int32) l ⟨"RightsLimit$Licences", "add", "(IIIII)I"⟩ (Cond.code ⟨"RightsLimit$Licences", "add", "(IIIII)I"⟩ prog_2_method_3_code 6 (some .int) :: rl_G) { frames := 0, cells := 0, slots := 0, locals := 0 } D rl_cl (rl_tys kI kZ) rl_nw [.ref (a 3), .int jp1, .int jp2, .int jp3, .int jp4, .int jp5] (rl_w a kI kZ F) sz (fun (r : Int32) (F' : Nat → Nat → Int32) => rl_R F' ∧ (((F 27 2).toInt < 50 ∧ r.toInt = (F 27 2).toInt ∧ (F' 27 2).toInt = (F 27 2).toInt + 1 ∧ (F' 27 0).toInt = (F 27 0).toInt ∧ (F' 27 1).toInt = (F 27 1).toInt ∧ (F' 27 3).toInt = (F 27 3).toInt) ∨ (50 ≤ (F 27 2).toInt ∧ r.toInt = -4 ∧ (F' 27 0).toInt = (F 27 0).toInt ∧ (F' 27 1).toInt = (F 27 1).toInt ∧ (F' 27 2).toInt = (F 27 2).toInt ∧ (F' 27 3).toInt = (F 27 3).toInt))) (fun F' => rl_w a kI kZ F') 0 0 := by
  refine rl_meti (cc := prog_2_method_3_code) (maxL := 6) (ret := (some .int)) (by decide) rfl (Nat.le_of_ble_eq_true rfl) ?_
  intro p e s m below meth c A ls hx hb hr hml hown hts hlocks hnm hP hK hD hS hA hN hl
  have hown : s.vm.findClass "RightsLimit$Licences" = some m.cls := hown
  have hG : ∀ x ∈ rl_G, x.before _ s = true := fun x h => hts x (List.mem_cons_of_mem _ h)
  have hl : lv_has ls 6 [(0, .ref (a 3)), (1, .int jp1), (2, .int jp2), (3, .int jp3), (4, .int jp4), (5, .int jp5)] := hl
  obtain ⟨hcnt, hR⟩ := id hI
  refine lv_aload_n hx hb d_c_add_0 rfl (lv_at hl 0 rfl) ?_
  refine va_get (D := D) (ci := 3) (v := .int (F 27 2)) (C := "RightsLimit$Licences") (T := fT_c) (N := 6) hx hb hG fi_c hown hK hP 3 rfl rfl 5 (by decide) (hG _ wd_97) (fun _ h9 => h9) rfl d_c_add_1 ?_
  refine lv_bipush (v := 50) hx hb d_c_add_4 (by decide) ?_
  refine lv_icmp_lt (tgt := 12) hx hb d_c_add_6 (by decide) (fun c1 => ?_) (fun c1 => ?_)
  · have ic1 := rl_ilt c1
    simp only [rl_n50] at ic1
    refine lv_aload_n hx hb d_c_add_12 rfl (lv_at hl 0 rfl) ?_
    refine va_get (D := D) (ci := 3) (v := .ref (a 13)) (C := "RightsLimit$Licences") (T := fT_c) (N := 6) hx hb hG fi_c hown hK hP 3 rfl rfl 0 (by decide) (hG _ wd_91) (fun _ h9 => h9) rfl d_c_add_13 ?_
    refine lv_aload_n hx hb d_c_add_16 rfl (lv_at hl 0 rfl) ?_
    refine va_get (D := D) (ci := 3) (v := .int (F 27 2)) (C := "RightsLimit$Licences") (T := fT_c) (N := 6) hx hb hG fi_c hown hK hP 3 rfl rfl 5 (by decide) (hG _ wd_97) (fun _ h9 => h9) rfl d_c_add_17 ?_
    refine lv_iload_n hx hb d_c_add_20 rfl (lv_at hl 1 rfl) ?_
    refine va_iast hx hb hK hP hD hS 13 0 rfl rfl (rl_in (n := 50) (by omega) (by omega)) d_c_add_21 (fun H locs hP hD hS => ?_)
    obtain ⟨F2, eF2⟩ : ∃ G, G = rl_st F 8 ((F 27 2).toNatClampNeg) jp1 := ⟨_, rfl⟩
    have hP : va_P D rl_cl (rl_w a kI kZ F2) H := by rw [eF2]; exact hP
    have hD : va_D A (rl_w a kI kZ F2) := by rw [eF2]; exact hD
    obtain ⟨tF2, hRF2⟩ := rl_keep eF2 (by decide) (by decide) hR
    refine lv_aload_n hx hb d_c_add_22 rfl (lv_at hl 0 rfl) ?_
    refine va_get (D := D) (ci := 3) (v := .ref (a 14)) (C := "RightsLimit$Licences") (T := fT_c) (N := 6) hx hb hG fi_c hown hK hP 3 rfl rfl 1 (by decide) (hG _ wd_92) (fun _ h9 => h9) rfl d_c_add_23 ?_
    refine lv_aload_n hx hb d_c_add_26 rfl (lv_at hl 0 rfl) ?_
    refine va_get (D := D) (ci := 3) (v := .int (F2 27 2)) (C := "RightsLimit$Licences") (T := fT_c) (N := 6) hx hb hG fi_c hown hK hP 3 rfl rfl 5 (by decide) (hG _ wd_97) (fun _ h9 => h9) rfl d_c_add_27 ?_
    refine lv_iload_n hx hb d_c_add_30 rfl (lv_at hl 2 rfl) ?_
    refine va_iast hx hb hK hP hD hS 14 0 rfl rfl (rl_in (n := 50) (by omega) (by omega)) d_c_add_31 (fun H locs hP hD hS => ?_)
    obtain ⟨F3, eF3⟩ : ∃ G, G = rl_st F2 9 ((F2 27 2).toNatClampNeg) jp2 := ⟨_, rfl⟩
    have hP : va_P D rl_cl (rl_w a kI kZ F3) H := by rw [eF3]; exact hP
    have hD : va_D A (rl_w a kI kZ F3) := by rw [eF3]; exact hD
    obtain ⟨tF3, hRF3⟩ := rl_keep eF3 (by decide) (by decide) hRF2
    refine lv_aload_n hx hb d_c_add_32 rfl (lv_at hl 0 rfl) ?_
    refine va_get (D := D) (ci := 3) (v := .ref (a 15)) (C := "RightsLimit$Licences") (T := fT_c) (N := 6) hx hb hG fi_c hown hK hP 3 rfl rfl 2 (by decide) (hG _ wd_93) (fun _ h9 => h9) rfl d_c_add_33 ?_
    refine lv_aload_n hx hb d_c_add_36 rfl (lv_at hl 0 rfl) ?_
    refine va_get (D := D) (ci := 3) (v := .int (F3 27 2)) (C := "RightsLimit$Licences") (T := fT_c) (N := 6) hx hb hG fi_c hown hK hP 3 rfl rfl 5 (by decide) (hG _ wd_97) (fun _ h9 => h9) rfl d_c_add_37 ?_
    refine lv_iload_n hx hb d_c_add_40 rfl (lv_at hl 3 rfl) ?_
    refine va_iast hx hb hK hP hD hS 15 0 rfl rfl (rl_in (n := 50) (by omega) (by omega)) d_c_add_41 (fun H locs hP hD hS => ?_)
    obtain ⟨F4, eF4⟩ : ∃ G, G = rl_st F3 10 ((F3 27 2).toNatClampNeg) jp3 := ⟨_, rfl⟩
    have hP : va_P D rl_cl (rl_w a kI kZ F4) H := by rw [eF4]; exact hP
    have hD : va_D A (rl_w a kI kZ F4) := by rw [eF4]; exact hD
    obtain ⟨tF4, hRF4⟩ := rl_keep eF4 (by decide) (by decide) hRF3
    refine lv_aload_n hx hb d_c_add_42 rfl (lv_at hl 0 rfl) ?_
    refine va_get (D := D) (ci := 3) (v := .ref (a 16)) (C := "RightsLimit$Licences") (T := fT_c) (N := 6) hx hb hG fi_c hown hK hP 3 rfl rfl 3 (by decide) (hG _ wd_95) (fun _ h9 => h9) rfl d_c_add_43 ?_
    refine lv_aload_n hx hb d_c_add_46 rfl (lv_at hl 0 rfl) ?_
    refine va_get (D := D) (ci := 3) (v := .int (F4 27 2)) (C := "RightsLimit$Licences") (T := fT_c) (N := 6) hx hb hG fi_c hown hK hP 3 rfl rfl 5 (by decide) (hG _ wd_97) (fun _ h9 => h9) rfl d_c_add_47 ?_
    refine lv_iload hx hb d_c_add_50 (lv_at hl 4 rfl) ?_
    refine va_iast hx hb hK hP hD hS 16 0 rfl rfl (rl_in (n := 50) (by omega) (by omega)) d_c_add_52 (fun H locs hP hD hS => ?_)
    obtain ⟨F5, eF5⟩ : ∃ G, G = rl_st F4 11 ((F4 27 2).toNatClampNeg) jp4 := ⟨_, rfl⟩
    have hP : va_P D rl_cl (rl_w a kI kZ F5) H := by rw [eF5]; exact hP
    have hD : va_D A (rl_w a kI kZ F5) := by rw [eF5]; exact hD
    obtain ⟨tF5, hRF5⟩ := rl_keep eF5 (by decide) (by decide) hRF4
    refine lv_aload_n hx hb d_c_add_53 rfl (lv_at hl 0 rfl) ?_
    refine va_get (D := D) (ci := 3) (v := .ref (a 17)) (C := "RightsLimit$Licences") (T := fT_c) (N := 6) hx hb hG fi_c hown hK hP 3 rfl rfl 4 (by decide) (hG _ wd_96) (fun _ h9 => h9) rfl d_c_add_54 ?_
    refine lv_aload_n hx hb d_c_add_57 rfl (lv_at hl 0 rfl) ?_
    refine va_get (D := D) (ci := 3) (v := .int (F5 27 2)) (C := "RightsLimit$Licences") (T := fT_c) (N := 6) hx hb hG fi_c hown hK hP 3 rfl rfl 5 (by decide) (hG _ wd_97) (fun _ h9 => h9) rfl d_c_add_58 ?_
    refine lv_iload hx hb d_c_add_61 (lv_at hl 5 rfl) ?_
    refine va_iast hx hb hK hP hD hS 17 0 rfl rfl (rl_in (n := 50) (by omega) (by omega)) d_c_add_63 (fun H locs hP hD hS => ?_)
    obtain ⟨F6, eF6⟩ : ∃ G, G = rl_st F5 12 ((F5 27 2).toNatClampNeg) jp5 := ⟨_, rfl⟩
    have hP : va_P D rl_cl (rl_w a kI kZ F6) H := by rw [eF6]; exact hP
    have hD : va_D A (rl_w a kI kZ F6) := by rw [eF6]; exact hD
    obtain ⟨tF6, hRF6⟩ := rl_keep eF6 (by decide) (by decide) hRF5
    refine lv_aload_n hx hb d_c_add_64 rfl (lv_at hl 0 rfl) ?_
    refine lv_dup hx hb d_c_add_65 rfl ?_
    refine va_get (D := D) (ci := 3) (v := .int (F6 27 2)) (C := "RightsLimit$Licences") (T := fT_c) (N := 6) hx hb hG fi_c hown hK hP 3 rfl rfl 5 (by decide) (hG _ wd_97) (fun _ h9 => h9) rfl d_c_add_66 ?_
    refine lv_iconst (v := 1) hx hb d_c_add_69 (by decide) ?_
    refine lv_iadd hx hb d_c_add_70 ?_
    refine lv_topi (fun v7 ev7 => ?_)
    have iv7 : v7.toInt = (F6 27 2).toInt + 1 := by rw [ev7]; exact rl_addk (by decide) (by omega) (by omega)
    refine va_put (D := D) (ci := 3) (v := .int v7) (ty := .int) (C := "RightsLimit$Licences") (T := fT_c) (N := 6) hx hb hG fi_c fy_c fo_c fn_c hown hK hP hD hS 3 rfl rfl 5 (by decide) (hG _ wd_97) (fun _ h9 => h9) rfl (by decide +kernel) rfl rfl (Nat.le_of_ble_eq_true rfl) d_c_add_71 (fun H locs hP hD hS => ?_)
    obtain ⟨F8, eF8⟩ : ∃ G, G = rl_st F6 27 2 v7 := ⟨_, rfl⟩
    have hP : va_P D rl_cl (rl_w a kI kZ F8) H := by rw [eF8]; exact hP
    have hD : va_D A (rl_w a kI kZ F8) := by rw [eF8]; exact hD
    obtain ⟨tF8, hRF8⟩ := rl_put2 eF8 hRF6
    refine lv_aload_n hx hb d_c_add_74 rfl (lv_at hl 0 rfl) ?_
    refine va_get (D := D) (ci := 3) (v := .int (F8 27 2)) (C := "RightsLimit$Licences") (T := fT_c) (N := 6) hx hb hG fi_c hown hK hP 3 rfl rfl 5 (by decide) (hG _ wd_97) (fun _ h9 => h9) rfl d_c_add_75 ?_
    refine lv_iconst (v := 1) hx hb d_c_add_78 (by decide) ?_
    refine lv_isub hx hb d_c_add_79 ?_
    refine lv_topi (fun v9 ev9 => ?_)
    have iv9 : v9.toInt = (F8 27 2).toInt - 1 := by rw [ev9]; exact rl_subk (by decide) (by omega) (by omega)
    exact W.iret (v := v9) hx hb hr (fun t ht hW => ⟨⟨v9, F8, rfl, ⟨hRF8, (show ((F 27 2).toInt < 50 ∧ v9.toInt = (F 27 2).toInt ∧ (F8 27 2).toInt = (F 27 2).toInt + 1 ∧ (F8 27 0).toInt = (F 27 0).toInt ∧ (F8 27 1).toInt = (F 27 1).toInt ∧ (F8 27 3).toInt = (F 27 3).toInt) ∨ (50 ≤ (F 27 2).toInt ∧ v9.toInt = -4 ∧ (F8 27 0).toInt = (F 27 0).toInt ∧ (F8 27 1).toInt = (F 27 1).toInt ∧ (F8 27 2).toInt = (F 27 2).toInt ∧ (F8 27 3).toInt = (F 27 3).toInt) by omega)⟩, ⟨by rw [ht]; exact hP, hD⟩⟩, hS.F ht⟩) hS.2.2 d_c_add_80
  · have ic1 := rl_inlt c1
    simp only [rl_n50] at ic1
    refine lv_bipush (v := (-4)) hx hb d_c_add_9 (by decide) ?_
    exact W.iret (v := (-4)) hx hb hr (fun t ht hW => ⟨⟨(-4), F, rfl, ⟨hR, (show ((F 27 2).toInt < 50 ∧ ((-4) : Int32).toInt = (F 27 2).toInt ∧ (F 27 2).toInt = (F 27 2).toInt + 1 ∧ (F 27 0).toInt = (F 27 0).toInt ∧ (F 27 1).toInt = (F 27 1).toInt ∧ (F 27 3).toInt = (F 27 3).toInt) ∨ (50 ≤ (F 27 2).toInt ∧ ((-4) : Int32).toInt = -4 ∧ (F 27 0).toInt = (F 27 0).toInt ∧ (F 27 1).toInt = (F 27 1).toInt ∧ (F 27 2).toInt = (F 27 2).toInt ∧ (F 27 3).toInt = (F 27 3).toInt) by have q9 := rl_nm4; omega)⟩, ⟨by rw [ht]; exact hP, hD⟩⟩, hS.F ht⟩) hS.2.2 d_c_add_11
set_option maxHeartbeats 4000000 in
set_option maxRecDepth 100000 in
theorem k_c_firstThatHolds (l : Launch) (D : va_G) (a : Nat → Nat) (kI kZ : ClassId) (F : Nat → Nat → Int32) (jp1 jp2 jp3 : Int32) (hI : rl_I F) (H0 : Heap) : rl_Ri l ⟨"RightsLimit$Licences", "firstThatHolds", "(III)I"⟩ (Cond.code ⟨"RightsLimit$Licences", "firstThatHolds", "(III)I"⟩ prog_2_method_4_code 5 (some .int) :: rl_G) { frames := 1, cells := 0, slots := 0, locals := 22 } D rl_cl (rl_tys kI kZ) rl_nw [.ref (a 3), .int jp1, .int jp2, .int jp3] (rl_w a kI kZ F) H0 (fun (r : Int32) => r.toInt = -1 ∨ (0 ≤ r.toInt ∧ r.toInt < (F 27 2).toInt)) := by
  refine rl_metr (cc := prog_2_method_4_code) (maxL := 5) (ret := (some .int)) (by decide) rfl (Nat.le_of_ble_eq_true rfl) ?_
  intro p e s m below meth c ls hx hb hr hml hown hts hlocks hP hK hS hN hl
  have hown : s.vm.findClass "RightsLimit$Licences" = some m.cls := hown
  have hG : ∀ x ∈ rl_G, x.before _ s = true := fun x h => hts x (List.mem_cons_of_mem _ h)
  have hl : lv_has ls 5 [(0, .ref (a 3)), (1, .int jp1), (2, .int jp2), (3, .int jp3)] := hl
  obtain ⟨hcnt, hR⟩ := id hI
  refine lv_iconst (v := 0) hx hb d_c_firstThatHolds_0 (by decide) ?_
  refine lv_istore (lv' := [(4, .int 0), (0, .ref (a 3)), (1, .int jp1), (2, .int jp2), (3, .int jp3)]) hx hb d_c_firstThatHolds_1 hl (by decide) rfl (fun ls hl => ?_)
  have loop : ∀ (n : Nat) (i : Int32), 0 ≤ i.toInt → i.toInt ≤ (F 27 2).toInt → (F 27 2).toInt - i.toInt < n → ∀ (locs : List Loc) (ls : Array Slot), va_S (fun _ => False) s.heap s.heap locs → lv_has ls 5 [(0, .ref (a 3)), (1, .int jp1), (2, .int jp2), (3, .int jp3), (4, .int i)] → W p l e ({ frames := 1, cells := 0, slots := 0, locals := 22 } : Room) s m ([.ref (a 3), .int jp1, .int jp2, .int jp3] : List Value).toArray below meth c s.heap locs 0 0 (MQ below (va_Qi (S := Unit) (fun (r : Int32) _ => r.toInt = -1 ∨ (0 ≤ r.toInt ∧ r.toInt < (F 27 2).toInt)) (fun _ t => t.heap = s.heap) (fun _ => False)) ([.ref (a 3), .int jp1, .int jp2, .int jp3] : List Value).toArray s 0 0 (fun _ => False)) (F0 m 3 ls []) := by
    intro n
    induction n with
    | zero => intro i h1 h2 h3; exact absurd h3 (by omega)
    | succ n ih =>
      intro i h1 h2 h3 locs ls hS hl
      refine lv_iload hx hb d_c_firstThatHolds_3 (lv_at hl 4 rfl) ?_
      refine lv_aload_n hx hb d_c_firstThatHolds_5 rfl (lv_at hl 0 rfl) ?_
      refine va_get (D := D) (ci := 3) (v := .int (F 27 2)) (C := "RightsLimit$Licences") (T := fT_c) (N := 6) hx hb hG fi_c hown hK hP 3 rfl rfl 5 (by decide) (hG _ wd_97) (fun _ h9 => h9) rfl d_c_firstThatHolds_6 ?_
      refine lv_icmp_ge (tgt := 74) hx hb d_c_firstThatHolds_9 (by decide) (fun c1 => ?_) (fun c1 => ?_)
      · have ic1 := rl_ile c1
        refine lv_iconst (v := (-1)) hx hb d_c_firstThatHolds_74 (by decide) ?_
        exact W.iret (v := (-1)) hx hb hr (fun t ht hW => ⟨⟨(-1), (), rfl, (show ((-1) : Int32).toInt = -1 ∨ (0 ≤ ((-1) : Int32).toInt ∧ ((-1) : Int32).toInt < (F 27 2).toInt) by have q9 := rl_nm1; omega), ht⟩, hS.F ht⟩) hS.2.2 d_c_firstThatHolds_75
      · have ic1 := rl_inle c1
        refine lv_aload_n hx hb d_c_firstThatHolds_12 rfl (lv_at hl 0 rfl) ?_
        refine va_get (D := D) (ci := 3) (v := .ref (a 13)) (C := "RightsLimit$Licences") (T := fT_c) (N := 6) hx hb hG fi_c hown hK hP 3 rfl rfl 0 (by decide) (hG _ wd_91) (fun _ h9 => h9) rfl d_c_firstThatHolds_13 ?_
        refine lv_iload hx hb d_c_firstThatHolds_16 (lv_at hl 4 rfl) ?_
        refine va_iald hx hb hK hP 13 0 rfl rfl (rl_in (n := 50) (by omega) (by omega)) d_c_firstThatHolds_18 ?_
        refine lv_topi (fun v2 ev2 => ?_)
        refine lv_iload_n hx hb d_c_firstThatHolds_19 rfl (lv_at hl 1 rfl) ?_
        refine lv_icmp_ne (tgt := 68) hx hb d_c_firstThatHolds_20 (by decide) (fun c3 => ?_) (fun c3 => ?_)
        · have ic3 := rl_ine c3
          obtain ⟨x4, ex4⟩ : ∃ y : Int32, y = i + 1 := ⟨_, rfl⟩
          refine lv_iinc (v := x4) (lv' := [(4, .int x4), (0, .ref (a 3)), (1, .int jp1), (2, .int jp2), (3, .int jp3)]) hx hb d_c_firstThatHolds_68 hl (k := 4) rfl (by rw [ex4]; rfl) (by decide) rfl (fun ls hl => ?_)
          have ix4 : x4.toInt = i.toInt + 1 := by rw [ex4]; exact rl_inc (by omega)
          refine lv_goto (tgt := 3) hx hb d_c_firstThatHolds_71 (by decide) ?_
          exact ih x4 (by omega) (by omega) (by omega) _ _ hS (lv_sub hl [1, 2, 3, 4, 0] rfl)
        · have ic3 := rl_ieq c3
          refine lv_aload_n hx hb d_c_firstThatHolds_23 rfl (lv_at hl 0 rfl) ?_
          refine va_get (D := D) (ci := 3) (v := .ref (a 14)) (C := "RightsLimit$Licences") (T := fT_c) (N := 6) hx hb hG fi_c hown hK hP 3 rfl rfl 1 (by decide) (hG _ wd_92) (fun _ h9 => h9) rfl d_c_firstThatHolds_24 ?_
          refine lv_iload hx hb d_c_firstThatHolds_27 (lv_at hl 4 rfl) ?_
          refine va_iald hx hb hK hP 14 0 rfl rfl (rl_in (n := 50) (by omega) (by omega)) d_c_firstThatHolds_29 ?_
          refine lv_topi (fun v5 ev5 => ?_)
          refine lv_iload_n hx hb d_c_firstThatHolds_30 rfl (lv_at hl 2 rfl) ?_
          refine lv_icmp_ne (tgt := 68) hx hb d_c_firstThatHolds_31 (by decide) (fun c6 => ?_) (fun c6 => ?_)
          · have ic6 := rl_ine c6
            obtain ⟨x7, ex7⟩ : ∃ y : Int32, y = i + 1 := ⟨_, rfl⟩
            refine lv_iinc (v := x7) (lv' := [(4, .int x7), (0, .ref (a 3)), (1, .int jp1), (2, .int jp2), (3, .int jp3)]) hx hb d_c_firstThatHolds_68 hl (k := 4) rfl (by rw [ex7]; rfl) (by decide) rfl (fun ls hl => ?_)
            have ix7 : x7.toInt = i.toInt + 1 := by rw [ex7]; exact rl_inc (by omega)
            refine lv_goto (tgt := 3) hx hb d_c_firstThatHolds_71 (by decide) ?_
            exact ih x7 (by omega) (by omega) (by omega) _ _ hS (lv_sub hl [1, 2, 3, 4, 0] rfl)
          · have ic6 := rl_ieq c6
            refine lv_iload_n hx hb d_c_firstThatHolds_34 rfl (lv_at hl 3 rfl) ?_
            refine lv_aload_n hx hb d_c_firstThatHolds_35 rfl (lv_at hl 0 rfl) ?_
            refine va_get (D := D) (ci := 3) (v := .ref (a 16)) (C := "RightsLimit$Licences") (T := fT_c) (N := 6) hx hb hG fi_c hown hK hP 3 rfl rfl 3 (by decide) (hG _ wd_95) (fun _ h9 => h9) rfl d_c_firstThatHolds_36 ?_
            refine lv_iload hx hb d_c_firstThatHolds_39 (lv_at hl 4 rfl) ?_
            refine va_iald hx hb hK hP 16 0 rfl rfl (rl_in (n := 50) (by omega) (by omega)) d_c_firstThatHolds_41 ?_
            refine lv_topi (fun v8 ev8 => ?_)
            refine lv_aload_n hx hb d_c_firstThatHolds_42 rfl (lv_at hl 0 rfl) ?_
            refine va_get (D := D) (ci := 3) (v := .ref (a 17)) (C := "RightsLimit$Licences") (T := fT_c) (N := 6) hx hb hG fi_c hown hK hP 3 rfl rfl 4 (by decide) (hG _ wd_96) (fun _ h9 => h9) rfl d_c_firstThatHolds_43 ?_
            refine lv_iload hx hb d_c_firstThatHolds_46 (lv_at hl 4 rfl) ?_
            refine va_iald hx hb hK hP 17 0 rfl rfl (rl_in (n := 50) (by omega) (by omega)) d_c_firstThatHolds_48 ?_
            refine lv_topi (fun v9 ev9 => ?_)
            refine rl_callr hS (va_runSN (As := [.int jp3, .int v8, .int v9]) (rest := []) ⟨hx, hb, hml, hown, hG⟩ (k_x_isBetween l D a kI kZ jp3 v8 v9 _) ⟨va_cnB 3 hG (rl_gI wd_202) rfl rfl rfl (hN _ (List.mem_of_getElem? (i := 4) rfl)) (hG _ wd_14) (by decide +kernel) ⟨Nat.le_of_ble_eq_true rfl, Nat.le_of_ble_eq_true rfl⟩, (hG _ wd_201), trivial⟩ (rl_BR.pre rl_nw_ok rl_P0 hK hN) rfl rfl hl.1 rfl (lv_room (Nat.le_of_ble_eq_true rfl)) d_c_firstThatHolds_49 ⟨Nat.le_of_ble_eq_true rfl, Nat.le_of_ble_eq_true rfl⟩) (fun r10 locs hw hS => ?_)
            rcases hw with ⟨rfl, h11⟩ | ⟨rfl, h11⟩
            · refine lv_if_eq (tgt := 68) hx hb d_c_firstThatHolds_52 (by decide) (fun c9 => absurd c9 (by decide)) (fun _ => ?_)
              refine lv_aload_n hx hb d_c_firstThatHolds_55 rfl (lv_at hl 0 rfl) ?_
              refine va_get (D := D) (ci := 3) (v := .ref (a 15)) (C := "RightsLimit$Licences") (T := fT_c) (N := 6) hx hb hG fi_c hown hK hP 3 rfl rfl 2 (by decide) (hG _ wd_93) (fun _ h9 => h9) rfl d_c_firstThatHolds_56 ?_
              refine lv_iload hx hb d_c_firstThatHolds_59 (lv_at hl 4 rfl) ?_
              refine va_iald hx hb hK hP 15 0 rfl rfl (rl_in (n := 50) (by omega) (by omega)) d_c_firstThatHolds_61 ?_
              refine lv_topi (fun v12 ev12 => ?_)
              refine lv_if_le (tgt := 68) hx hb d_c_firstThatHolds_62 (by decide) (fun c13 => ?_) (fun c13 => ?_)
              · have ic13 := rl_ile c13
                simp only [rl_n0] at ic13
                obtain ⟨x14, ex14⟩ : ∃ y : Int32, y = i + 1 := ⟨_, rfl⟩
                refine lv_iinc (v := x14) (lv' := [(4, .int x14), (0, .ref (a 3)), (1, .int jp1), (2, .int jp2), (3, .int jp3)]) hx hb d_c_firstThatHolds_68 hl (k := 4) rfl (by rw [ex14]; rfl) (by decide) rfl (fun ls hl => ?_)
                have ix14 : x14.toInt = i.toInt + 1 := by rw [ex14]; exact rl_inc (by omega)
                refine lv_goto (tgt := 3) hx hb d_c_firstThatHolds_71 (by decide) ?_
                exact ih x14 (by omega) (by omega) (by omega) _ _ hS (lv_sub hl [1, 2, 3, 4, 0] rfl)
              · have ic13 := rl_inle c13
                simp only [rl_n0] at ic13
                refine lv_iload hx hb d_c_firstThatHolds_65 (lv_at hl 4 rfl) ?_
                exact W.iret (v := i) hx hb hr (fun t ht hW => ⟨⟨i, (), rfl, (show i.toInt = -1 ∨ (0 ≤ i.toInt ∧ i.toInt < (F 27 2).toInt) by omega), ht⟩, hS.F ht⟩) hS.2.2 d_c_firstThatHolds_67
            · refine lv_if_eq (tgt := 68) hx hb d_c_firstThatHolds_52 (by decide) (fun _ => ?_) (fun c9 => absurd c9 (by decide))
              obtain ⟨x15, ex15⟩ : ∃ y : Int32, y = i + 1 := ⟨_, rfl⟩
              refine lv_iinc (v := x15) (lv' := [(4, .int x15), (0, .ref (a 3)), (1, .int jp1), (2, .int jp2), (3, .int jp3)]) hx hb d_c_firstThatHolds_68 hl (k := 4) rfl (by rw [ex15]; rfl) (by decide) rfl (fun ls hl => ?_)
              have ix15 : x15.toInt = i.toInt + 1 := by rw [ex15]; exact rl_inc (by omega)
              refine lv_goto (tgt := 3) hx hb d_c_firstThatHolds_71 (by decide) ?_
              exact ih x15 (by omega) (by omega) (by omega) _ _ hS (lv_sub hl [1, 2, 3, 4, 0] rfl)
  exact loop 400 0 (by decide) (by simp only [rl_n0]; omega) (by simp only [rl_n0]; omega) _ _ hS (lv_sub hl [1, 2, 3, 4, 0] rfl)
set_option maxHeartbeats 4000000 in
set_option maxRecDepth 100000 in
theorem k_q_has (l : Launch) (D : va_G) (a : Nat → Nat) (kI kZ : ClassId) (F : Nat → Nat → Int32) (jn : Int32) (hI : rl_I F) (H0 : Heap) : rl_Ri l ⟨"RightsLimit$Requests", "has", "(I)Z"⟩ (Cond.code ⟨"RightsLimit$Requests", "has", "(I)Z"⟩ prog_4_method_2_code 2 (some .boolean) :: rl_G) { frames := 0, cells := 0, slots := 0, locals := 0 } D rl_cl (rl_tys kI kZ) rl_nw [.ref (a 4), .int jn] (rl_w a kI kZ F) H0 (fun (r : Int32) => (r = 1 ∧ (0 ≤ jn.toInt ∧ jn.toInt < (F 27 3).toInt)) ∨ (r = 0 ∧ ¬ (0 ≤ jn.toInt ∧ jn.toInt < (F 27 3).toInt))) := by
  refine rl_metr (cc := prog_4_method_2_code) (maxL := 2) (ret := (some .boolean)) (by decide) rfl (Nat.le_of_ble_eq_true rfl) ?_
  intro p e s m below meth c ls hx hb hr hml hown hts hlocks hP hK hS hN hl
  have hown : s.vm.findClass "RightsLimit$Requests" = some m.cls := hown
  have hG : ∀ x ∈ rl_G, x.before _ s = true := fun x h => hts x (List.mem_cons_of_mem _ h)
  have hl : lv_has ls 2 [(0, .ref (a 4)), (1, .int jn)] := hl
  obtain ⟨hcnt, hR⟩ := id hI
  refine lv_iload_n hx hb d_q_has_0 rfl (lv_at hl 1 rfl) ?_
  refine lv_if_lt (tgt := 16) hx hb d_q_has_1 (by decide) (fun c1 => ?_) (fun c1 => ?_)
  · have ic1 := rl_ilt c1
    simp only [rl_n0] at ic1
    refine lv_iconst (v := 0) hx hb d_q_has_16 (by decide) ?_
    exact W.zret (v := 0) hx hb hr rfl (fun t ht hW => ⟨⟨0, (), rfl, Or.inr ⟨rfl, by omega⟩, ht⟩, hS.F ht⟩) hS.2.2 d_q_has_17
  · have ic1 := rl_inlt c1
    simp only [rl_n0] at ic1
    refine lv_iload_n hx hb d_q_has_4 rfl (lv_at hl 1 rfl) ?_
    refine lv_aload_n hx hb d_q_has_5 rfl (lv_at hl 0 rfl) ?_
    refine va_get (D := D) (ci := 4) (v := .int (F 27 3)) (C := "RightsLimit$Requests") (T := fT_q) (N := 13) hx hb hG fi_q hown hK hP 4 rfl rfl 12 (by decide) (hG _ wd_140) (fun _ h9 => h9) rfl d_q_has_6 ?_
    refine lv_icmp_ge (tgt := 16) hx hb d_q_has_9 (by decide) (fun c2 => ?_) (fun c2 => ?_)
    · have ic2 := rl_ile c2
      refine lv_iconst (v := 0) hx hb d_q_has_16 (by decide) ?_
      exact W.zret (v := 0) hx hb hr rfl (fun t ht hW => ⟨⟨0, (), rfl, Or.inr ⟨rfl, by omega⟩, ht⟩, hS.F ht⟩) hS.2.2 d_q_has_17
    · have ic2 := rl_inle c2
      refine lv_iconst (v := 1) hx hb d_q_has_12 (by decide) ?_
      refine lv_goto (tgt := 17) hx hb d_q_has_13 (by decide) ?_
      exact W.zret (v := 1) hx hb hr rfl (fun t ht hW => ⟨⟨1, (), rfl, Or.inl ⟨rfl, by omega⟩, ht⟩, hS.F ht⟩) hS.2.2 d_q_has_17
set_option maxHeartbeats 4000000 in
set_option maxRecDepth 100000 in
theorem k_q_add (l : Launch) (D : va_G) (a : Nat → Nat) (kI kZ : ClassId) (F : Nat → Nat → Int32) (jp1 jp2 jp3 jp4 jp5 : Int32) (hI : rl_I F) (sz : Nat) : rl_Ci (S := Nat → Nat → Int32) l ⟨"RightsLimit$Requests", "add", "(IIIII)I"⟩ (Cond.code ⟨"RightsLimit$Requests", "add", "(IIIII)I"⟩ prog_4_method_3_code 6 (some .int) :: rl_G) { frames := 0, cells := 0, slots := 0, locals := 0 } D rl_cl (rl_tys kI kZ) rl_nw [.ref (a 4), .int jp1, .int jp2, .int jp3, .int jp4, .int jp5] (rl_w a kI kZ F) sz (fun (r : Int32) (F' : Nat → Nat → Int32) => rl_R F' ∧ (((F 27 3).toInt < 300 ∧ r.toInt = (F 27 3).toInt ∧ (F' 27 3).toInt = (F 27 3).toInt + 1 ∧ (F' 27 0).toInt = (F 27 0).toInt ∧ (F' 27 1).toInt = (F 27 1).toInt ∧ (F' 27 2).toInt = (F 27 2).toInt) ∨ (300 ≤ (F 27 3).toInt ∧ r.toInt = -4 ∧ (F' 27 0).toInt = (F 27 0).toInt ∧ (F' 27 1).toInt = (F 27 1).toInt ∧ (F' 27 2).toInt = (F 27 2).toInt ∧ (F' 27 3).toInt = (F 27 3).toInt))) (fun F' => rl_w a kI kZ F') 0 0 := by
  refine rl_meti (cc := prog_4_method_3_code) (maxL := 6) (ret := (some .int)) (by decide) rfl (Nat.le_of_ble_eq_true rfl) ?_
  intro p e s m below meth c A ls hx hb hr hml hown hts hlocks hnm hP hK hD hS hA hN hl
  have hown : s.vm.findClass "RightsLimit$Requests" = some m.cls := hown
  have hG : ∀ x ∈ rl_G, x.before _ s = true := fun x h => hts x (List.mem_cons_of_mem _ h)
  have hl : lv_has ls 6 [(0, .ref (a 4)), (1, .int jp1), (2, .int jp2), (3, .int jp3), (4, .int jp4), (5, .int jp5)] := hl
  obtain ⟨hcnt, hR⟩ := id hI
  refine lv_aload_n hx hb d_q_add_0 rfl (lv_at hl 0 rfl) ?_
  refine va_get (D := D) (ci := 4) (v := .int (F 27 3)) (C := "RightsLimit$Requests") (T := fT_q) (N := 13) hx hb hG fi_q hown hK hP 4 rfl rfl 12 (by decide) (hG _ wd_140) (fun _ h9 => h9) rfl d_q_add_1 ?_
  refine lv_sipush (v := 300) hx hb d_q_add_4 (by decide) ?_
  refine lv_icmp_lt (tgt := 13) hx hb d_q_add_7 (by decide) (fun c1 => ?_) (fun c1 => ?_)
  · have ic1 := rl_ilt c1
    simp only [rl_n300] at ic1
    refine lv_aload_n hx hb d_q_add_13 rfl (lv_at hl 0 rfl) ?_
    refine va_get (D := D) (ci := 4) (v := .ref (a 18)) (C := "RightsLimit$Requests") (T := fT_q) (N := 13) hx hb hG fi_q hown hK hP 4 rfl rfl 0 (by decide) (hG _ wd_117) (fun _ h9 => h9) rfl d_q_add_14 ?_
    refine lv_aload_n hx hb d_q_add_17 rfl (lv_at hl 0 rfl) ?_
    refine va_get (D := D) (ci := 4) (v := .int (F 27 3)) (C := "RightsLimit$Requests") (T := fT_q) (N := 13) hx hb hG fi_q hown hK hP 4 rfl rfl 12 (by decide) (hG _ wd_140) (fun _ h9 => h9) rfl d_q_add_18 ?_
    refine lv_iload_n hx hb d_q_add_21 rfl (lv_at hl 1 rfl) ?_
    refine va_iast hx hb hK hP hD hS 18 0 rfl rfl (rl_in (n := 300) (by omega) (by omega)) d_q_add_22 (fun H locs hP hD hS => ?_)
    obtain ⟨F2, eF2⟩ : ∃ G, G = rl_st F 13 ((F 27 3).toNatClampNeg) jp1 := ⟨_, rfl⟩
    have hP : va_P D rl_cl (rl_w a kI kZ F2) H := by rw [eF2]; exact hP
    have hD : va_D A (rl_w a kI kZ F2) := by rw [eF2]; exact hD
    obtain ⟨tF2, hRF2⟩ := rl_keep eF2 (by decide) (by decide) hR
    refine lv_aload_n hx hb d_q_add_23 rfl (lv_at hl 0 rfl) ?_
    refine va_get (D := D) (ci := 4) (v := .ref (a 19)) (C := "RightsLimit$Requests") (T := fT_q) (N := 13) hx hb hG fi_q hown hK hP 4 rfl rfl 1 (by decide) (hG _ wd_119) (fun _ h9 => h9) rfl d_q_add_24 ?_
    refine lv_aload_n hx hb d_q_add_27 rfl (lv_at hl 0 rfl) ?_
    refine va_get (D := D) (ci := 4) (v := .int (F2 27 3)) (C := "RightsLimit$Requests") (T := fT_q) (N := 13) hx hb hG fi_q hown hK hP 4 rfl rfl 12 (by decide) (hG _ wd_140) (fun _ h9 => h9) rfl d_q_add_28 ?_
    refine lv_iload_n hx hb d_q_add_31 rfl (lv_at hl 2 rfl) ?_
    refine va_iast hx hb hK hP hD hS 19 0 rfl rfl (rl_in (n := 300) (by omega) (by omega)) d_q_add_32 (fun H locs hP hD hS => ?_)
    obtain ⟨F3, eF3⟩ : ∃ G, G = rl_st F2 14 ((F2 27 3).toNatClampNeg) jp2 := ⟨_, rfl⟩
    have hP : va_P D rl_cl (rl_w a kI kZ F3) H := by rw [eF3]; exact hP
    have hD : va_D A (rl_w a kI kZ F3) := by rw [eF3]; exact hD
    obtain ⟨tF3, hRF3⟩ := rl_keep eF3 (by decide) (by decide) hRF2
    refine lv_aload_n hx hb d_q_add_33 rfl (lv_at hl 0 rfl) ?_
    refine va_get (D := D) (ci := 4) (v := .ref (a 20)) (C := "RightsLimit$Requests") (T := fT_q) (N := 13) hx hb hG fi_q hown hK hP 4 rfl rfl 2 (by decide) (hG _ wd_121) (fun _ h9 => h9) rfl d_q_add_34 ?_
    refine lv_aload_n hx hb d_q_add_37 rfl (lv_at hl 0 rfl) ?_
    refine va_get (D := D) (ci := 4) (v := .int (F3 27 3)) (C := "RightsLimit$Requests") (T := fT_q) (N := 13) hx hb hG fi_q hown hK hP 4 rfl rfl 12 (by decide) (hG _ wd_140) (fun _ h9 => h9) rfl d_q_add_38 ?_
    refine lv_iload_n hx hb d_q_add_41 rfl (lv_at hl 3 rfl) ?_
    refine va_iast hx hb hK hP hD hS 20 0 rfl rfl (rl_in (n := 300) (by omega) (by omega)) d_q_add_42 (fun H locs hP hD hS => ?_)
    obtain ⟨F4, eF4⟩ : ∃ G, G = rl_st F3 15 ((F3 27 3).toNatClampNeg) jp3 := ⟨_, rfl⟩
    have hP : va_P D rl_cl (rl_w a kI kZ F4) H := by rw [eF4]; exact hP
    have hD : va_D A (rl_w a kI kZ F4) := by rw [eF4]; exact hD
    obtain ⟨tF4, hRF4⟩ := rl_keep eF4 (by decide) (by decide) hRF3
    refine lv_aload_n hx hb d_q_add_43 rfl (lv_at hl 0 rfl) ?_
    refine va_get (D := D) (ci := 4) (v := .ref (a 21)) (C := "RightsLimit$Requests") (T := fT_q) (N := 13) hx hb hG fi_q hown hK hP 4 rfl rfl 3 (by decide) (hG _ wd_123) (fun _ h9 => h9) rfl d_q_add_44 ?_
    refine lv_aload_n hx hb d_q_add_47 rfl (lv_at hl 0 rfl) ?_
    refine va_get (D := D) (ci := 4) (v := .int (F4 27 3)) (C := "RightsLimit$Requests") (T := fT_q) (N := 13) hx hb hG fi_q hown hK hP 4 rfl rfl 12 (by decide) (hG _ wd_140) (fun _ h9 => h9) rfl d_q_add_48 ?_
    refine lv_iload hx hb d_q_add_51 (lv_at hl 4 rfl) ?_
    refine va_iast hx hb hK hP hD hS 21 0 rfl rfl (rl_in (n := 300) (by omega) (by omega)) d_q_add_53 (fun H locs hP hD hS => ?_)
    obtain ⟨F5, eF5⟩ : ∃ G, G = rl_st F4 16 ((F4 27 3).toNatClampNeg) jp4 := ⟨_, rfl⟩
    have hP : va_P D rl_cl (rl_w a kI kZ F5) H := by rw [eF5]; exact hP
    have hD : va_D A (rl_w a kI kZ F5) := by rw [eF5]; exact hD
    obtain ⟨tF5, hRF5⟩ := rl_keep eF5 (by decide) (by decide) hRF4
    refine lv_aload_n hx hb d_q_add_54 rfl (lv_at hl 0 rfl) ?_
    refine va_get (D := D) (ci := 4) (v := .ref (a 22)) (C := "RightsLimit$Requests") (T := fT_q) (N := 13) hx hb hG fi_q hown hK hP 4 rfl rfl 4 (by decide) (hG _ wd_125) (fun _ h9 => h9) rfl d_q_add_55 ?_
    refine lv_aload_n hx hb d_q_add_58 rfl (lv_at hl 0 rfl) ?_
    refine va_get (D := D) (ci := 4) (v := .int (F5 27 3)) (C := "RightsLimit$Requests") (T := fT_q) (N := 13) hx hb hG fi_q hown hK hP 4 rfl rfl 12 (by decide) (hG _ wd_140) (fun _ h9 => h9) rfl d_q_add_59 ?_
    refine lv_iload hx hb d_q_add_62 (lv_at hl 5 rfl) ?_
    refine va_iast hx hb hK hP hD hS 22 0 rfl rfl (rl_in (n := 300) (by omega) (by omega)) d_q_add_64 (fun H locs hP hD hS => ?_)
    obtain ⟨F6, eF6⟩ : ∃ G, G = rl_st F5 17 ((F5 27 3).toNatClampNeg) jp5 := ⟨_, rfl⟩
    have hP : va_P D rl_cl (rl_w a kI kZ F6) H := by rw [eF6]; exact hP
    have hD : va_D A (rl_w a kI kZ F6) := by rw [eF6]; exact hD
    obtain ⟨tF6, hRF6⟩ := rl_keep eF6 (by decide) (by decide) hRF5
    refine lv_aload_n hx hb d_q_add_65 rfl (lv_at hl 0 rfl) ?_
    refine va_get (D := D) (ci := 4) (v := .ref (a 23)) (C := "RightsLimit$Requests") (T := fT_q) (N := 13) hx hb hG fi_q hown hK hP 4 rfl rfl 5 (by decide) (hG _ wd_127) (fun _ h9 => h9) rfl d_q_add_66 ?_
    refine lv_aload_n hx hb d_q_add_69 rfl (lv_at hl 0 rfl) ?_
    refine va_get (D := D) (ci := 4) (v := .int (F6 27 3)) (C := "RightsLimit$Requests") (T := fT_q) (N := 13) hx hb hG fi_q hown hK hP 4 rfl rfl 12 (by decide) (hG _ wd_140) (fun _ h9 => h9) rfl d_q_add_70 ?_
    refine lv_iconst (v := 0) hx hb d_q_add_73 (by decide) ?_
    refine va_iast hx hb hK hP hD hS 23 0 rfl rfl (rl_in (n := 300) (by omega) (by omega)) d_q_add_74 (fun H locs hP hD hS => ?_)
    obtain ⟨F7, eF7⟩ : ∃ G, G = rl_st F6 18 ((F6 27 3).toNatClampNeg) 0 := ⟨_, rfl⟩
    have hP : va_P D rl_cl (rl_w a kI kZ F7) H := by rw [eF7]; exact hP
    have hD : va_D A (rl_w a kI kZ F7) := by rw [eF7]; exact hD
    obtain ⟨tF7, hRF7⟩ := rl_keep eF7 (by decide) (by decide) hRF6
    refine lv_aload_n hx hb d_q_add_75 rfl (lv_at hl 0 rfl) ?_
    refine va_get (D := D) (ci := 4) (v := .ref (a 24)) (C := "RightsLimit$Requests") (T := fT_q) (N := 13) hx hb hG fi_q hown hK hP 4 rfl rfl 6 (by decide) (hG _ wd_129) (fun _ h9 => h9) rfl d_q_add_76 ?_
    refine lv_aload_n hx hb d_q_add_79 rfl (lv_at hl 0 rfl) ?_
    refine va_get (D := D) (ci := 4) (v := .int (F7 27 3)) (C := "RightsLimit$Requests") (T := fT_q) (N := 13) hx hb hG fi_q hown hK hP 4 rfl rfl 12 (by decide) (hG _ wd_140) (fun _ h9 => h9) rfl d_q_add_80 ?_
    refine lv_iconst (v := (-1)) hx hb d_q_add_83 (by decide) ?_
    refine va_iast hx hb hK hP hD hS 24 0 rfl rfl (rl_in (n := 300) (by omega) (by omega)) d_q_add_84 (fun H locs hP hD hS => ?_)
    obtain ⟨F8, eF8⟩ : ∃ G, G = rl_st F7 19 ((F7 27 3).toNatClampNeg) (-1) := ⟨_, rfl⟩
    have hP : va_P D rl_cl (rl_w a kI kZ F8) H := by rw [eF8]; exact hP
    have hD : va_D A (rl_w a kI kZ F8) := by rw [eF8]; exact hD
    obtain ⟨tF8, hRF8⟩ := rl_keep eF8 (by decide) (by decide) hRF7
    refine lv_aload_n hx hb d_q_add_85 rfl (lv_at hl 0 rfl) ?_
    refine va_get (D := D) (ci := 4) (v := .ref (a 27)) (C := "RightsLimit$Requests") (T := fT_q) (N := 13) hx hb hG fi_q hown hK hP 4 rfl rfl 9 (by decide) (hG _ wd_134) (fun _ h9 => h9) rfl d_q_add_86 ?_
    refine lv_aload_n hx hb d_q_add_89 rfl (lv_at hl 0 rfl) ?_
    refine va_get (D := D) (ci := 4) (v := .int (F8 27 3)) (C := "RightsLimit$Requests") (T := fT_q) (N := 13) hx hb hG fi_q hown hK hP 4 rfl rfl 12 (by decide) (hG _ wd_140) (fun _ h9 => h9) rfl d_q_add_90 ?_
    refine lv_iconst (v := (-1)) hx hb d_q_add_93 (by decide) ?_
    refine va_iast hx hb hK hP hD hS 27 0 rfl rfl (rl_in (n := 300) (by omega) (by omega)) d_q_add_94 (fun H locs hP hD hS => ?_)
    obtain ⟨F9, eF9⟩ : ∃ G, G = rl_st F8 22 ((F8 27 3).toNatClampNeg) (-1) := ⟨_, rfl⟩
    have hP : va_P D rl_cl (rl_w a kI kZ F9) H := by rw [eF9]; exact hP
    have hD : va_D A (rl_w a kI kZ F9) := by rw [eF9]; exact hD
    obtain ⟨tF9, hRF9⟩ := rl_keep eF9 (by decide) (by decide) hRF8
    refine lv_aload_n hx hb d_q_add_95 rfl (lv_at hl 0 rfl) ?_
    refine va_get (D := D) (ci := 4) (v := .ref (a 29)) (C := "RightsLimit$Requests") (T := fT_q) (N := 13) hx hb hG fi_q hown hK hP 4 rfl rfl 11 (by decide) (hG _ wd_138) (fun _ h9 => h9) rfl d_q_add_96 ?_
    refine lv_aload_n hx hb d_q_add_99 rfl (lv_at hl 0 rfl) ?_
    refine va_get (D := D) (ci := 4) (v := .int (F9 27 3)) (C := "RightsLimit$Requests") (T := fT_q) (N := 13) hx hb hG fi_q hown hK hP 4 rfl rfl 12 (by decide) (hG _ wd_140) (fun _ h9 => h9) rfl d_q_add_100 ?_
    refine lv_iconst (v := (-1)) hx hb d_q_add_103 (by decide) ?_
    refine va_iast hx hb hK hP hD hS 29 0 rfl rfl (rl_in (n := 300) (by omega) (by omega)) d_q_add_104 (fun H locs hP hD hS => ?_)
    obtain ⟨F10, eF10⟩ : ∃ G, G = rl_st F9 24 ((F9 27 3).toNatClampNeg) (-1) := ⟨_, rfl⟩
    have hP : va_P D rl_cl (rl_w a kI kZ F10) H := by rw [eF10]; exact hP
    have hD : va_D A (rl_w a kI kZ F10) := by rw [eF10]; exact hD
    obtain ⟨tF10, hRF10⟩ := rl_keep eF10 (by decide) (by decide) hRF9
    refine lv_aload_n hx hb d_q_add_105 rfl (lv_at hl 0 rfl) ?_
    refine lv_dup hx hb d_q_add_106 rfl ?_
    refine va_get (D := D) (ci := 4) (v := .int (F10 27 3)) (C := "RightsLimit$Requests") (T := fT_q) (N := 13) hx hb hG fi_q hown hK hP 4 rfl rfl 12 (by decide) (hG _ wd_140) (fun _ h9 => h9) rfl d_q_add_107 ?_
    refine lv_iconst (v := 1) hx hb d_q_add_110 (by decide) ?_
    refine lv_iadd hx hb d_q_add_111 ?_
    refine lv_topi (fun v11 ev11 => ?_)
    have iv11 : v11.toInt = (F10 27 3).toInt + 1 := by rw [ev11]; exact rl_addk (by decide) (by omega) (by omega)
    refine va_put (D := D) (ci := 4) (v := .int v11) (ty := .int) (C := "RightsLimit$Requests") (T := fT_q) (N := 13) hx hb hG fi_q fy_q fo_q fn_q hown hK hP hD hS 4 rfl rfl 12 (by decide) (hG _ wd_140) (fun _ h9 => h9) rfl (by decide +kernel) rfl rfl (Nat.le_of_ble_eq_true rfl) d_q_add_112 (fun H locs hP hD hS => ?_)
    obtain ⟨F12, eF12⟩ : ∃ G, G = rl_st F10 27 3 v11 := ⟨_, rfl⟩
    have hP : va_P D rl_cl (rl_w a kI kZ F12) H := by rw [eF12]; exact hP
    have hD : va_D A (rl_w a kI kZ F12) := by rw [eF12]; exact hD
    obtain ⟨tF12, hRF12⟩ := rl_put3 eF12 hRF10
    refine lv_aload_n hx hb d_q_add_115 rfl (lv_at hl 0 rfl) ?_
    refine va_get (D := D) (ci := 4) (v := .int (F12 27 3)) (C := "RightsLimit$Requests") (T := fT_q) (N := 13) hx hb hG fi_q hown hK hP 4 rfl rfl 12 (by decide) (hG _ wd_140) (fun _ h9 => h9) rfl d_q_add_116 ?_
    refine lv_iconst (v := 1) hx hb d_q_add_119 (by decide) ?_
    refine lv_isub hx hb d_q_add_120 ?_
    refine lv_topi (fun v13 ev13 => ?_)
    have iv13 : v13.toInt = (F12 27 3).toInt - 1 := by rw [ev13]; exact rl_subk (by decide) (by omega) (by omega)
    exact W.iret (v := v13) hx hb hr (fun t ht hW => ⟨⟨v13, F12, rfl, ⟨hRF12, (show ((F 27 3).toInt < 300 ∧ v13.toInt = (F 27 3).toInt ∧ (F12 27 3).toInt = (F 27 3).toInt + 1 ∧ (F12 27 0).toInt = (F 27 0).toInt ∧ (F12 27 1).toInt = (F 27 1).toInt ∧ (F12 27 2).toInt = (F 27 2).toInt) ∨ (300 ≤ (F 27 3).toInt ∧ v13.toInt = -4 ∧ (F12 27 0).toInt = (F 27 0).toInt ∧ (F12 27 1).toInt = (F 27 1).toInt ∧ (F12 27 2).toInt = (F 27 2).toInt ∧ (F12 27 3).toInt = (F 27 3).toInt) by omega)⟩, ⟨by rw [ht]; exact hP, hD⟩⟩, hS.F ht⟩) hS.2.2 d_q_add_121
  · have ic1 := rl_inlt c1
    simp only [rl_n300] at ic1
    refine lv_bipush (v := (-4)) hx hb d_q_add_10 (by decide) ?_
    exact W.iret (v := (-4)) hx hb hr (fun t ht hW => ⟨⟨(-4), F, rfl, ⟨hR, (show ((F 27 3).toInt < 300 ∧ ((-4) : Int32).toInt = (F 27 3).toInt ∧ (F 27 3).toInt = (F 27 3).toInt + 1 ∧ (F 27 0).toInt = (F 27 0).toInt ∧ (F 27 1).toInt = (F 27 1).toInt ∧ (F 27 2).toInt = (F 27 2).toInt) ∨ (300 ≤ (F 27 3).toInt ∧ ((-4) : Int32).toInt = -4 ∧ (F 27 0).toInt = (F 27 0).toInt ∧ (F 27 1).toInt = (F 27 1).toInt ∧ (F 27 2).toInt = (F 27 2).toInt ∧ (F 27 3).toInt = (F 27 3).toInt) by have q9 := rl_nm4; omega)⟩, ⟨by rw [ht]; exact hP, hD⟩⟩, hS.F ht⟩) hS.2.2 d_q_add_12
set_option maxHeartbeats 4000000 in
set_option maxRecDepth 100000 in
theorem k_q_allow (l : Launch) (D : va_G) (a : Nat → Nat) (kI kZ : ClassId) (F : Nat → Nat → Int32) (jn jb : Int32) (hI : rl_I F) (hn0 : 0 ≤ jn.toInt) (hn1 : jn.toInt < 300) (sz : Nat) : rl_Cv (S := Nat → Nat → Int32) l ⟨"RightsLimit$Requests", "allow", "(II)V"⟩ (Cond.code ⟨"RightsLimit$Requests", "allow", "(II)V"⟩ prog_4_method_4_code 3 none :: rl_G) { frames := 0, cells := 0, slots := 0, locals := 0 } D rl_cl (rl_tys kI kZ) rl_nw [.ref (a 4), .int jn, .int jb] (rl_w a kI kZ F) sz (fun (F' : Nat → Nat → Int32) => rl_R F' ∧ ((F' 27 0).toInt = (F 27 0).toInt ∧ (F' 27 1).toInt = (F 27 1).toInt ∧ (F' 27 2).toInt = (F 27 2).toInt ∧ (F' 27 3).toInt = (F 27 3).toInt)) (fun F' => rl_w a kI kZ F') 0 0 := by
  refine rl_metv (cc := prog_4_method_4_code) (maxL := 3) (ret := none) (by decide) rfl (Nat.le_of_ble_eq_true rfl) ?_
  intro p e s m below meth c A ls hx hb hr hml hown hts hlocks hnm hP hK hD hS hA hN hl
  have hown : s.vm.findClass "RightsLimit$Requests" = some m.cls := hown
  have hG : ∀ x ∈ rl_G, x.before _ s = true := fun x h => hts x (List.mem_cons_of_mem _ h)
  have hl : lv_has ls 3 [(0, .ref (a 4)), (1, .int jn), (2, .int jb)] := hl
  obtain ⟨hcnt, hR⟩ := id hI
  refine lv_aload_n hx hb d_q_allow_0 rfl (lv_at hl 0 rfl) ?_
  refine va_get (D := D) (ci := 4) (v := .ref (a 23)) (C := "RightsLimit$Requests") (T := fT_q) (N := 13) hx hb hG fi_q hown hK hP 4 rfl rfl 5 (by decide) (hG _ wd_127) (fun _ h9 => h9) rfl d_q_allow_1 ?_
  refine lv_iload_n hx hb d_q_allow_4 rfl (lv_at hl 1 rfl) ?_
  refine lv_iload_n hx hb d_q_allow_5 rfl (lv_at hl 2 rfl) ?_
  refine va_iast hx hb hK hP hD hS 23 0 rfl rfl (rl_in (n := 300) (by omega) (by omega)) d_q_allow_6 (fun H locs hP hD hS => ?_)
  obtain ⟨F1, eF1⟩ : ∃ G, G = rl_st F 18 jn.toNatClampNeg jb := ⟨_, rfl⟩
  have hP : va_P D rl_cl (rl_w a kI kZ F1) H := by rw [eF1]; exact hP
  have hD : va_D A (rl_w a kI kZ F1) := by rw [eF1]; exact hD
  obtain ⟨tF1, hRF1⟩ := rl_keep eF1 (by decide) (by decide) hR
  refine lv_aload_n hx hb d_q_allow_7 rfl (lv_at hl 0 rfl) ?_
  refine va_get (D := D) (ci := 4) (v := .ref (a 27)) (C := "RightsLimit$Requests") (T := fT_q) (N := 13) hx hb hG fi_q hown hK hP 4 rfl rfl 9 (by decide) (hG _ wd_134) (fun _ h9 => h9) rfl d_q_allow_8 ?_
  refine lv_iload_n hx hb d_q_allow_11 rfl (lv_at hl 1 rfl) ?_
  refine lv_aload_n hx hb d_q_allow_12 rfl (lv_at hl 0 rfl) ?_
  refine va_get (D := D) (ci := 4) (v := .ref (a 22)) (C := "RightsLimit$Requests") (T := fT_q) (N := 13) hx hb hG fi_q hown hK hP 4 rfl rfl 4 (by decide) (hG _ wd_125) (fun _ h9 => h9) rfl d_q_allow_13 ?_
  refine lv_iload_n hx hb d_q_allow_16 rfl (lv_at hl 1 rfl) ?_
  refine va_iald hx hb hK hP 22 0 rfl rfl (rl_in (n := 300) (by omega) (by omega)) d_q_allow_17 ?_
  refine lv_topi (fun v2 ev2 => ?_)
  refine lv_ldc (v := 2592000) hx hb hown (hG _ wd_271) d_q_allow_18 ?_
  refine lv_iadd hx hb d_q_allow_20 ?_
  refine lv_topi (fun v3 ev3 => ?_)
  refine va_iast hx hb hK hP hD hS 27 0 rfl rfl (rl_in (n := 300) (by omega) (by omega)) d_q_allow_21 (fun H locs hP hD hS => ?_)
  obtain ⟨F4, eF4⟩ : ∃ G, G = rl_st F1 22 jn.toNatClampNeg v3 := ⟨_, rfl⟩
  have hP : va_P D rl_cl (rl_w a kI kZ F4) H := by rw [eF4]; exact hP
  have hD : va_D A (rl_w a kI kZ F4) := by rw [eF4]; exact hD
  obtain ⟨tF4, hRF4⟩ := rl_keep eF4 (by decide) (by decide) hRF1
  exact W.vret hx hb hr (fun t ht hW => ⟨⟨F4, rfl, ⟨hRF4, (show (F4 27 0).toInt = (F 27 0).toInt ∧ (F4 27 1).toInt = (F 27 1).toInt ∧ (F4 27 2).toInt = (F 27 2).toInt ∧ (F4 27 3).toInt = (F 27 3).toInt by omega)⟩, ⟨by rw [ht]; exact hP, hD⟩⟩, hS.F ht⟩) hS.2.2 d_q_allow_22
set_option maxHeartbeats 4000000 in
set_option maxRecDepth 100000 in
theorem k_q_charge (l : Launch) (D : va_G) (a : Nat → Nat) (kI kZ : ClassId) (F : Nat → Nat → Int32) (jn jb : Int32) (hI : rl_I F) (hn0 : 0 ≤ jn.toInt) (hn1 : jn.toInt < 300) (sz : Nat) : rl_Cv (S := Nat → Nat → Int32) l ⟨"RightsLimit$Requests", "charge", "(II)V"⟩ (Cond.code ⟨"RightsLimit$Requests", "charge", "(II)V"⟩ prog_4_method_5_code 3 none :: rl_G) { frames := 0, cells := 0, slots := 0, locals := 0 } D rl_cl (rl_tys kI kZ) rl_nw [.ref (a 4), .int jn, .int jb] (rl_w a kI kZ F) sz (fun (F' : Nat → Nat → Int32) => rl_R F' ∧ ((F' 27 0).toInt = (F 27 0).toInt ∧ (F' 27 1).toInt = (F 27 1).toInt ∧ (F' 27 2).toInt = (F 27 2).toInt ∧ (F' 27 3).toInt = (F 27 3).toInt)) (fun F' => rl_w a kI kZ F') 0 0 := by
  refine rl_metv (cc := prog_4_method_5_code) (maxL := 3) (ret := none) (by decide) rfl (Nat.le_of_ble_eq_true rfl) ?_
  intro p e s m below meth c A ls hx hb hr hml hown hts hlocks hnm hP hK hD hS hA hN hl
  have hown : s.vm.findClass "RightsLimit$Requests" = some m.cls := hown
  have hG : ∀ x ∈ rl_G, x.before _ s = true := fun x h => hts x (List.mem_cons_of_mem _ h)
  have hl : lv_has ls 3 [(0, .ref (a 4)), (1, .int jn), (2, .int jb)] := hl
  obtain ⟨hcnt, hR⟩ := id hI
  refine lv_aload_n hx hb d_q_charge_0 rfl (lv_at hl 0 rfl) ?_
  refine va_get (D := D) (ci := 4) (v := .ref (a 25)) (C := "RightsLimit$Requests") (T := fT_q) (N := 13) hx hb hG fi_q hown hK hP 4 rfl rfl 7 (by decide) (hG _ wd_131) (fun _ h9 => h9) rfl d_q_charge_1 ?_
  refine lv_iload_n hx hb d_q_charge_4 rfl (lv_at hl 1 rfl) ?_
  refine lv_aload_n hx hb d_q_charge_5 rfl (lv_at hl 0 rfl) ?_
  refine va_get (D := D) (ci := 4) (v := .ref (a 21)) (C := "RightsLimit$Requests") (T := fT_q) (N := 13) hx hb hG fi_q hown hK hP 4 rfl rfl 3 (by decide) (hG _ wd_123) (fun _ h9 => h9) rfl d_q_charge_6 ?_
  refine lv_iload_n hx hb d_q_charge_9 rfl (lv_at hl 1 rfl) ?_
  refine va_iald hx hb hK hP 21 0 rfl rfl (rl_in (n := 300) (by omega) (by omega)) d_q_charge_10 ?_
  refine lv_topi (fun v1 ev1 => ?_)
  refine lv_iload_n hx hb d_q_charge_11 rfl (lv_at hl 2 rfl) ?_
  refine lv_imul hx hb d_q_charge_12 ?_
  refine lv_topi (fun v2 ev2 => ?_)
  refine va_iast hx hb hK hP hD hS 25 0 rfl rfl (rl_in (n := 300) (by omega) (by omega)) d_q_charge_13 (fun H locs hP hD hS => ?_)
  obtain ⟨F3, eF3⟩ : ∃ G, G = rl_st F 20 jn.toNatClampNeg v2 := ⟨_, rfl⟩
  have hP : va_P D rl_cl (rl_w a kI kZ F3) H := by rw [eF3]; exact hP
  have hD : va_D A (rl_w a kI kZ F3) := by rw [eF3]; exact hD
  obtain ⟨tF3, hRF3⟩ := rl_keep eF3 (by decide) (by decide) hR
  refine lv_aload_n hx hb d_q_charge_14 rfl (lv_at hl 0 rfl) ?_
  refine va_get (D := D) (ci := 4) (v := .ref (a 26)) (C := "RightsLimit$Requests") (T := fT_q) (N := 13) hx hb hG fi_q hown hK hP 4 rfl rfl 8 (by decide) (hG _ wd_132) (fun _ h9 => h9) rfl d_q_charge_15 ?_
  refine lv_iload_n hx hb d_q_charge_18 rfl (lv_at hl 1 rfl) ?_
  refine lv_aload_n hx hb d_q_charge_19 rfl (lv_at hl 0 rfl) ?_
  refine va_get (D := D) (ci := 4) (v := .ref (a 25)) (C := "RightsLimit$Requests") (T := fT_q) (N := 13) hx hb hG fi_q hown hK hP 4 rfl rfl 7 (by decide) (hG _ wd_131) (fun _ h9 => h9) rfl d_q_charge_20 ?_
  refine lv_iload_n hx hb d_q_charge_23 rfl (lv_at hl 1 rfl) ?_
  refine va_iald hx hb hK hP 25 0 rfl rfl (rl_in (n := 300) (by omega) (by omega)) d_q_charge_24 ?_
  refine lv_topi (fun v4 ev4 => ?_)
  refine va_iast hx hb hK hP hD hS 26 0 rfl rfl (rl_in (n := 300) (by omega) (by omega)) d_q_charge_25 (fun H locs hP hD hS => ?_)
  obtain ⟨F5, eF5⟩ : ∃ G, G = rl_st F3 21 jn.toNatClampNeg v4 := ⟨_, rfl⟩
  have hP : va_P D rl_cl (rl_w a kI kZ F5) H := by rw [eF5]; exact hP
  have hD : va_D A (rl_w a kI kZ F5) := by rw [eF5]; exact hD
  obtain ⟨tF5, hRF5⟩ := rl_keep eF5 (by decide) (by decide) hRF3
  exact W.vret hx hb hr (fun t ht hW => ⟨⟨F5, rfl, ⟨hRF5, (show (F5 27 0).toInt = (F 27 0).toInt ∧ (F5 27 1).toInt = (F 27 1).toInt ∧ (F5 27 2).toInt = (F 27 2).toInt ∧ (F5 27 3).toInt = (F 27 3).toInt by omega)⟩, ⟨by rw [ht]; exact hP, hD⟩⟩, hS.F ht⟩) hS.2.2 d_q_charge_26
set_option maxHeartbeats 4000000 in
set_option maxRecDepth 100000 in
theorem k_q_prolong (l : Launch) (D : va_G) (a : Nat → Nat) (kI kZ : ClassId) (F : Nat → Nat → Int32) (jn : Int32) (hI : rl_I F) (hn0 : 0 ≤ jn.toInt) (hn1 : jn.toInt < 300) (sz : Nat) : rl_Ci (S := Nat → Nat → Int32) l ⟨"RightsLimit$Requests", "prolong", "(I)I"⟩ (Cond.code ⟨"RightsLimit$Requests", "prolong", "(I)I"⟩ prog_4_method_6_code 2 (some .int) :: rl_G) { frames := 0, cells := 0, slots := 0, locals := 0 } D rl_cl (rl_tys kI kZ) rl_nw [.ref (a 4), .int jn] (rl_w a kI kZ F) sz (fun (r : Int32) (F' : Nat → Nat → Int32) => rl_R F' ∧ ((F' 27 0).toInt = (F 27 0).toInt ∧ (F' 27 1).toInt = (F 27 1).toInt ∧ (F' 27 2).toInt = (F 27 2).toInt ∧ (F' 27 3).toInt = (F 27 3).toInt)) (fun F' => rl_w a kI kZ F') 0 0 := by
  refine rl_meti (cc := prog_4_method_6_code) (maxL := 2) (ret := (some .int)) (by decide) rfl (Nat.le_of_ble_eq_true rfl) ?_
  intro p e s m below meth c A ls hx hb hr hml hown hts hlocks hnm hP hK hD hS hA hN hl
  have hown : s.vm.findClass "RightsLimit$Requests" = some m.cls := hown
  have hG : ∀ x ∈ rl_G, x.before _ s = true := fun x h => hts x (List.mem_cons_of_mem _ h)
  have hl : lv_has ls 2 [(0, .ref (a 4)), (1, .int jn)] := hl
  obtain ⟨hcnt, hR⟩ := id hI
  refine lv_aload_n hx hb d_q_prolong_0 rfl (lv_at hl 0 rfl) ?_
  refine va_get (D := D) (ci := 4) (v := .ref (a 28)) (C := "RightsLimit$Requests") (T := fT_q) (N := 13) hx hb hG fi_q hown hK hP 4 rfl rfl 10 (by decide) (hG _ wd_136) (fun _ h9 => h9) rfl d_q_prolong_1 ?_
  refine lv_iload_n hx hb d_q_prolong_4 rfl (lv_at hl 1 rfl) ?_
  refine lv_dup2_11 hx hb d_q_prolong_5 rfl rfl ?_
  refine va_iald hx hb hK hP 28 0 rfl rfl (rl_in (n := 300) (by omega) (by omega)) d_q_prolong_6 ?_
  refine lv_topi (fun v1 ev1 => ?_)
  refine lv_iconst (v := 1) hx hb d_q_prolong_7 (by decide) ?_
  refine lv_iadd hx hb d_q_prolong_8 ?_
  refine lv_topi (fun v2 ev2 => ?_)
  refine va_iast hx hb hK hP hD hS 28 0 rfl rfl (rl_in (n := 300) (by omega) (by omega)) d_q_prolong_9 (fun H locs hP hD hS => ?_)
  obtain ⟨F3, eF3⟩ : ∃ G, G = rl_st F 23 jn.toNatClampNeg v2 := ⟨_, rfl⟩
  have hP : va_P D rl_cl (rl_w a kI kZ F3) H := by rw [eF3]; exact hP
  have hD : va_D A (rl_w a kI kZ F3) := by rw [eF3]; exact hD
  obtain ⟨tF3, hRF3⟩ := rl_keep eF3 (by decide) (by decide) hR
  refine lv_aload_n hx hb d_q_prolong_10 rfl (lv_at hl 0 rfl) ?_
  refine va_get (D := D) (ci := 4) (v := .ref (a 26)) (C := "RightsLimit$Requests") (T := fT_q) (N := 13) hx hb hG fi_q hown hK hP 4 rfl rfl 8 (by decide) (hG _ wd_132) (fun _ h9 => h9) rfl d_q_prolong_11 ?_
  refine lv_iload_n hx hb d_q_prolong_14 rfl (lv_at hl 1 rfl) ?_
  refine lv_dup2_11 hx hb d_q_prolong_15 rfl rfl ?_
  refine va_iald hx hb hK hP 26 0 rfl rfl (rl_in (n := 300) (by omega) (by omega)) d_q_prolong_16 ?_
  refine lv_topi (fun v4 ev4 => ?_)
  refine lv_aload_n hx hb d_q_prolong_17 rfl (lv_at hl 0 rfl) ?_
  refine va_get (D := D) (ci := 4) (v := .ref (a 25)) (C := "RightsLimit$Requests") (T := fT_q) (N := 13) hx hb hG fi_q hown hK hP 4 rfl rfl 7 (by decide) (hG _ wd_131) (fun _ h9 => h9) rfl d_q_prolong_18 ?_
  refine lv_iload_n hx hb d_q_prolong_21 rfl (lv_at hl 1 rfl) ?_
  refine va_iald hx hb hK hP 25 0 rfl rfl (rl_in (n := 300) (by omega) (by omega)) d_q_prolong_22 ?_
  refine lv_topi (fun v5 ev5 => ?_)
  refine lv_iadd hx hb d_q_prolong_23 ?_
  refine lv_topi (fun v6 ev6 => ?_)
  refine va_iast hx hb hK hP hD hS 26 0 rfl rfl (rl_in (n := 300) (by omega) (by omega)) d_q_prolong_24 (fun H locs hP hD hS => ?_)
  obtain ⟨F7, eF7⟩ : ∃ G, G = rl_st F3 21 jn.toNatClampNeg v6 := ⟨_, rfl⟩
  have hP : va_P D rl_cl (rl_w a kI kZ F7) H := by rw [eF7]; exact hP
  have hD : va_D A (rl_w a kI kZ F7) := by rw [eF7]; exact hD
  obtain ⟨tF7, hRF7⟩ := rl_keep eF7 (by decide) (by decide) hRF3
  refine lv_aload_n hx hb d_q_prolong_25 rfl (lv_at hl 0 rfl) ?_
  refine va_get (D := D) (ci := 4) (v := .ref (a 27)) (C := "RightsLimit$Requests") (T := fT_q) (N := 13) hx hb hG fi_q hown hK hP 4 rfl rfl 9 (by decide) (hG _ wd_134) (fun _ h9 => h9) rfl d_q_prolong_26 ?_
  refine lv_iload_n hx hb d_q_prolong_29 rfl (lv_at hl 1 rfl) ?_
  refine lv_dup2_11 hx hb d_q_prolong_30 rfl rfl ?_
  refine va_iald hx hb hK hP 27 0 rfl rfl (rl_in (n := 300) (by omega) (by omega)) d_q_prolong_31 ?_
  refine lv_topi (fun v8 ev8 => ?_)
  refine lv_ldc (v := 2592000) hx hb hown (hG _ wd_271) d_q_prolong_32 ?_
  refine lv_iadd hx hb d_q_prolong_34 ?_
  refine lv_topi (fun v9 ev9 => ?_)
  refine va_iast hx hb hK hP hD hS 27 0 rfl rfl (rl_in (n := 300) (by omega) (by omega)) d_q_prolong_35 (fun H locs hP hD hS => ?_)
  obtain ⟨F10, eF10⟩ : ∃ G, G = rl_st F7 22 jn.toNatClampNeg v9 := ⟨_, rfl⟩
  have hP : va_P D rl_cl (rl_w a kI kZ F10) H := by rw [eF10]; exact hP
  have hD : va_D A (rl_w a kI kZ F10) := by rw [eF10]; exact hD
  obtain ⟨tF10, hRF10⟩ := rl_keep eF10 (by decide) (by decide) hRF7
  refine lv_aload_n hx hb d_q_prolong_36 rfl (lv_at hl 0 rfl) ?_
  refine va_get (D := D) (ci := 4) (v := .ref (a 27)) (C := "RightsLimit$Requests") (T := fT_q) (N := 13) hx hb hG fi_q hown hK hP 4 rfl rfl 9 (by decide) (hG _ wd_134) (fun _ h9 => h9) rfl d_q_prolong_37 ?_
  refine lv_iload_n hx hb d_q_prolong_40 rfl (lv_at hl 1 rfl) ?_
  refine va_iald hx hb hK hP 27 0 rfl rfl (rl_in (n := 300) (by omega) (by omega)) d_q_prolong_41 ?_
  refine lv_topi (fun v11 ev11 => ?_)
  exact W.iret (v := v11) hx hb hr (fun t ht hW => ⟨⟨v11, F10, rfl, ⟨hRF10, (show (F10 27 0).toInt = (F 27 0).toInt ∧ (F10 27 1).toInt = (F 27 1).toInt ∧ (F10 27 2).toInt = (F 27 2).toInt ∧ (F10 27 3).toInt = (F 27 3).toInt by omega)⟩, ⟨by rw [ht]; exact hP, hD⟩⟩, hS.F ht⟩) hS.2.2 d_q_prolong_42
set_option maxHeartbeats 4000000 in
set_option maxRecDepth 100000 in
theorem k_q_isCopy (l : Launch) (D : va_G) (a : Nat → Nat) (kI kZ : ClassId) (F : Nat → Nat → Int32) (jn : Int32) (hI : rl_I F) (hn0 : 0 ≤ jn.toInt) (hn1 : jn.toInt < 300) (H0 : Heap) : rl_Ri l ⟨"RightsLimit$Requests", "isCopy", "(I)Z"⟩ (Cond.code ⟨"RightsLimit$Requests", "isCopy", "(I)Z"⟩ prog_4_method_7_code 2 (some .boolean) :: rl_G) { frames := 0, cells := 0, slots := 0, locals := 0 } D rl_cl (rl_tys kI kZ) rl_nw [.ref (a 4), .int jn] (rl_w a kI kZ F) H0 (fun (r : Int32) => (r = 1 ∧ True) ∨ (r = 0 ∧ True)) := by
  refine rl_metr (cc := prog_4_method_7_code) (maxL := 2) (ret := (some .boolean)) (by decide) rfl (Nat.le_of_ble_eq_true rfl) ?_
  intro p e s m below meth c ls hx hb hr hml hown hts hlocks hP hK hS hN hl
  have hown : s.vm.findClass "RightsLimit$Requests" = some m.cls := hown
  have hG : ∀ x ∈ rl_G, x.before _ s = true := fun x h => hts x (List.mem_cons_of_mem _ h)
  have hl : lv_has ls 2 [(0, .ref (a 4)), (1, .int jn)] := hl
  obtain ⟨hcnt, hR⟩ := id hI
  refine lv_aload_n hx hb d_q_isCopy_0 rfl (lv_at hl 0 rfl) ?_
  refine va_get (D := D) (ci := 4) (v := .ref (a 23)) (C := "RightsLimit$Requests") (T := fT_q) (N := 13) hx hb hG fi_q hown hK hP 4 rfl rfl 5 (by decide) (hG _ wd_127) (fun _ h9 => h9) rfl d_q_isCopy_1 ?_
  refine lv_iload_n hx hb d_q_isCopy_4 rfl (lv_at hl 1 rfl) ?_
  refine va_iald hx hb hK hP 23 0 rfl rfl (rl_in (n := 300) (by omega) (by omega)) d_q_isCopy_5 ?_
  refine lv_topi (fun v1 ev1 => ?_)
  refine lv_if_eq (tgt := 13) hx hb d_q_isCopy_6 (by decide) (fun c2 => ?_) (fun c2 => ?_)
  · have ic2 := rl_ieq c2
    simp only [rl_n0] at ic2
    refine lv_iconst (v := 0) hx hb d_q_isCopy_13 (by decide) ?_
    exact W.zret (v := 0) hx hb hr rfl (fun t ht hW => ⟨⟨0, (), rfl, Or.inr ⟨rfl, trivial⟩, ht⟩, hS.F ht⟩) hS.2.2 d_q_isCopy_14
  · have ic2 := rl_ine c2
    simp only [rl_n0] at ic2
    refine lv_iconst (v := 1) hx hb d_q_isCopy_9 (by decide) ?_
    refine lv_goto (tgt := 14) hx hb d_q_isCopy_10 (by decide) ?_
    exact W.zret (v := 1) hx hb hr rfl (fun t ht hW => ⟨⟨1, (), rfl, Or.inl ⟨rfl, trivial⟩, ht⟩, hS.F ht⟩) hS.2.2 d_q_isCopy_14
set_option maxHeartbeats 4000000 in
set_option maxRecDepth 100000 in
theorem k_q_isKept (l : Launch) (D : va_G) (a : Nat → Nat) (kI kZ : ClassId) (F : Nat → Nat → Int32) (jn : Int32) (hI : rl_I F) (hn0 : 0 ≤ jn.toInt) (hn1 : jn.toInt < 300) (H0 : Heap) : rl_Ri l ⟨"RightsLimit$Requests", "isKept", "(I)Z"⟩ (Cond.code ⟨"RightsLimit$Requests", "isKept", "(I)Z"⟩ prog_4_method_8_code 2 (some .boolean) :: rl_G) { frames := 1, cells := 0, slots := 0, locals := 21 } D rl_cl (rl_tys kI kZ) rl_nw [.ref (a 4), .int jn] (rl_w a kI kZ F) H0 (fun (r : Int32) => (r = 1 ∧ True) ∨ (r = 0 ∧ True)) := by
  refine rl_metr (cc := prog_4_method_8_code) (maxL := 2) (ret := (some .boolean)) (by decide) rfl (Nat.le_of_ble_eq_true rfl) ?_
  intro p e s m below meth c ls hx hb hr hml hown hts hlocks hP hK hS hN hl
  have hown : s.vm.findClass "RightsLimit$Requests" = some m.cls := hown
  have hG : ∀ x ∈ rl_G, x.before _ s = true := fun x h => hts x (List.mem_cons_of_mem _ h)
  have hl : lv_has ls 2 [(0, .ref (a 4)), (1, .int jn)] := hl
  obtain ⟨hcnt, hR⟩ := id hI
  refine lv_aload_n hx hb d_q_isKept_0 rfl (lv_at hl 0 rfl) ?_
  refine lv_iload_n hx hb d_q_isKept_1 rfl (lv_at hl 1 rfl) ?_
  have hpre := rl_BR.pre (av := .ref (a 4) :: [.int jn]) rl_nw_ok hP hK hN
  refine rl_callr hS (va_runV (As := [.int jn]) (rest := []) ⟨hx, hb, hml, hown, hG⟩ (k_q_isCopy l D a kI kZ F jn ⟨by omega, hR⟩ (by omega) (by omega) _) (cwV 1 hG (rl_gV wd_343 wd_304 wd_305 wd_18 wd_306) rfl rfl rfl (by decide +kernel) ⟨Nat.le_of_ble_eq_true rfl, Nat.le_of_ble_eq_true rfl⟩) ⟨hpre.1, (va_recv hK hP (ci := 4) (q0 := 4) rfl rfl), hpre.2⟩ rfl rfl hl.1 rfl (lv_room (Nat.le_of_ble_eq_true rfl)) d_q_isKept_2 ⟨Nat.le_of_ble_eq_true rfl, Nat.le_of_ble_eq_true rfl⟩) (fun r1 locs hw hS => ?_)
  rcases hw with ⟨rfl, h2⟩ | ⟨rfl, h2⟩
  · refine lv_if_eq (tgt := 22) hx hb d_q_isKept_5 (by decide) (fun c9 => absurd c9 (by decide)) (fun _ => ?_)
    refine lv_aload_n hx hb d_q_isKept_8 rfl (lv_at hl 0 rfl) ?_
    refine va_get (D := D) (ci := 4) (v := .ref (a 29)) (C := "RightsLimit$Requests") (T := fT_q) (N := 13) hx hb hG fi_q hown hK hP 4 rfl rfl 11 (by decide) (hG _ wd_138) (fun _ h9 => h9) rfl d_q_isKept_9 ?_
    refine lv_iload_n hx hb d_q_isKept_12 rfl (lv_at hl 1 rfl) ?_
    refine va_iald hx hb hK hP 29 0 rfl rfl (rl_in (n := 300) (by omega) (by omega)) d_q_isKept_13 ?_
    refine lv_topi (fun v3 ev3 => ?_)
    refine lv_iconst (v := (-1)) hx hb d_q_isKept_14 (by decide) ?_
    refine lv_icmp_ne (tgt := 22) hx hb d_q_isKept_15 (by decide) (fun c4 => ?_) (fun c4 => ?_)
    · have ic4 := rl_ine c4
      simp only [rl_nm1] at ic4
      refine lv_iconst (v := 0) hx hb d_q_isKept_22 (by decide) ?_
      exact W.zret (v := 0) hx hb hr rfl (fun t ht hW => ⟨⟨0, (), rfl, Or.inr ⟨rfl, trivial⟩, ht⟩, hS.F ht⟩) hS.2.2 d_q_isKept_23
    · have ic4 := rl_ieq c4
      simp only [rl_nm1] at ic4
      refine lv_iconst (v := 1) hx hb d_q_isKept_18 (by decide) ?_
      refine lv_goto (tgt := 23) hx hb d_q_isKept_19 (by decide) ?_
      exact W.zret (v := 1) hx hb hr rfl (fun t ht hW => ⟨⟨1, (), rfl, Or.inl ⟨rfl, trivial⟩, ht⟩, hS.F ht⟩) hS.2.2 d_q_isKept_23
  · refine lv_if_eq (tgt := 22) hx hb d_q_isKept_5 (by decide) (fun _ => ?_) (fun c9 => absurd c9 (by decide))
    refine lv_iconst (v := 0) hx hb d_q_isKept_22 (by decide) ?_
    exact W.zret (v := 0) hx hb hr rfl (fun t ht hW => ⟨⟨0, (), rfl, Or.inr ⟨rfl, trivial⟩, ht⟩, hS.F ht⟩) hS.2.2 d_q_isKept_23
set_option maxHeartbeats 4000000 in
set_option maxRecDepth 100000 in
theorem k_q_hasEnded (l : Launch) (D : va_G) (a : Nat → Nat) (kI kZ : ClassId) (F : Nat → Nat → Int32) (jn jt : Int32) (hI : rl_I F) (hn0 : 0 ≤ jn.toInt) (hn1 : jn.toInt < 300) (H0 : Heap) : rl_Ri l ⟨"RightsLimit$Requests", "hasEnded", "(II)Z"⟩ (Cond.code ⟨"RightsLimit$Requests", "hasEnded", "(II)Z"⟩ prog_4_method_9_code 3 (some .boolean) :: rl_G) { frames := 0, cells := 0, slots := 0, locals := 0 } D rl_cl (rl_tys kI kZ) rl_nw [.ref (a 4), .int jn, .int jt] (rl_w a kI kZ F) H0 (fun (r : Int32) => (r = 1 ∧ True) ∨ (r = 0 ∧ True)) := by
  refine rl_metr (cc := prog_4_method_9_code) (maxL := 3) (ret := (some .boolean)) (by decide) rfl (Nat.le_of_ble_eq_true rfl) ?_
  intro p e s m below meth c ls hx hb hr hml hown hts hlocks hP hK hS hN hl
  have hown : s.vm.findClass "RightsLimit$Requests" = some m.cls := hown
  have hG : ∀ x ∈ rl_G, x.before _ s = true := fun x h => hts x (List.mem_cons_of_mem _ h)
  have hl : lv_has ls 3 [(0, .ref (a 4)), (1, .int jn), (2, .int jt)] := hl
  obtain ⟨hcnt, hR⟩ := id hI
  refine lv_iload_n hx hb d_q_hasEnded_0 rfl (lv_at hl 2 rfl) ?_
  refine lv_aload_n hx hb d_q_hasEnded_1 rfl (lv_at hl 0 rfl) ?_
  refine va_get (D := D) (ci := 4) (v := .ref (a 27)) (C := "RightsLimit$Requests") (T := fT_q) (N := 13) hx hb hG fi_q hown hK hP 4 rfl rfl 9 (by decide) (hG _ wd_134) (fun _ h9 => h9) rfl d_q_hasEnded_2 ?_
  refine lv_iload_n hx hb d_q_hasEnded_5 rfl (lv_at hl 1 rfl) ?_
  refine va_iald hx hb hK hP 27 0 rfl rfl (rl_in (n := 300) (by omega) (by omega)) d_q_hasEnded_6 ?_
  refine lv_topi (fun v1 ev1 => ?_)
  refine lv_icmp_lt (tgt := 14) hx hb d_q_hasEnded_7 (by decide) (fun c2 => ?_) (fun c2 => ?_)
  · have ic2 := rl_ilt c2
    refine lv_iconst (v := 0) hx hb d_q_hasEnded_14 (by decide) ?_
    exact W.zret (v := 0) hx hb hr rfl (fun t ht hW => ⟨⟨0, (), rfl, Or.inr ⟨rfl, trivial⟩, ht⟩, hS.F ht⟩) hS.2.2 d_q_hasEnded_15
  · have ic2 := rl_inlt c2
    refine lv_iconst (v := 1) hx hb d_q_hasEnded_10 (by decide) ?_
    refine lv_goto (tgt := 15) hx hb d_q_hasEnded_11 (by decide) ?_
    exact W.zret (v := 1) hx hb hr rfl (fun t ht hW => ⟨⟨1, (), rfl, Or.inl ⟨rfl, trivial⟩, ht⟩, hS.F ht⟩) hS.2.2 d_q_hasEnded_15
set_option maxHeartbeats 4000000 in
set_option maxRecDepth 100000 in
theorem k_q_isRenewable (l : Launch) (D : va_G) (a : Nat → Nat) (kI kZ : ClassId) (F : Nat → Nat → Int32) (jn jt : Int32) (hI : rl_I F) (hn0 : 0 ≤ jn.toInt) (hn1 : jn.toInt < 300) (H0 : Heap) : rl_Ri l ⟨"RightsLimit$Requests", "isRenewable", "(II)Z"⟩ (Cond.code ⟨"RightsLimit$Requests", "isRenewable", "(II)Z"⟩ prog_4_method_10_code 3 (some .boolean) :: rl_G) { frames := 2, cells := 0, slots := 0, locals := 42 } D rl_cl (rl_tys kI kZ) rl_nw [.ref (a 4), .int jn, .int jt] (rl_w a kI kZ F) H0 (fun (r : Int32) => (r = 1 ∧ True) ∨ (r = 0 ∧ True)) := by
  refine rl_metr (cc := prog_4_method_10_code) (maxL := 3) (ret := (some .boolean)) (by decide) rfl (Nat.le_of_ble_eq_true rfl) ?_
  intro p e s m below meth c ls hx hb hr hml hown hts hlocks hP hK hS hN hl
  have hown : s.vm.findClass "RightsLimit$Requests" = some m.cls := hown
  have hG : ∀ x ∈ rl_G, x.before _ s = true := fun x h => hts x (List.mem_cons_of_mem _ h)
  have hl : lv_has ls 3 [(0, .ref (a 4)), (1, .int jn), (2, .int jt)] := hl
  obtain ⟨hcnt, hR⟩ := id hI
  refine lv_aload_n hx hb d_q_isRenewable_0 rfl (lv_at hl 0 rfl) ?_
  refine lv_iload_n hx hb d_q_isRenewable_1 rfl (lv_at hl 1 rfl) ?_
  have hpre := rl_BR.pre (av := .ref (a 4) :: [.int jn]) rl_nw_ok hP hK hN
  refine rl_callr hS (va_runV (As := [.int jn]) (rest := []) ⟨hx, hb, hml, hown, hG⟩ (k_q_isKept l D a kI kZ F jn ⟨by omega, hR⟩ (by omega) (by omega) _) (cwV 1 hG (rl_gV wd_339 wd_340 wd_341 wd_18 wd_342) rfl rfl rfl (by decide +kernel) ⟨Nat.le_of_ble_eq_true rfl, Nat.le_of_ble_eq_true rfl⟩) ⟨hpre.1, (va_recv hK hP (ci := 4) (q0 := 4) rfl rfl), hpre.2⟩ rfl rfl hl.1 rfl (lv_room (Nat.le_of_ble_eq_true rfl)) d_q_isRenewable_2 ⟨Nat.le_of_ble_eq_true rfl, Nat.le_of_ble_eq_true rfl⟩) (fun r1 locs hw hS => ?_)
  rcases hw with ⟨rfl, h2⟩ | ⟨rfl, h2⟩
  · refine lv_if_eq (tgt := 31) hx hb d_q_isRenewable_5 (by decide) (fun c9 => absurd c9 (by decide)) (fun _ => ?_)
    refine lv_aload_n hx hb d_q_isRenewable_8 rfl (lv_at hl 0 rfl) ?_
    refine va_get (D := D) (ci := 4) (v := .ref (a 28)) (C := "RightsLimit$Requests") (T := fT_q) (N := 13) hx hb hG fi_q hown hK hP 4 rfl rfl 10 (by decide) (hG _ wd_136) (fun _ h9 => h9) rfl d_q_isRenewable_9 ?_
    refine lv_iload_n hx hb d_q_isRenewable_12 rfl (lv_at hl 1 rfl) ?_
    refine va_iald hx hb hK hP 28 0 rfl rfl (rl_in (n := 300) (by omega) (by omega)) d_q_isRenewable_13 ?_
    refine lv_topi (fun v3 ev3 => ?_)
    refine lv_iconst (v := 2) hx hb d_q_isRenewable_14 (by decide) ?_
    refine lv_icmp_ge (tgt := 31) hx hb d_q_isRenewable_15 (by decide) (fun c4 => ?_) (fun c4 => ?_)
    · have ic4 := rl_ile c4
      simp only [rl_n2] at ic4
      refine lv_iconst (v := 0) hx hb d_q_isRenewable_31 (by decide) ?_
      exact W.zret (v := 0) hx hb hr rfl (fun t ht hW => ⟨⟨0, (), rfl, Or.inr ⟨rfl, trivial⟩, ht⟩, hS.F ht⟩) hS.2.2 d_q_isRenewable_32
    · have ic4 := rl_inle c4
      simp only [rl_n2] at ic4
      refine lv_aload_n hx hb d_q_isRenewable_18 rfl (lv_at hl 0 rfl) ?_
      refine lv_iload_n hx hb d_q_isRenewable_19 rfl (lv_at hl 1 rfl) ?_
      refine lv_iload_n hx hb d_q_isRenewable_20 rfl (lv_at hl 2 rfl) ?_
      have hpre := rl_BR.pre (av := .ref (a 4) :: [.int jn, .int jt]) rl_nw_ok hP hK hN
      refine rl_callr hS (va_runV (As := [.int jn, .int jt]) (rest := []) ⟨hx, hb, hml, hown, hG⟩ (k_q_hasEnded l D a kI kZ F jn jt ⟨by omega, hR⟩ (by omega) (by omega) _) (cwV 2 hG (rl_gV wd_344 wd_345 wd_346 wd_18 wd_347) rfl rfl rfl (by decide +kernel) ⟨Nat.le_of_ble_eq_true rfl, Nat.le_of_ble_eq_true rfl⟩) ⟨hpre.1, (va_recv hK hP (ci := 4) (q0 := 4) rfl rfl), hpre.2⟩ rfl rfl hl.1 rfl (lv_room (Nat.le_of_ble_eq_true rfl)) d_q_isRenewable_21 ⟨Nat.le_of_ble_eq_true rfl, Nat.le_of_ble_eq_true rfl⟩) (fun r5 locs hw hS => ?_)
      rcases hw with ⟨rfl, h6⟩ | ⟨rfl, h6⟩
      · refine lv_if_ne (tgt := 31) hx hb d_q_isRenewable_24 (by decide) (fun _ => ?_) (fun c9 => absurd c9 (by decide))
        refine lv_iconst (v := 0) hx hb d_q_isRenewable_31 (by decide) ?_
        exact W.zret (v := 0) hx hb hr rfl (fun t ht hW => ⟨⟨0, (), rfl, Or.inr ⟨rfl, trivial⟩, ht⟩, hS.F ht⟩) hS.2.2 d_q_isRenewable_32
      · refine lv_if_ne (tgt := 31) hx hb d_q_isRenewable_24 (by decide) (fun c9 => absurd c9 (by decide)) (fun _ => ?_)
        refine lv_iconst (v := 1) hx hb d_q_isRenewable_27 (by decide) ?_
        refine lv_goto (tgt := 32) hx hb d_q_isRenewable_28 (by decide) ?_
        exact W.zret (v := 1) hx hb hr rfl (fun t ht hW => ⟨⟨1, (), rfl, Or.inl ⟨rfl, trivial⟩, ht⟩, hS.F ht⟩) hS.2.2 d_q_isRenewable_32
  · refine lv_if_eq (tgt := 31) hx hb d_q_isRenewable_5 (by decide) (fun _ => ?_) (fun c9 => absurd c9 (by decide))
    refine lv_iconst (v := 0) hx hb d_q_isRenewable_31 (by decide) ?_
    exact W.zret (v := 0) hx hb hr rfl (fun t ht hW => ⟨⟨0, (), rfl, Or.inr ⟨rfl, trivial⟩, ht⟩, hS.F ht⟩) hS.2.2 d_q_isRenewable_32
set_option maxHeartbeats 4000000 in
set_option maxRecDepth 100000 in
theorem k_q_countsForLimits (l : Launch) (D : va_G) (a : Nat → Nat) (kI kZ : ClassId) (F : Nat → Nat → Int32) (jn : Int32) (hI : rl_I F) (hn0 : 0 ≤ jn.toInt) (hn1 : jn.toInt < 300) (H0 : Heap) : rl_Ri l ⟨"RightsLimit$Requests", "countsForLimits", "(I)Z"⟩ (Cond.code ⟨"RightsLimit$Requests", "countsForLimits", "(I)Z"⟩ prog_4_method_11_code 3 (some .boolean) :: rl_G) { frames := 0, cells := 0, slots := 0, locals := 0 } D rl_cl (rl_tys kI kZ) rl_nw [.ref (a 4), .int jn] (rl_w a kI kZ F) H0 (fun (r : Int32) => (r = 1 ∧ True) ∨ (r = 0 ∧ True)) := by
  refine rl_metr (cc := prog_4_method_11_code) (maxL := 3) (ret := (some .boolean)) (by decide) rfl (Nat.le_of_ble_eq_true rfl) ?_
  intro p e s m below meth c ls hx hb hr hml hown hts hlocks hP hK hS hN hl
  have hown : s.vm.findClass "RightsLimit$Requests" = some m.cls := hown
  have hG : ∀ x ∈ rl_G, x.before _ s = true := fun x h => hts x (List.mem_cons_of_mem _ h)
  have hl : lv_has ls 3 [(0, .ref (a 4)), (1, .int jn)] := hl
  obtain ⟨hcnt, hR⟩ := id hI
  refine lv_aload_n hx hb d_q_countsForLimits_0 rfl (lv_at hl 0 rfl) ?_
  refine va_get (D := D) (ci := 4) (v := .ref (a 23)) (C := "RightsLimit$Requests") (T := fT_q) (N := 13) hx hb hG fi_q hown hK hP 4 rfl rfl 5 (by decide) (hG _ wd_127) (fun _ h9 => h9) rfl d_q_countsForLimits_1 ?_
  refine lv_iload_n hx hb d_q_countsForLimits_4 rfl (lv_at hl 1 rfl) ?_
  refine va_iald hx hb hK hP 23 0 rfl rfl (rl_in (n := 300) (by omega) (by omega)) d_q_countsForLimits_5 ?_
  refine lv_topi (fun v1 ev1 => ?_)
  refine lv_istore_n (lv' := [(2, .int v1), (0, .ref (a 4)), (1, .int jn)]) hx hb d_q_countsForLimits_6 rfl hl (by decide) rfl (fun ls hl => ?_)
  refine lv_iload_n hx hb d_q_countsForLimits_7 rfl (lv_at hl 0 rfl) ?_
  refine lv_iconst (v := 3) hx hb d_q_countsForLimits_8 (by decide) ?_
  refine lv_icmp_eq (tgt := 22) hx hb d_q_countsForLimits_9 (by decide) (fun c2 => ?_) (fun c2 => ?_)
  · have ic2 := rl_ieq c2
    simp only [rl_n3] at ic2
    refine lv_iconst (v := 1) hx hb d_q_countsForLimits_22 (by decide) ?_
    refine lv_goto (tgt := 27) hx hb d_q_countsForLimits_23 (by decide) ?_
    exact W.zret (v := 1) hx hb hr rfl (fun t ht hW => ⟨⟨1, (), rfl, Or.inl ⟨rfl, trivial⟩, ht⟩, hS.F ht⟩) hS.2.2 d_q_countsForLimits_27
  · have ic2 := rl_ine c2
    simp only [rl_n3] at ic2
    refine lv_iload_n hx hb d_q_countsForLimits_12 rfl (lv_at hl 0 rfl) ?_
    refine lv_iconst (v := 4) hx hb d_q_countsForLimits_13 (by decide) ?_
    refine lv_icmp_eq (tgt := 22) hx hb d_q_countsForLimits_14 (by decide) (fun c3 => ?_) (fun c3 => ?_)
    · have ic3 := rl_ieq c3
      simp only [rl_n4] at ic3
      refine lv_iconst (v := 1) hx hb d_q_countsForLimits_22 (by decide) ?_
      refine lv_goto (tgt := 27) hx hb d_q_countsForLimits_23 (by decide) ?_
      exact W.zret (v := 1) hx hb hr rfl (fun t ht hW => ⟨⟨1, (), rfl, Or.inl ⟨rfl, trivial⟩, ht⟩, hS.F ht⟩) hS.2.2 d_q_countsForLimits_27
    · have ic3 := rl_ine c3
      simp only [rl_n4] at ic3
      refine lv_iload_n hx hb d_q_countsForLimits_17 rfl (lv_at hl 0 rfl) ?_
      refine lv_iconst (v := 5) hx hb d_q_countsForLimits_18 (by decide) ?_
      refine lv_icmp_ne (tgt := 26) hx hb d_q_countsForLimits_19 (by decide) (fun c4 => ?_) (fun c4 => ?_)
      · have ic4 := rl_ine c4
        simp only [rl_n5] at ic4
        refine lv_iconst (v := 0) hx hb d_q_countsForLimits_26 (by decide) ?_
        exact W.zret (v := 0) hx hb hr rfl (fun t ht hW => ⟨⟨0, (), rfl, Or.inr ⟨rfl, trivial⟩, ht⟩, hS.F ht⟩) hS.2.2 d_q_countsForLimits_27
      · have ic4 := rl_ieq c4
        simp only [rl_n5] at ic4
        refine lv_iconst (v := 1) hx hb d_q_countsForLimits_22 (by decide) ?_
        refine lv_goto (tgt := 27) hx hb d_q_countsForLimits_23 (by decide) ?_
        exact W.zret (v := 1) hx hb hr rfl (fun t ht hW => ⟨⟨1, (), rfl, Or.inl ⟨rfl, trivial⟩, ht⟩, hS.F ht⟩) hS.2.2 d_q_countsForLimits_27
set_option maxHeartbeats 4000000 in
set_option maxRecDepth 100000 in
theorem k_q_countInSpan (l : Launch) (D : va_G) (a : Nat → Nat) (kI kZ : ClassId) (F : Nat → Nat → Int32) (jp1 jp2 jp3 jp4 : Int32) (hI : rl_I F) (H0 : Heap) : rl_Ri l ⟨"RightsLimit$Requests", "countInSpan", "(IIII)I"⟩ (Cond.code ⟨"RightsLimit$Requests", "countInSpan", "(IIII)I"⟩ prog_4_method_12_code 8 (some .int) :: rl_G) { frames := 1, cells := 0, slots := 0, locals := 22 } D rl_cl (rl_tys kI kZ) rl_nw [.ref (a 4), .int jp1, .int jp2, .int jp3, .int jp4] (rl_w a kI kZ F) H0 (fun (r : Int32) => True) := by
  refine rl_metr (cc := prog_4_method_12_code) (maxL := 8) (ret := (some .int)) (by decide) rfl (Nat.le_of_ble_eq_true rfl) ?_
  intro p e s m below meth c ls hx hb hr hml hown hts hlocks hP hK hS hN hl
  have hown : s.vm.findClass "RightsLimit$Requests" = some m.cls := hown
  have hG : ∀ x ∈ rl_G, x.before _ s = true := fun x h => hts x (List.mem_cons_of_mem _ h)
  have hl : lv_has ls 8 [(0, .ref (a 4)), (1, .int jp1), (2, .int jp2), (3, .int jp3), (4, .int jp4)] := hl
  obtain ⟨hcnt, hR⟩ := id hI
  refine lv_iload hx hb d_q_countInSpan_0 (lv_at hl 4 rfl) ?_
  refine lv_iload_n hx hb d_q_countInSpan_2 rfl (lv_at hl 3 rfl) ?_
  refine lv_ldc (v := 86400) hx hb hown (hG _ wd_289) d_q_countInSpan_3 ?_
  refine lv_imul hx hb d_q_countInSpan_5 ?_
  refine lv_topi (fun v1 ev1 => ?_)
  refine lv_isub hx hb d_q_countInSpan_6 ?_
  refine lv_topi (fun v2 ev2 => ?_)
  refine lv_istore (lv' := [(5, .int v2), (0, .ref (a 4)), (1, .int jp1), (2, .int jp2), (3, .int jp3), (4, .int jp4)]) hx hb d_q_countInSpan_7 hl (by decide) rfl (fun ls hl => ?_)
  refine lv_iconst (v := 0) hx hb d_q_countInSpan_9 (by decide) ?_
  refine lv_istore (lv' := [(6, .int 0), (5, .int v2), (0, .ref (a 4)), (1, .int jp1), (2, .int jp2), (3, .int jp3), (4, .int jp4)]) hx hb d_q_countInSpan_10 hl (by decide) rfl (fun ls hl => ?_)
  refine lv_iconst (v := 0) hx hb d_q_countInSpan_12 (by decide) ?_
  refine lv_istore (lv' := [(7, .int 0), (6, .int 0), (5, .int v2), (0, .ref (a 4)), (1, .int jp1), (2, .int jp2), (3, .int jp3), (4, .int jp4)]) hx hb d_q_countInSpan_13 hl (by decide) rfl (fun ls hl => ?_)
  have loop : ∀ (n : Nat) (fo i : Int32), 0 ≤ i.toInt → i.toInt ≤ (F 27 3).toInt → (F 27 3).toInt - i.toInt < n → ∀ (locs : List Loc) (ls : Array Slot), va_S (fun _ => False) s.heap s.heap locs → lv_has ls 8 [(0, .ref (a 4)), (1, .int jp1), (2, .int jp2), (3, .int jp3), (4, .int jp4), (5, .int v2), (6, .int fo), (7, .int i)] → W p l e ({ frames := 1, cells := 0, slots := 0, locals := 22 } : Room) s m ([.ref (a 4), .int jp1, .int jp2, .int jp3, .int jp4] : List Value).toArray below meth c s.heap locs 0 0 (MQ below (va_Qi (S := Unit) (fun (r : Int32) _ => True) (fun _ t => t.heap = s.heap) (fun _ => False)) ([.ref (a 4), .int jp1, .int jp2, .int jp3, .int jp4] : List Value).toArray s 0 0 (fun _ => False)) (F0 m 15 ls []) := by
    intro n
    induction n with
    | zero => intro fo i h1 h2 h3; exact absurd h3 (by omega)
    | succ n ih =>
      intro fo i h1 h2 h3 locs ls hS hl
      refine lv_iload hx hb d_q_countInSpan_15 (lv_at hl 7 rfl) ?_
      refine lv_aload_n hx hb d_q_countInSpan_17 rfl (lv_at hl 0 rfl) ?_
      refine va_get (D := D) (ci := 4) (v := .int (F 27 3)) (C := "RightsLimit$Requests") (T := fT_q) (N := 13) hx hb hG fi_q hown hK hP 4 rfl rfl 12 (by decide) (hG _ wd_140) (fun _ h9 => h9) rfl d_q_countInSpan_18 ?_
      refine lv_icmp_ge (tgt := 81) hx hb d_q_countInSpan_21 (by decide) (fun c3 => ?_) (fun c3 => ?_)
      · have ic3 := rl_ile c3
        refine lv_iload hx hb d_q_countInSpan_81 (lv_at hl 6 rfl) ?_
        exact W.iret (v := fo) hx hb hr (fun t ht hW => ⟨⟨fo, (), rfl, trivial, ht⟩, hS.F ht⟩) hS.2.2 d_q_countInSpan_83
      · have ic3 := rl_inle c3
        refine lv_aload_n hx hb d_q_countInSpan_24 rfl (lv_at hl 0 rfl) ?_
        refine va_get (D := D) (ci := 4) (v := .ref (a 19)) (C := "RightsLimit$Requests") (T := fT_q) (N := 13) hx hb hG fi_q hown hK hP 4 rfl rfl 1 (by decide) (hG _ wd_119) (fun _ h9 => h9) rfl d_q_countInSpan_25 ?_
        refine lv_iload hx hb d_q_countInSpan_28 (lv_at hl 7 rfl) ?_
        refine va_iald hx hb hK hP 19 0 rfl rfl (rl_in (n := 300) (by omega) (by omega)) d_q_countInSpan_30 ?_
        refine lv_topi (fun v4 ev4 => ?_)
        refine lv_iload_n hx hb d_q_countInSpan_31 rfl (lv_at hl 1 rfl) ?_
        refine lv_icmp_ne (tgt := 75) hx hb d_q_countInSpan_32 (by decide) (fun c5 => ?_) (fun c5 => ?_)
        · have ic5 := rl_ine c5
          obtain ⟨x6, ex6⟩ : ∃ y : Int32, y = i + 1 := ⟨_, rfl⟩
          refine lv_iinc (v := x6) (lv' := [(7, .int x6), (0, .ref (a 4)), (1, .int jp1), (2, .int jp2), (3, .int jp3), (4, .int jp4), (5, .int v2), (6, .int fo)]) hx hb d_q_countInSpan_75 hl (k := 7) rfl (by rw [ex6]; rfl) (by decide) rfl (fun ls hl => ?_)
          have ix6 : x6.toInt = i.toInt + 1 := by rw [ex6]; exact rl_inc (by omega)
          refine lv_goto (tgt := 15) hx hb d_q_countInSpan_78 (by decide) ?_
          exact ih fo x6 (by omega) (by omega) (by omega) _ _ hS (lv_sub hl [1, 2, 3, 4, 5, 6, 7, 0] rfl)
        · have ic5 := rl_ieq c5
          refine lv_aload_n hx hb d_q_countInSpan_35 rfl (lv_at hl 0 rfl) ?_
          refine va_get (D := D) (ci := 4) (v := .ref (a 20)) (C := "RightsLimit$Requests") (T := fT_q) (N := 13) hx hb hG fi_q hown hK hP 4 rfl rfl 2 (by decide) (hG _ wd_121) (fun _ h9 => h9) rfl d_q_countInSpan_36 ?_
          refine lv_iload hx hb d_q_countInSpan_39 (lv_at hl 7 rfl) ?_
          refine va_iald hx hb hK hP 20 0 rfl rfl (rl_in (n := 300) (by omega) (by omega)) d_q_countInSpan_41 ?_
          refine lv_topi (fun v7 ev7 => ?_)
          refine lv_iload_n hx hb d_q_countInSpan_42 rfl (lv_at hl 2 rfl) ?_
          refine lv_icmp_ne (tgt := 75) hx hb d_q_countInSpan_43 (by decide) (fun c8 => ?_) (fun c8 => ?_)
          · have ic8 := rl_ine c8
            obtain ⟨x9, ex9⟩ : ∃ y : Int32, y = i + 1 := ⟨_, rfl⟩
            refine lv_iinc (v := x9) (lv' := [(7, .int x9), (0, .ref (a 4)), (1, .int jp1), (2, .int jp2), (3, .int jp3), (4, .int jp4), (5, .int v2), (6, .int fo)]) hx hb d_q_countInSpan_75 hl (k := 7) rfl (by rw [ex9]; rfl) (by decide) rfl (fun ls hl => ?_)
            have ix9 : x9.toInt = i.toInt + 1 := by rw [ex9]; exact rl_inc (by omega)
            refine lv_goto (tgt := 15) hx hb d_q_countInSpan_78 (by decide) ?_
            exact ih fo x9 (by omega) (by omega) (by omega) _ _ hS (lv_sub hl [1, 2, 3, 4, 5, 6, 7, 0] rfl)
          · have ic8 := rl_ieq c8
            refine lv_aload_n hx hb d_q_countInSpan_46 rfl (lv_at hl 0 rfl) ?_
            refine lv_iload hx hb d_q_countInSpan_47 (lv_at hl 7 rfl) ?_
            have hpre := rl_BR.pre (av := .ref (a 4) :: [.int i]) rl_nw_ok hP hK hN
            refine rl_callr hS (va_runV (As := [.int i]) (rest := []) ⟨hx, hb, hml, hown, hG⟩ (k_q_countsForLimits l D a kI kZ F i ⟨by omega, hR⟩ (by omega) (by omega) _) (cwV 1 hG (rl_gV wd_290 wd_291 wd_292 wd_18 wd_293) rfl rfl rfl (by decide +kernel) ⟨Nat.le_of_ble_eq_true rfl, Nat.le_of_ble_eq_true rfl⟩) ⟨hpre.1, (va_recv hK hP (ci := 4) (q0 := 4) rfl rfl), hpre.2⟩ rfl rfl hl.1 rfl (lv_room (Nat.le_of_ble_eq_true rfl)) d_q_countInSpan_49 ⟨Nat.le_of_ble_eq_true rfl, Nat.le_of_ble_eq_true rfl⟩) (fun r10 locs hw hS => ?_)
            rcases hw with ⟨rfl, h11⟩ | ⟨rfl, h11⟩
            · refine lv_if_eq (tgt := 75) hx hb d_q_countInSpan_52 (by decide) (fun c9 => absurd c9 (by decide)) (fun _ => ?_)
              refine lv_aload_n hx hb d_q_countInSpan_55 rfl (lv_at hl 0 rfl) ?_
              refine va_get (D := D) (ci := 4) (v := .ref (a 22)) (C := "RightsLimit$Requests") (T := fT_q) (N := 13) hx hb hG fi_q hown hK hP 4 rfl rfl 4 (by decide) (hG _ wd_125) (fun _ h9 => h9) rfl d_q_countInSpan_56 ?_
              refine lv_iload hx hb d_q_countInSpan_59 (lv_at hl 7 rfl) ?_
              refine va_iald hx hb hK hP 22 0 rfl rfl (rl_in (n := 300) (by omega) (by omega)) d_q_countInSpan_61 ?_
              refine lv_topi (fun v12 ev12 => ?_)
              refine lv_iload hx hb d_q_countInSpan_62 (lv_at hl 5 rfl) ?_
              refine lv_iload hx hb d_q_countInSpan_64 (lv_at hl 4 rfl) ?_
              refine rl_callr hS (va_runSN (As := [.int v12, .int v2, .int jp4]) (rest := []) ⟨hx, hb, hml, hown, hG⟩ (k_x_isBetween l D a kI kZ v12 v2 jp4 _) ⟨va_cnB 3 hG (rl_gI wd_202) rfl rfl rfl (hN _ (List.mem_of_getElem? (i := 5) rfl)) (hG _ wd_14) (by decide +kernel) ⟨Nat.le_of_ble_eq_true rfl, Nat.le_of_ble_eq_true rfl⟩, (hG _ wd_201), trivial⟩ (rl_BR.pre rl_nw_ok rl_P0 hK hN) rfl rfl hl.1 rfl (lv_room (Nat.le_of_ble_eq_true rfl)) d_q_countInSpan_66 ⟨Nat.le_of_ble_eq_true rfl, Nat.le_of_ble_eq_true rfl⟩) (fun r13 locs hw hS => ?_)
              rcases hw with ⟨rfl, h14⟩ | ⟨rfl, h14⟩
              · refine lv_if_eq (tgt := 75) hx hb d_q_countInSpan_69 (by decide) (fun c9 => absurd c9 (by decide)) (fun _ => ?_)
                obtain ⟨x15, ex15⟩ : ∃ y : Int32, y = fo + 1 := ⟨_, rfl⟩
                refine lv_iinc (v := x15) (lv' := [(6, .int x15), (0, .ref (a 4)), (1, .int jp1), (2, .int jp2), (3, .int jp3), (4, .int jp4), (5, .int v2), (7, .int i)]) hx hb d_q_countInSpan_72 hl (k := 6) rfl (by rw [ex15]; rfl) (by decide) rfl (fun ls hl => ?_)
                obtain ⟨x16, ex16⟩ : ∃ y : Int32, y = i + 1 := ⟨_, rfl⟩
                refine lv_iinc (v := x16) (lv' := [(7, .int x16), (6, .int x15), (0, .ref (a 4)), (1, .int jp1), (2, .int jp2), (3, .int jp3), (4, .int jp4), (5, .int v2)]) hx hb d_q_countInSpan_75 hl (k := 7) rfl (by rw [ex16]; rfl) (by decide) rfl (fun ls hl => ?_)
                have ix16 : x16.toInt = i.toInt + 1 := by rw [ex16]; exact rl_inc (by omega)
                refine lv_goto (tgt := 15) hx hb d_q_countInSpan_78 (by decide) ?_
                exact ih x15 x16 (by omega) (by omega) (by omega) _ _ hS (lv_sub hl [2, 3, 4, 5, 6, 7, 1, 0] rfl)
              · refine lv_if_eq (tgt := 75) hx hb d_q_countInSpan_69 (by decide) (fun _ => ?_) (fun c9 => absurd c9 (by decide))
                obtain ⟨x17, ex17⟩ : ∃ y : Int32, y = i + 1 := ⟨_, rfl⟩
                refine lv_iinc (v := x17) (lv' := [(7, .int x17), (0, .ref (a 4)), (1, .int jp1), (2, .int jp2), (3, .int jp3), (4, .int jp4), (5, .int v2), (6, .int fo)]) hx hb d_q_countInSpan_75 hl (k := 7) rfl (by rw [ex17]; rfl) (by decide) rfl (fun ls hl => ?_)
                have ix17 : x17.toInt = i.toInt + 1 := by rw [ex17]; exact rl_inc (by omega)
                refine lv_goto (tgt := 15) hx hb d_q_countInSpan_78 (by decide) ?_
                exact ih fo x17 (by omega) (by omega) (by omega) _ _ hS (lv_sub hl [1, 2, 3, 4, 5, 6, 7, 0] rfl)
            · refine lv_if_eq (tgt := 75) hx hb d_q_countInSpan_52 (by decide) (fun _ => ?_) (fun c9 => absurd c9 (by decide))
              obtain ⟨x18, ex18⟩ : ∃ y : Int32, y = i + 1 := ⟨_, rfl⟩
              refine lv_iinc (v := x18) (lv' := [(7, .int x18), (0, .ref (a 4)), (1, .int jp1), (2, .int jp2), (3, .int jp3), (4, .int jp4), (5, .int v2), (6, .int fo)]) hx hb d_q_countInSpan_75 hl (k := 7) rfl (by rw [ex18]; rfl) (by decide) rfl (fun ls hl => ?_)
              have ix18 : x18.toInt = i.toInt + 1 := by rw [ex18]; exact rl_inc (by omega)
              refine lv_goto (tgt := 15) hx hb d_q_countInSpan_78 (by decide) ?_
              exact ih fo x18 (by omega) (by omega) (by omega) _ _ hS (lv_sub hl [1, 2, 3, 4, 5, 6, 7, 0] rfl)
  exact loop 400 0 0 (by decide) (by simp only [rl_n0]; omega) (by simp only [rl_n0]; omega) _ _ hS (lv_sub hl [3, 4, 5, 6, 7, 2, 1, 0] rfl)
set_option maxHeartbeats 4000000 in
set_option maxRecDepth 100000 in
theorem k_q_endedAt (l : Launch) (D : va_G) (a : Nat → Nat) (kI kZ : ClassId) (F : Nat → Nat → Int32) (jp1 jp2 : Int32) (hI : rl_I F) (H0 : Heap) : rl_Ri l ⟨"RightsLimit$Requests", "endedAt", "(II)I"⟩ (Cond.code ⟨"RightsLimit$Requests", "endedAt", "(II)I"⟩ prog_4_method_13_code 5 (some .int) :: rl_G) { frames := 2, cells := 0, slots := 0, locals := 42 } D rl_cl (rl_tys kI kZ) rl_nw [.ref (a 4), .int jp1, .int jp2] (rl_w a kI kZ F) H0 (fun (r : Int32) => r.toInt = -1 ∨ (0 ≤ r.toInt ∧ r.toInt < (F 27 3).toInt)) := by
  refine rl_metr (cc := prog_4_method_13_code) (maxL := 5) (ret := (some .int)) (by decide) rfl (Nat.le_of_ble_eq_true rfl) ?_
  intro p e s m below meth c ls hx hb hr hml hown hts hlocks hP hK hS hN hl
  have hown : s.vm.findClass "RightsLimit$Requests" = some m.cls := hown
  have hG : ∀ x ∈ rl_G, x.before _ s = true := fun x h => hts x (List.mem_cons_of_mem _ h)
  have hl : lv_has ls 5 [(0, .ref (a 4)), (1, .int jp1), (2, .int jp2)] := hl
  obtain ⟨hcnt, hR⟩ := id hI
  refine lv_iconst (v := 0) hx hb d_q_endedAt_0 (by decide) ?_
  refine lv_istore_n (lv' := [(3, .int 0), (0, .ref (a 4)), (1, .int jp1), (2, .int jp2)]) hx hb d_q_endedAt_1 rfl hl (by decide) rfl (fun ls hl => ?_)
  refine lv_iconst (v := 0) hx hb d_q_endedAt_2 (by decide) ?_
  refine lv_istore (lv' := [(4, .int 0), (3, .int 0), (0, .ref (a 4)), (1, .int jp1), (2, .int jp2)]) hx hb d_q_endedAt_3 hl (by decide) rfl (fun ls hl => ?_)
  have loop : ∀ (n : Nat) (fo i : Int32), 0 ≤ i.toInt → i.toInt ≤ (F 27 3).toInt → (F 27 3).toInt - i.toInt < n → ∀ (locs : List Loc) (ls : Array Slot), va_S (fun _ => False) s.heap s.heap locs → lv_has ls 5 [(0, .ref (a 4)), (1, .int jp1), (2, .int jp2), (3, .int fo), (4, .int i)] → W p l e ({ frames := 2, cells := 0, slots := 0, locals := 42 } : Room) s m ([.ref (a 4), .int jp1, .int jp2] : List Value).toArray below meth c s.heap locs 0 0 (MQ below (va_Qi (S := Unit) (fun (r : Int32) _ => r.toInt = -1 ∨ (0 ≤ r.toInt ∧ r.toInt < (F 27 3).toInt)) (fun _ t => t.heap = s.heap) (fun _ => False)) ([.ref (a 4), .int jp1, .int jp2] : List Value).toArray s 0 0 (fun _ => False)) (F0 m 5 ls []) := by
    intro n
    induction n with
    | zero => intro fo i h1 h2 h3; exact absurd h3 (by omega)
    | succ n ih =>
      intro fo i h1 h2 h3 locs ls hS hl
      refine lv_iload hx hb d_q_endedAt_5 (lv_at hl 4 rfl) ?_
      refine lv_aload_n hx hb d_q_endedAt_7 rfl (lv_at hl 0 rfl) ?_
      refine va_get (D := D) (ci := 4) (v := .int (F 27 3)) (C := "RightsLimit$Requests") (T := fT_q) (N := 13) hx hb hG fi_q hown hK hP 4 rfl rfl 12 (by decide) (hG _ wd_140) (fun _ h9 => h9) rfl d_q_endedAt_8 ?_
      refine lv_icmp_ge (tgt := 50) hx hb d_q_endedAt_11 (by decide) (fun c1 => ?_) (fun c1 => ?_)
      · have ic1 := rl_ile c1
        refine lv_iconst (v := (-1)) hx hb d_q_endedAt_50 (by decide) ?_
        exact W.iret (v := (-1)) hx hb hr (fun t ht hW => ⟨⟨(-1), (), rfl, (show ((-1) : Int32).toInt = -1 ∨ (0 ≤ ((-1) : Int32).toInt ∧ ((-1) : Int32).toInt < (F 27 3).toInt) by have q9 := rl_nm1; omega), ht⟩, hS.F ht⟩) hS.2.2 d_q_endedAt_51
      · have ic1 := rl_inle c1
        refine lv_aload_n hx hb d_q_endedAt_14 rfl (lv_at hl 0 rfl) ?_
        refine lv_iload hx hb d_q_endedAt_15 (lv_at hl 4 rfl) ?_
        have hpre := rl_BR.pre (av := .ref (a 4) :: [.int i]) rl_nw_ok hP hK hN
        refine rl_callr hS (va_runV (As := [.int i]) (rest := []) ⟨hx, hb, hml, hown, hG⟩ (k_q_isKept l D a kI kZ F i ⟨by omega, hR⟩ (by omega) (by omega) _) (cwV 1 hG (rl_gV wd_339 wd_340 wd_341 wd_18 wd_342) rfl rfl rfl (by decide +kernel) ⟨Nat.le_of_ble_eq_true rfl, Nat.le_of_ble_eq_true rfl⟩) ⟨hpre.1, (va_recv hK hP (ci := 4) (q0 := 4) rfl rfl), hpre.2⟩ rfl rfl hl.1 rfl (lv_room (Nat.le_of_ble_eq_true rfl)) d_q_endedAt_17 ⟨Nat.le_of_ble_eq_true rfl, Nat.le_of_ble_eq_true rfl⟩) (fun r2 locs hw hS => ?_)
        rcases hw with ⟨rfl, h3⟩ | ⟨rfl, h3⟩
        · refine lv_if_eq (tgt := 44) hx hb d_q_endedAt_20 (by decide) (fun c9 => absurd c9 (by decide)) (fun _ => ?_)
          refine lv_aload_n hx hb d_q_endedAt_23 rfl (lv_at hl 0 rfl) ?_
          refine lv_iload hx hb d_q_endedAt_24 (lv_at hl 4 rfl) ?_
          refine lv_iload_n hx hb d_q_endedAt_26 rfl (lv_at hl 1 rfl) ?_
          have hpre := rl_BR.pre (av := .ref (a 4) :: [.int i, .int jp1]) rl_nw_ok hP hK hN
          refine rl_callr hS (va_runV (As := [.int i, .int jp1]) (rest := []) ⟨hx, hb, hml, hown, hG⟩ (k_q_hasEnded l D a kI kZ F i jp1 ⟨by omega, hR⟩ (by omega) (by omega) _) (cwV 2 hG (rl_gV wd_344 wd_345 wd_346 wd_18 wd_347) rfl rfl rfl (by decide +kernel) ⟨Nat.le_of_ble_eq_true rfl, Nat.le_of_ble_eq_true rfl⟩) ⟨hpre.1, (va_recv hK hP (ci := 4) (q0 := 4) rfl rfl), hpre.2⟩ rfl rfl hl.1 rfl (lv_room (Nat.le_of_ble_eq_true rfl)) d_q_endedAt_27 ⟨Nat.le_of_ble_eq_true rfl, Nat.le_of_ble_eq_true rfl⟩) (fun r4 locs hw hS => ?_)
          rcases hw with ⟨rfl, h5⟩ | ⟨rfl, h5⟩
          · refine lv_if_eq (tgt := 44) hx hb d_q_endedAt_30 (by decide) (fun c9 => absurd c9 (by decide)) (fun _ => ?_)
            refine lv_iload_n hx hb d_q_endedAt_33 rfl (lv_at hl 3 rfl) ?_
            refine lv_iload_n hx hb d_q_endedAt_34 rfl (lv_at hl 2 rfl) ?_
            refine lv_icmp_ne (tgt := 41) hx hb d_q_endedAt_35 (by decide) (fun c6 => ?_) (fun c6 => ?_)
            · have ic6 := rl_ine c6
              obtain ⟨x7, ex7⟩ : ∃ y : Int32, y = fo + 1 := ⟨_, rfl⟩
              refine lv_iinc (v := x7) (lv' := [(3, .int x7), (0, .ref (a 4)), (1, .int jp1), (2, .int jp2), (4, .int i)]) hx hb d_q_endedAt_41 hl (k := 3) rfl (by rw [ex7]; rfl) (by decide) rfl (fun ls hl => ?_)
              obtain ⟨x8, ex8⟩ : ∃ y : Int32, y = i + 1 := ⟨_, rfl⟩
              refine lv_iinc (v := x8) (lv' := [(4, .int x8), (3, .int x7), (0, .ref (a 4)), (1, .int jp1), (2, .int jp2)]) hx hb d_q_endedAt_44 hl (k := 4) rfl (by rw [ex8]; rfl) (by decide) rfl (fun ls hl => ?_)
              have ix8 : x8.toInt = i.toInt + 1 := by rw [ex8]; exact rl_inc (by omega)
              refine lv_goto (tgt := 5) hx hb d_q_endedAt_47 (by decide) ?_
              exact ih x7 x8 (by omega) (by omega) (by omega) _ _ hS (lv_sub hl [2, 3, 4, 1, 0] rfl)
            · have ic6 := rl_ieq c6
              refine lv_iload hx hb d_q_endedAt_38 (lv_at hl 4 rfl) ?_
              exact W.iret (v := i) hx hb hr (fun t ht hW => ⟨⟨i, (), rfl, (show i.toInt = -1 ∨ (0 ≤ i.toInt ∧ i.toInt < (F 27 3).toInt) by omega), ht⟩, hS.F ht⟩) hS.2.2 d_q_endedAt_40
          · refine lv_if_eq (tgt := 44) hx hb d_q_endedAt_30 (by decide) (fun _ => ?_) (fun c9 => absurd c9 (by decide))
            obtain ⟨x9, ex9⟩ : ∃ y : Int32, y = i + 1 := ⟨_, rfl⟩
            refine lv_iinc (v := x9) (lv' := [(4, .int x9), (0, .ref (a 4)), (1, .int jp1), (2, .int jp2), (3, .int fo)]) hx hb d_q_endedAt_44 hl (k := 4) rfl (by rw [ex9]; rfl) (by decide) rfl (fun ls hl => ?_)
            have ix9 : x9.toInt = i.toInt + 1 := by rw [ex9]; exact rl_inc (by omega)
            refine lv_goto (tgt := 5) hx hb d_q_endedAt_47 (by decide) ?_
            exact ih fo x9 (by omega) (by omega) (by omega) _ _ hS (lv_sub hl [1, 2, 3, 4, 0] rfl)
        · refine lv_if_eq (tgt := 44) hx hb d_q_endedAt_20 (by decide) (fun _ => ?_) (fun c9 => absurd c9 (by decide))
          obtain ⟨x10, ex10⟩ : ∃ y : Int32, y = i + 1 := ⟨_, rfl⟩
          refine lv_iinc (v := x10) (lv' := [(4, .int x10), (0, .ref (a 4)), (1, .int jp1), (2, .int jp2), (3, .int fo)]) hx hb d_q_endedAt_44 hl (k := 4) rfl (by rw [ex10]; rfl) (by decide) rfl (fun ls hl => ?_)
          have ix10 : x10.toInt = i.toInt + 1 := by rw [ex10]; exact rl_inc (by omega)
          refine lv_goto (tgt := 5) hx hb d_q_endedAt_47 (by decide) ?_
          exact ih fo x10 (by omega) (by omega) (by omega) _ _ hS (lv_sub hl [1, 2, 3, 4, 0] rfl)
  exact loop 400 0 0 (by decide) (by simp only [rl_n0]; omega) (by simp only [rl_n0]; omega) _ _ hS (lv_sub hl [2, 3, 4, 1, 0] rfl)
set_option maxHeartbeats 4000000 in
set_option maxRecDepth 100000 in
theorem k_q_countOf (l : Launch) (D : va_G) (a : Nat → Nat) (kI kZ : ClassId) (F : Nat → Nat → Int32) (jp1 : Int32) (hI : rl_I F) (H0 : Heap) : rl_Ri l ⟨"RightsLimit$Requests", "countOf", "(I)I"⟩ (Cond.code ⟨"RightsLimit$Requests", "countOf", "(I)I"⟩ prog_4_method_14_code 4 (some .int) :: rl_G) { frames := 0, cells := 0, slots := 0, locals := 0 } D rl_cl (rl_tys kI kZ) rl_nw [.ref (a 4), .int jp1] (rl_w a kI kZ F) H0 (fun (r : Int32) => True) := by
  refine rl_metr (cc := prog_4_method_14_code) (maxL := 4) (ret := (some .int)) (by decide) rfl (Nat.le_of_ble_eq_true rfl) ?_
  intro p e s m below meth c ls hx hb hr hml hown hts hlocks hP hK hS hN hl
  have hown : s.vm.findClass "RightsLimit$Requests" = some m.cls := hown
  have hG : ∀ x ∈ rl_G, x.before _ s = true := fun x h => hts x (List.mem_cons_of_mem _ h)
  have hl : lv_has ls 4 [(0, .ref (a 4)), (1, .int jp1)] := hl
  obtain ⟨hcnt, hR⟩ := id hI
  refine lv_iconst (v := 0) hx hb d_q_countOf_0 (by decide) ?_
  refine lv_istore_n (lv' := [(2, .int 0), (0, .ref (a 4)), (1, .int jp1)]) hx hb d_q_countOf_1 rfl hl (by decide) rfl (fun ls hl => ?_)
  refine lv_iconst (v := 0) hx hb d_q_countOf_2 (by decide) ?_
  refine lv_istore_n (lv' := [(3, .int 0), (2, .int 0), (0, .ref (a 4)), (1, .int jp1)]) hx hb d_q_countOf_3 rfl hl (by decide) rfl (fun ls hl => ?_)
  have loop : ∀ (n : Nat) (fo i : Int32), 0 ≤ i.toInt → i.toInt ≤ (F 27 3).toInt → (F 27 3).toInt - i.toInt < n → ∀ (locs : List Loc) (ls : Array Slot), va_S (fun _ => False) s.heap s.heap locs → lv_has ls 4 [(0, .ref (a 4)), (1, .int jp1), (2, .int fo), (3, .int i)] → W p l e ({ frames := 0, cells := 0, slots := 0, locals := 0 } : Room) s m ([.ref (a 4), .int jp1] : List Value).toArray below meth c s.heap locs 0 0 (MQ below (va_Qi (S := Unit) (fun (r : Int32) _ => True) (fun _ t => t.heap = s.heap) (fun _ => False)) ([.ref (a 4), .int jp1] : List Value).toArray s 0 0 (fun _ => False)) (F0 m 4 ls []) := by
    intro n
    induction n with
    | zero => intro fo i h1 h2 h3; exact absurd h3 (by omega)
    | succ n ih =>
      intro fo i h1 h2 h3 locs ls hS hl
      refine lv_iload_n hx hb d_q_countOf_4 rfl (lv_at hl 3 rfl) ?_
      refine lv_aload_n hx hb d_q_countOf_5 rfl (lv_at hl 0 rfl) ?_
      refine va_get (D := D) (ci := 4) (v := .int (F 27 3)) (C := "RightsLimit$Requests") (T := fT_q) (N := 13) hx hb hG fi_q hown hK hP 4 rfl rfl 12 (by decide) (hG _ wd_140) (fun _ h9 => h9) rfl d_q_countOf_6 ?_
      refine lv_icmp_ge (tgt := 31) hx hb d_q_countOf_9 (by decide) (fun c1 => ?_) (fun c1 => ?_)
      · have ic1 := rl_ile c1
        refine lv_iload_n hx hb d_q_countOf_31 rfl (lv_at hl 2 rfl) ?_
        exact W.iret (v := fo) hx hb hr (fun t ht hW => ⟨⟨fo, (), rfl, trivial, ht⟩, hS.F ht⟩) hS.2.2 d_q_countOf_32
      · have ic1 := rl_inle c1
        refine lv_aload_n hx hb d_q_countOf_12 rfl (lv_at hl 0 rfl) ?_
        refine va_get (D := D) (ci := 4) (v := .ref (a 18)) (C := "RightsLimit$Requests") (T := fT_q) (N := 13) hx hb hG fi_q hown hK hP 4 rfl rfl 0 (by decide) (hG _ wd_117) (fun _ h9 => h9) rfl d_q_countOf_13 ?_
        refine lv_iload_n hx hb d_q_countOf_16 rfl (lv_at hl 3 rfl) ?_
        refine va_iald hx hb hK hP 18 0 rfl rfl (rl_in (n := 300) (by omega) (by omega)) d_q_countOf_17 ?_
        refine lv_topi (fun v2 ev2 => ?_)
        refine lv_iload_n hx hb d_q_countOf_18 rfl (lv_at hl 1 rfl) ?_
        refine lv_icmp_ne (tgt := 25) hx hb d_q_countOf_19 (by decide) (fun c3 => ?_) (fun c3 => ?_)
        · have ic3 := rl_ine c3
          obtain ⟨x4, ex4⟩ : ∃ y : Int32, y = i + 1 := ⟨_, rfl⟩
          refine lv_iinc (v := x4) (lv' := [(3, .int x4), (0, .ref (a 4)), (1, .int jp1), (2, .int fo)]) hx hb d_q_countOf_25 hl (k := 3) rfl (by rw [ex4]; rfl) (by decide) rfl (fun ls hl => ?_)
          have ix4 : x4.toInt = i.toInt + 1 := by rw [ex4]; exact rl_inc (by omega)
          refine lv_goto (tgt := 4) hx hb d_q_countOf_28 (by decide) ?_
          exact ih fo x4 (by omega) (by omega) (by omega) _ _ hS (lv_sub hl [1, 2, 3, 0] rfl)
        · have ic3 := rl_ieq c3
          obtain ⟨x5, ex5⟩ : ∃ y : Int32, y = fo + 1 := ⟨_, rfl⟩
          refine lv_iinc (v := x5) (lv' := [(2, .int x5), (0, .ref (a 4)), (1, .int jp1), (3, .int i)]) hx hb d_q_countOf_22 hl (k := 2) rfl (by rw [ex5]; rfl) (by decide) rfl (fun ls hl => ?_)
          obtain ⟨x6, ex6⟩ : ∃ y : Int32, y = i + 1 := ⟨_, rfl⟩
          refine lv_iinc (v := x6) (lv' := [(3, .int x6), (2, .int x5), (0, .ref (a 4)), (1, .int jp1)]) hx hb d_q_countOf_25 hl (k := 3) rfl (by rw [ex6]; rfl) (by decide) rfl (fun ls hl => ?_)
          have ix6 : x6.toInt = i.toInt + 1 := by rw [ex6]; exact rl_inc (by omega)
          refine lv_goto (tgt := 4) hx hb d_q_countOf_28 (by decide) ?_
          exact ih x5 x6 (by omega) (by omega) (by omega) _ _ hS (lv_sub hl [2, 3, 1, 0] rfl)
  exact loop 400 0 0 (by decide) (by simp only [rl_n0]; omega) (by simp only [rl_n0]; omega) _ _ hS (lv_sub hl [2, 3, 1, 0] rfl)
set_option maxHeartbeats 4000000 in
set_option maxRecDepth 100000 in
theorem k_q_countRefusedOf (l : Launch) (D : va_G) (a : Nat → Nat) (kI kZ : ClassId) (F : Nat → Nat → Int32) (jp1 : Int32) (hI : rl_I F) (H0 : Heap) : rl_Ri l ⟨"RightsLimit$Requests", "countRefusedOf", "(I)I"⟩ (Cond.code ⟨"RightsLimit$Requests", "countRefusedOf", "(I)I"⟩ prog_4_method_15_code 4 (some .int) :: rl_G) { frames := 1, cells := 0, slots := 0, locals := 21 } D rl_cl (rl_tys kI kZ) rl_nw [.ref (a 4), .int jp1] (rl_w a kI kZ F) H0 (fun (r : Int32) => True) := by
  refine rl_metr (cc := prog_4_method_15_code) (maxL := 4) (ret := (some .int)) (by decide) rfl (Nat.le_of_ble_eq_true rfl) ?_
  intro p e s m below meth c ls hx hb hr hml hown hts hlocks hP hK hS hN hl
  have hown : s.vm.findClass "RightsLimit$Requests" = some m.cls := hown
  have hG : ∀ x ∈ rl_G, x.before _ s = true := fun x h => hts x (List.mem_cons_of_mem _ h)
  have hl : lv_has ls 4 [(0, .ref (a 4)), (1, .int jp1)] := hl
  obtain ⟨hcnt, hR⟩ := id hI
  refine lv_iconst (v := 0) hx hb d_q_countRefusedOf_0 (by decide) ?_
  refine lv_istore_n (lv' := [(2, .int 0), (0, .ref (a 4)), (1, .int jp1)]) hx hb d_q_countRefusedOf_1 rfl hl (by decide) rfl (fun ls hl => ?_)
  refine lv_iconst (v := 0) hx hb d_q_countRefusedOf_2 (by decide) ?_
  refine lv_istore_n (lv' := [(3, .int 0), (2, .int 0), (0, .ref (a 4)), (1, .int jp1)]) hx hb d_q_countRefusedOf_3 rfl hl (by decide) rfl (fun ls hl => ?_)
  have loop : ∀ (n : Nat) (fo i : Int32), 0 ≤ i.toInt → i.toInt ≤ (F 27 3).toInt → (F 27 3).toInt - i.toInt < n → ∀ (locs : List Loc) (ls : Array Slot), va_S (fun _ => False) s.heap s.heap locs → lv_has ls 4 [(0, .ref (a 4)), (1, .int jp1), (2, .int fo), (3, .int i)] → W p l e ({ frames := 1, cells := 0, slots := 0, locals := 21 } : Room) s m ([.ref (a 4), .int jp1] : List Value).toArray below meth c s.heap locs 0 0 (MQ below (va_Qi (S := Unit) (fun (r : Int32) _ => True) (fun _ t => t.heap = s.heap) (fun _ => False)) ([.ref (a 4), .int jp1] : List Value).toArray s 0 0 (fun _ => False)) (F0 m 4 ls []) := by
    intro n
    induction n with
    | zero => intro fo i h1 h2 h3; exact absurd h3 (by omega)
    | succ n ih =>
      intro fo i h1 h2 h3 locs ls hS hl
      refine lv_iload_n hx hb d_q_countRefusedOf_4 rfl (lv_at hl 3 rfl) ?_
      refine lv_aload_n hx hb d_q_countRefusedOf_5 rfl (lv_at hl 0 rfl) ?_
      refine va_get (D := D) (ci := 4) (v := .int (F 27 3)) (C := "RightsLimit$Requests") (T := fT_q) (N := 13) hx hb hG fi_q hown hK hP 4 rfl rfl 12 (by decide) (hG _ wd_140) (fun _ h9 => h9) rfl d_q_countRefusedOf_6 ?_
      refine lv_icmp_ge (tgt := 39) hx hb d_q_countRefusedOf_9 (by decide) (fun c1 => ?_) (fun c1 => ?_)
      · have ic1 := rl_ile c1
        refine lv_iload_n hx hb d_q_countRefusedOf_39 rfl (lv_at hl 2 rfl) ?_
        exact W.iret (v := fo) hx hb hr (fun t ht hW => ⟨⟨fo, (), rfl, trivial, ht⟩, hS.F ht⟩) hS.2.2 d_q_countRefusedOf_40
      · have ic1 := rl_inle c1
        refine lv_aload_n hx hb d_q_countRefusedOf_12 rfl (lv_at hl 0 rfl) ?_
        refine va_get (D := D) (ci := 4) (v := .ref (a 18)) (C := "RightsLimit$Requests") (T := fT_q) (N := 13) hx hb hG fi_q hown hK hP 4 rfl rfl 0 (by decide) (hG _ wd_117) (fun _ h9 => h9) rfl d_q_countRefusedOf_13 ?_
        refine lv_iload_n hx hb d_q_countRefusedOf_16 rfl (lv_at hl 3 rfl) ?_
        refine va_iald hx hb hK hP 18 0 rfl rfl (rl_in (n := 300) (by omega) (by omega)) d_q_countRefusedOf_17 ?_
        refine lv_topi (fun v2 ev2 => ?_)
        refine lv_iload_n hx hb d_q_countRefusedOf_18 rfl (lv_at hl 1 rfl) ?_
        refine lv_icmp_ne (tgt := 33) hx hb d_q_countRefusedOf_19 (by decide) (fun c3 => ?_) (fun c3 => ?_)
        · have ic3 := rl_ine c3
          obtain ⟨x4, ex4⟩ : ∃ y : Int32, y = i + 1 := ⟨_, rfl⟩
          refine lv_iinc (v := x4) (lv' := [(3, .int x4), (0, .ref (a 4)), (1, .int jp1), (2, .int fo)]) hx hb d_q_countRefusedOf_33 hl (k := 3) rfl (by rw [ex4]; rfl) (by decide) rfl (fun ls hl => ?_)
          have ix4 : x4.toInt = i.toInt + 1 := by rw [ex4]; exact rl_inc (by omega)
          refine lv_goto (tgt := 4) hx hb d_q_countRefusedOf_36 (by decide) ?_
          exact ih fo x4 (by omega) (by omega) (by omega) _ _ hS (lv_sub hl [1, 2, 3, 0] rfl)
        · have ic3 := rl_ieq c3
          refine lv_aload_n hx hb d_q_countRefusedOf_22 rfl (lv_at hl 0 rfl) ?_
          refine lv_iload_n hx hb d_q_countRefusedOf_23 rfl (lv_at hl 3 rfl) ?_
          have hpre := rl_BR.pre (av := .ref (a 4) :: [.int i]) rl_nw_ok hP hK hN
          refine rl_callr hS (va_runV (As := [.int i]) (rest := []) ⟨hx, hb, hml, hown, hG⟩ (k_q_isCopy l D a kI kZ F i ⟨by omega, hR⟩ (by omega) (by omega) _) (cwV 1 hG (rl_gV wd_343 wd_304 wd_305 wd_18 wd_306) rfl rfl rfl (by decide +kernel) ⟨Nat.le_of_ble_eq_true rfl, Nat.le_of_ble_eq_true rfl⟩) ⟨hpre.1, (va_recv hK hP (ci := 4) (q0 := 4) rfl rfl), hpre.2⟩ rfl rfl hl.1 rfl (lv_room (Nat.le_of_ble_eq_true rfl)) d_q_countRefusedOf_24 ⟨Nat.le_of_ble_eq_true rfl, Nat.le_of_ble_eq_true rfl⟩) (fun r5 locs hw hS => ?_)
          rcases hw with ⟨rfl, h6⟩ | ⟨rfl, h6⟩
          · refine lv_if_ne (tgt := 33) hx hb d_q_countRefusedOf_27 (by decide) (fun _ => ?_) (fun c9 => absurd c9 (by decide))
            obtain ⟨x7, ex7⟩ : ∃ y : Int32, y = i + 1 := ⟨_, rfl⟩
            refine lv_iinc (v := x7) (lv' := [(3, .int x7), (0, .ref (a 4)), (1, .int jp1), (2, .int fo)]) hx hb d_q_countRefusedOf_33 hl (k := 3) rfl (by rw [ex7]; rfl) (by decide) rfl (fun ls hl => ?_)
            have ix7 : x7.toInt = i.toInt + 1 := by rw [ex7]; exact rl_inc (by omega)
            refine lv_goto (tgt := 4) hx hb d_q_countRefusedOf_36 (by decide) ?_
            exact ih fo x7 (by omega) (by omega) (by omega) _ _ hS (lv_sub hl [1, 2, 3, 0] rfl)
          · refine lv_if_ne (tgt := 33) hx hb d_q_countRefusedOf_27 (by decide) (fun c9 => absurd c9 (by decide)) (fun _ => ?_)
            obtain ⟨x8, ex8⟩ : ∃ y : Int32, y = fo + 1 := ⟨_, rfl⟩
            refine lv_iinc (v := x8) (lv' := [(2, .int x8), (0, .ref (a 4)), (1, .int jp1), (3, .int i)]) hx hb d_q_countRefusedOf_30 hl (k := 2) rfl (by rw [ex8]; rfl) (by decide) rfl (fun ls hl => ?_)
            obtain ⟨x9, ex9⟩ : ∃ y : Int32, y = i + 1 := ⟨_, rfl⟩
            refine lv_iinc (v := x9) (lv' := [(3, .int x9), (2, .int x8), (0, .ref (a 4)), (1, .int jp1)]) hx hb d_q_countRefusedOf_33 hl (k := 3) rfl (by rw [ex9]; rfl) (by decide) rfl (fun ls hl => ?_)
            have ix9 : x9.toInt = i.toInt + 1 := by rw [ex9]; exact rl_inc (by omega)
            refine lv_goto (tgt := 4) hx hb d_q_countRefusedOf_36 (by decide) ?_
            exact ih x8 x9 (by omega) (by omega) (by omega) _ _ hS (lv_sub hl [2, 3, 1, 0] rfl)
  exact loop 400 0 0 (by decide) (by simp only [rl_n0]; omega) (by simp only [rl_n0]; omega) _ _ hS (lv_sub hl [2, 3, 1, 0] rfl)
set_option maxHeartbeats 4000000 in
set_option maxRecDepth 100000 in
theorem k_q_pagesAllowedTo (l : Launch) (D : va_G) (a : Nat → Nat) (kI kZ : ClassId) (F : Nat → Nat → Int32) (jp1 : Int32) (hI : rl_I F) (H0 : Heap) : rl_Ri l ⟨"RightsLimit$Requests", "pagesAllowedTo", "(I)I"⟩ (Cond.code ⟨"RightsLimit$Requests", "pagesAllowedTo", "(I)I"⟩ prog_4_method_16_code 4 (some .int) :: rl_G) { frames := 1, cells := 0, slots := 0, locals := 21 } D rl_cl (rl_tys kI kZ) rl_nw [.ref (a 4), .int jp1] (rl_w a kI kZ F) H0 (fun (r : Int32) => True) := by
  refine rl_metr (cc := prog_4_method_16_code) (maxL := 4) (ret := (some .int)) (by decide) rfl (Nat.le_of_ble_eq_true rfl) ?_
  intro p e s m below meth c ls hx hb hr hml hown hts hlocks hP hK hS hN hl
  have hown : s.vm.findClass "RightsLimit$Requests" = some m.cls := hown
  have hG : ∀ x ∈ rl_G, x.before _ s = true := fun x h => hts x (List.mem_cons_of_mem _ h)
  have hl : lv_has ls 4 [(0, .ref (a 4)), (1, .int jp1)] := hl
  obtain ⟨hcnt, hR⟩ := id hI
  refine lv_iconst (v := 0) hx hb d_q_pagesAllowedTo_0 (by decide) ?_
  refine lv_istore_n (lv' := [(2, .int 0), (0, .ref (a 4)), (1, .int jp1)]) hx hb d_q_pagesAllowedTo_1 rfl hl (by decide) rfl (fun ls hl => ?_)
  refine lv_iconst (v := 0) hx hb d_q_pagesAllowedTo_2 (by decide) ?_
  refine lv_istore_n (lv' := [(3, .int 0), (2, .int 0), (0, .ref (a 4)), (1, .int jp1)]) hx hb d_q_pagesAllowedTo_3 rfl hl (by decide) rfl (fun ls hl => ?_)
  have loop : ∀ (n : Nat) (fo i : Int32), 0 ≤ i.toInt → i.toInt ≤ (F 27 3).toInt → (F 27 3).toInt - i.toInt < n → ∀ (locs : List Loc) (ls : Array Slot), va_S (fun _ => False) s.heap s.heap locs → lv_has ls 4 [(0, .ref (a 4)), (1, .int jp1), (2, .int fo), (3, .int i)] → W p l e ({ frames := 1, cells := 0, slots := 0, locals := 21 } : Room) s m ([.ref (a 4), .int jp1] : List Value).toArray below meth c s.heap locs 0 0 (MQ below (va_Qi (S := Unit) (fun (r : Int32) _ => True) (fun _ t => t.heap = s.heap) (fun _ => False)) ([.ref (a 4), .int jp1] : List Value).toArray s 0 0 (fun _ => False)) (F0 m 4 ls []) := by
    intro n
    induction n with
    | zero => intro fo i h1 h2 h3; exact absurd h3 (by omega)
    | succ n ih =>
      intro fo i h1 h2 h3 locs ls hS hl
      refine lv_iload_n hx hb d_q_pagesAllowedTo_4 rfl (lv_at hl 3 rfl) ?_
      refine lv_aload_n hx hb d_q_pagesAllowedTo_5 rfl (lv_at hl 0 rfl) ?_
      refine va_get (D := D) (ci := 4) (v := .int (F 27 3)) (C := "RightsLimit$Requests") (T := fT_q) (N := 13) hx hb hG fi_q hown hK hP 4 rfl rfl 12 (by decide) (hG _ wd_140) (fun _ h9 => h9) rfl d_q_pagesAllowedTo_6 ?_
      refine lv_icmp_ge (tgt := 45) hx hb d_q_pagesAllowedTo_9 (by decide) (fun c1 => ?_) (fun c1 => ?_)
      · have ic1 := rl_ile c1
        refine lv_iload_n hx hb d_q_pagesAllowedTo_45 rfl (lv_at hl 2 rfl) ?_
        exact W.iret (v := fo) hx hb hr (fun t ht hW => ⟨⟨fo, (), rfl, trivial, ht⟩, hS.F ht⟩) hS.2.2 d_q_pagesAllowedTo_46
      · have ic1 := rl_inle c1
        refine lv_aload_n hx hb d_q_pagesAllowedTo_12 rfl (lv_at hl 0 rfl) ?_
        refine va_get (D := D) (ci := 4) (v := .ref (a 18)) (C := "RightsLimit$Requests") (T := fT_q) (N := 13) hx hb hG fi_q hown hK hP 4 rfl rfl 0 (by decide) (hG _ wd_117) (fun _ h9 => h9) rfl d_q_pagesAllowedTo_13 ?_
        refine lv_iload_n hx hb d_q_pagesAllowedTo_16 rfl (lv_at hl 3 rfl) ?_
        refine va_iald hx hb hK hP 18 0 rfl rfl (rl_in (n := 300) (by omega) (by omega)) d_q_pagesAllowedTo_17 ?_
        refine lv_topi (fun v2 ev2 => ?_)
        refine lv_iload_n hx hb d_q_pagesAllowedTo_18 rfl (lv_at hl 1 rfl) ?_
        refine lv_icmp_ne (tgt := 39) hx hb d_q_pagesAllowedTo_19 (by decide) (fun c3 => ?_) (fun c3 => ?_)
        · have ic3 := rl_ine c3
          obtain ⟨x4, ex4⟩ : ∃ y : Int32, y = i + 1 := ⟨_, rfl⟩
          refine lv_iinc (v := x4) (lv' := [(3, .int x4), (0, .ref (a 4)), (1, .int jp1), (2, .int fo)]) hx hb d_q_pagesAllowedTo_39 hl (k := 3) rfl (by rw [ex4]; rfl) (by decide) rfl (fun ls hl => ?_)
          have ix4 : x4.toInt = i.toInt + 1 := by rw [ex4]; exact rl_inc (by omega)
          refine lv_goto (tgt := 4) hx hb d_q_pagesAllowedTo_42 (by decide) ?_
          exact ih fo x4 (by omega) (by omega) (by omega) _ _ hS (lv_sub hl [1, 2, 3, 0] rfl)
        · have ic3 := rl_ieq c3
          refine lv_aload_n hx hb d_q_pagesAllowedTo_22 rfl (lv_at hl 0 rfl) ?_
          refine lv_iload_n hx hb d_q_pagesAllowedTo_23 rfl (lv_at hl 3 rfl) ?_
          have hpre := rl_BR.pre (av := .ref (a 4) :: [.int i]) rl_nw_ok hP hK hN
          refine rl_callr hS (va_runV (As := [.int i]) (rest := []) ⟨hx, hb, hml, hown, hG⟩ (k_q_isCopy l D a kI kZ F i ⟨by omega, hR⟩ (by omega) (by omega) _) (cwV 1 hG (rl_gV wd_343 wd_304 wd_305 wd_18 wd_306) rfl rfl rfl (by decide +kernel) ⟨Nat.le_of_ble_eq_true rfl, Nat.le_of_ble_eq_true rfl⟩) ⟨hpre.1, (va_recv hK hP (ci := 4) (q0 := 4) rfl rfl), hpre.2⟩ rfl rfl hl.1 rfl (lv_room (Nat.le_of_ble_eq_true rfl)) d_q_pagesAllowedTo_24 ⟨Nat.le_of_ble_eq_true rfl, Nat.le_of_ble_eq_true rfl⟩) (fun r5 locs hw hS => ?_)
          rcases hw with ⟨rfl, h6⟩ | ⟨rfl, h6⟩
          · refine lv_if_eq (tgt := 39) hx hb d_q_pagesAllowedTo_27 (by decide) (fun c9 => absurd c9 (by decide)) (fun _ => ?_)
            refine lv_iload_n hx hb d_q_pagesAllowedTo_30 rfl (lv_at hl 2 rfl) ?_
            refine lv_aload_n hx hb d_q_pagesAllowedTo_31 rfl (lv_at hl 0 rfl) ?_
            refine va_get (D := D) (ci := 4) (v := .ref (a 21)) (C := "RightsLimit$Requests") (T := fT_q) (N := 13) hx hb hG fi_q hown hK hP 4 rfl rfl 3 (by decide) (hG _ wd_123) (fun _ h9 => h9) rfl d_q_pagesAllowedTo_32 ?_
            refine lv_iload_n hx hb d_q_pagesAllowedTo_35 rfl (lv_at hl 3 rfl) ?_
            refine va_iald hx hb hK hP 21 0 rfl rfl (rl_in (n := 300) (by omega) (by omega)) d_q_pagesAllowedTo_36 ?_
            refine lv_topi (fun v7 ev7 => ?_)
            refine lv_iadd hx hb d_q_pagesAllowedTo_37 ?_
            refine lv_topi (fun v8 ev8 => ?_)
            refine lv_istore_n (lv' := [(2, .int v8), (0, .ref (a 4)), (1, .int jp1), (3, .int i)]) hx hb d_q_pagesAllowedTo_38 rfl hl (by decide) rfl (fun ls hl => ?_)
            obtain ⟨x9, ex9⟩ : ∃ y : Int32, y = i + 1 := ⟨_, rfl⟩
            refine lv_iinc (v := x9) (lv' := [(3, .int x9), (2, .int v8), (0, .ref (a 4)), (1, .int jp1)]) hx hb d_q_pagesAllowedTo_39 hl (k := 3) rfl (by rw [ex9]; rfl) (by decide) rfl (fun ls hl => ?_)
            have ix9 : x9.toInt = i.toInt + 1 := by rw [ex9]; exact rl_inc (by omega)
            refine lv_goto (tgt := 4) hx hb d_q_pagesAllowedTo_42 (by decide) ?_
            exact ih v8 x9 (by omega) (by omega) (by omega) _ _ hS (lv_sub hl [2, 3, 1, 0] rfl)
          · refine lv_if_eq (tgt := 39) hx hb d_q_pagesAllowedTo_27 (by decide) (fun _ => ?_) (fun c9 => absurd c9 (by decide))
            obtain ⟨x10, ex10⟩ : ∃ y : Int32, y = i + 1 := ⟨_, rfl⟩
            refine lv_iinc (v := x10) (lv' := [(3, .int x10), (0, .ref (a 4)), (1, .int jp1), (2, .int fo)]) hx hb d_q_pagesAllowedTo_39 hl (k := 3) rfl (by rw [ex10]; rfl) (by decide) rfl (fun ls hl => ?_)
            have ix10 : x10.toInt = i.toInt + 1 := by rw [ex10]; exact rl_inc (by omega)
            refine lv_goto (tgt := 4) hx hb d_q_pagesAllowedTo_42 (by decide) ?_
            exact ih fo x10 (by omega) (by omega) (by omega) _ _ hS (lv_sub hl [1, 2, 3, 0] rfl)
  exact loop 400 0 0 (by decide) (by simp only [rl_n0]; omega) (by simp only [rl_n0]; omega) _ _ hS (lv_sub hl [2, 3, 1, 0] rfl)
set_option maxHeartbeats 4000000 in
set_option maxRecDepth 100000 in
theorem k_q_centsOf (l : Launch) (D : va_G) (a : Nat → Nat) (kI kZ : ClassId) (F : Nat → Nat → Int32) (jp1 : Int32) (hI : rl_I F) (H0 : Heap) : rl_Ri l ⟨"RightsLimit$Requests", "centsOf", "(I)I"⟩ (Cond.code ⟨"RightsLimit$Requests", "centsOf", "(I)I"⟩ prog_4_method_17_code 4 (some .int) :: rl_G) { frames := 0, cells := 0, slots := 0, locals := 0 } D rl_cl (rl_tys kI kZ) rl_nw [.ref (a 4), .int jp1] (rl_w a kI kZ F) H0 (fun (r : Int32) => True) := by
  refine rl_metr (cc := prog_4_method_17_code) (maxL := 4) (ret := (some .int)) (by decide) rfl (Nat.le_of_ble_eq_true rfl) ?_
  intro p e s m below meth c ls hx hb hr hml hown hts hlocks hP hK hS hN hl
  have hown : s.vm.findClass "RightsLimit$Requests" = some m.cls := hown
  have hG : ∀ x ∈ rl_G, x.before _ s = true := fun x h => hts x (List.mem_cons_of_mem _ h)
  have hl : lv_has ls 4 [(0, .ref (a 4)), (1, .int jp1)] := hl
  obtain ⟨hcnt, hR⟩ := id hI
  refine lv_iconst (v := 0) hx hb d_q_centsOf_0 (by decide) ?_
  refine lv_istore_n (lv' := [(2, .int 0), (0, .ref (a 4)), (1, .int jp1)]) hx hb d_q_centsOf_1 rfl hl (by decide) rfl (fun ls hl => ?_)
  refine lv_iconst (v := 0) hx hb d_q_centsOf_2 (by decide) ?_
  refine lv_istore_n (lv' := [(3, .int 0), (2, .int 0), (0, .ref (a 4)), (1, .int jp1)]) hx hb d_q_centsOf_3 rfl hl (by decide) rfl (fun ls hl => ?_)
  have loop : ∀ (n : Nat) (fo i : Int32), 0 ≤ i.toInt → i.toInt ≤ (F 27 3).toInt → (F 27 3).toInt - i.toInt < n → ∀ (locs : List Loc) (ls : Array Slot), va_S (fun _ => False) s.heap s.heap locs → lv_has ls 4 [(0, .ref (a 4)), (1, .int jp1), (2, .int fo), (3, .int i)] → W p l e ({ frames := 0, cells := 0, slots := 0, locals := 0 } : Room) s m ([.ref (a 4), .int jp1] : List Value).toArray below meth c s.heap locs 0 0 (MQ below (va_Qi (S := Unit) (fun (r : Int32) _ => True) (fun _ t => t.heap = s.heap) (fun _ => False)) ([.ref (a 4), .int jp1] : List Value).toArray s 0 0 (fun _ => False)) (F0 m 4 ls []) := by
    intro n
    induction n with
    | zero => intro fo i h1 h2 h3; exact absurd h3 (by omega)
    | succ n ih =>
      intro fo i h1 h2 h3 locs ls hS hl
      refine lv_iload_n hx hb d_q_centsOf_4 rfl (lv_at hl 3 rfl) ?_
      refine lv_aload_n hx hb d_q_centsOf_5 rfl (lv_at hl 0 rfl) ?_
      refine va_get (D := D) (ci := 4) (v := .int (F 27 3)) (C := "RightsLimit$Requests") (T := fT_q) (N := 13) hx hb hG fi_q hown hK hP 4 rfl rfl 12 (by decide) (hG _ wd_140) (fun _ h9 => h9) rfl d_q_centsOf_6 ?_
      refine lv_icmp_ge (tgt := 37) hx hb d_q_centsOf_9 (by decide) (fun c1 => ?_) (fun c1 => ?_)
      · have ic1 := rl_ile c1
        refine lv_iload_n hx hb d_q_centsOf_37 rfl (lv_at hl 2 rfl) ?_
        exact W.iret (v := fo) hx hb hr (fun t ht hW => ⟨⟨fo, (), rfl, trivial, ht⟩, hS.F ht⟩) hS.2.2 d_q_centsOf_38
      · have ic1 := rl_inle c1
        refine lv_aload_n hx hb d_q_centsOf_12 rfl (lv_at hl 0 rfl) ?_
        refine va_get (D := D) (ci := 4) (v := .ref (a 18)) (C := "RightsLimit$Requests") (T := fT_q) (N := 13) hx hb hG fi_q hown hK hP 4 rfl rfl 0 (by decide) (hG _ wd_117) (fun _ h9 => h9) rfl d_q_centsOf_13 ?_
        refine lv_iload_n hx hb d_q_centsOf_16 rfl (lv_at hl 3 rfl) ?_
        refine va_iald hx hb hK hP 18 0 rfl rfl (rl_in (n := 300) (by omega) (by omega)) d_q_centsOf_17 ?_
        refine lv_topi (fun v2 ev2 => ?_)
        refine lv_iload_n hx hb d_q_centsOf_18 rfl (lv_at hl 1 rfl) ?_
        refine lv_icmp_ne (tgt := 31) hx hb d_q_centsOf_19 (by decide) (fun c3 => ?_) (fun c3 => ?_)
        · have ic3 := rl_ine c3
          obtain ⟨x4, ex4⟩ : ∃ y : Int32, y = i + 1 := ⟨_, rfl⟩
          refine lv_iinc (v := x4) (lv' := [(3, .int x4), (0, .ref (a 4)), (1, .int jp1), (2, .int fo)]) hx hb d_q_centsOf_31 hl (k := 3) rfl (by rw [ex4]; rfl) (by decide) rfl (fun ls hl => ?_)
          have ix4 : x4.toInt = i.toInt + 1 := by rw [ex4]; exact rl_inc (by omega)
          refine lv_goto (tgt := 4) hx hb d_q_centsOf_34 (by decide) ?_
          exact ih fo x4 (by omega) (by omega) (by omega) _ _ hS (lv_sub hl [1, 2, 3, 0] rfl)
        · have ic3 := rl_ieq c3
          refine lv_iload_n hx hb d_q_centsOf_22 rfl (lv_at hl 2 rfl) ?_
          refine lv_aload_n hx hb d_q_centsOf_23 rfl (lv_at hl 0 rfl) ?_
          refine va_get (D := D) (ci := 4) (v := .ref (a 26)) (C := "RightsLimit$Requests") (T := fT_q) (N := 13) hx hb hG fi_q hown hK hP 4 rfl rfl 8 (by decide) (hG _ wd_132) (fun _ h9 => h9) rfl d_q_centsOf_24 ?_
          refine lv_iload_n hx hb d_q_centsOf_27 rfl (lv_at hl 3 rfl) ?_
          refine va_iald hx hb hK hP 26 0 rfl rfl (rl_in (n := 300) (by omega) (by omega)) d_q_centsOf_28 ?_
          refine lv_topi (fun v5 ev5 => ?_)
          refine lv_iadd hx hb d_q_centsOf_29 ?_
          refine lv_topi (fun v6 ev6 => ?_)
          refine lv_istore_n (lv' := [(2, .int v6), (0, .ref (a 4)), (1, .int jp1), (3, .int i)]) hx hb d_q_centsOf_30 rfl hl (by decide) rfl (fun ls hl => ?_)
          obtain ⟨x7, ex7⟩ : ∃ y : Int32, y = i + 1 := ⟨_, rfl⟩
          refine lv_iinc (v := x7) (lv' := [(3, .int x7), (2, .int v6), (0, .ref (a 4)), (1, .int jp1)]) hx hb d_q_centsOf_31 hl (k := 3) rfl (by rw [ex7]; rfl) (by decide) rfl (fun ls hl => ?_)
          have ix7 : x7.toInt = i.toInt + 1 := by rw [ex7]; exact rl_inc (by omega)
          refine lv_goto (tgt := 4) hx hb d_q_centsOf_34 (by decide) ?_
          exact ih v6 x7 (by omega) (by omega) (by omega) _ _ hS (lv_sub hl [2, 3, 1, 0] rfl)
  exact loop 400 0 0 (by decide) (by simp only [rl_n0]; omega) (by simp only [rl_n0]; omega) _ _ hS (lv_sub hl [2, 3, 1, 0] rfl)
