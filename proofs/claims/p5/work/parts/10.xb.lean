set_option maxHeartbeats 4000000 in
set_option maxRecDepth 100000 in
theorem k_x_mayWaive (l : Launch) (D : va_G) (a : Nat → Nat) (kI kZ : ClassId) (F : Nat → Nat → Int32) (jt jn : Int32) (hI : rl_I F) (ht0 : 0 ≤ jt.toInt) (ht1 : jt.toInt < 50) (hn0 : 0 ≤ jn.toInt) (hn1 : jn.toInt < 100) (H0 : Heap) : rl_Ri l ⟨"RightsLimit", "mayWaive", "(II)Z"⟩ (Cond.code ⟨"RightsLimit", "mayWaive", "(II)Z"⟩ prog_1_method_22_code 4 (some .boolean) :: rl_G) { frames := 0, cells := 0, slots := 0, locals := 0 } D rl_cl (rl_tys kI kZ) rl_nw [.ref (a 0), .int jt, .int jn] (rl_w a kI kZ F) H0 (fun (r : Int32) => (r = 1 ∧ True) ∨ (r = 0 ∧ True)) := by
  refine rl_metr (cc := prog_1_method_22_code) (maxL := 4) (ret := (some .boolean)) (by decide) rfl (Nat.le_of_ble_eq_true rfl) ?_
  intro p e s m below meth c ls hx hb hr hml hown hts hlocks hP hK hS hN hl
  have hown : s.vm.findClass "RightsLimit" = some m.cls := hown
  have hG : ∀ x ∈ rl_G, x.before _ s = true := fun x h => hts x (List.mem_cons_of_mem _ h)
  have hl : lv_has ls 4 [(0, .ref (a 0)), (1, .int jt), (2, .int jn)] := hl
  obtain ⟨hcnt, hR⟩ := id hI
  refine lv_aload_n hx hb d_x_mayWaive_0 rfl (lv_at hl 0 rfl) ?_
  refine va_get (D := D) (ci := 0) (v := .ref (a 1)) (C := "RightsLimit") (T := fT_x) (N := 8) hx hb hG fi_x hown hK hP 0 rfl rfl 0 (by decide) (hG _ wd_168) (fun _ h9 => h9) rfl d_x_mayWaive_1 ?_
  refine va_get (D := D) (ci := 1) (v := .ref (a 7)) (C := "RightsLimit$Titles") (T := fT_t) (N := 5) hx hb hG fi_t hown hK hP 1 rfl rfl 2 (by decide) (hG _ wd_43) (fun _ h9 => h9) rfl d_x_mayWaive_4 ?_
  refine lv_iload_n hx hb d_x_mayWaive_7 rfl (lv_at hl 1 rfl) ?_
  refine va_iald hx hb hK hP 7 0 rfl rfl (rl_in (n := 50) (by omega) (by omega)) d_x_mayWaive_8 ?_
  refine lv_topi (fun v1 ev1 => ?_)
  refine lv_istore_n (lv' := [(3, .int v1), (0, .ref (a 0)), (1, .int jt), (2, .int jn)]) hx hb d_x_mayWaive_9 rfl hl (by decide) rfl (fun ls hl => ?_)
  refine lv_iload_n hx hb d_x_mayWaive_10 rfl (lv_at hl 0 rfl) ?_
  refine lv_if_eq (tgt := 31) hx hb d_x_mayWaive_11 (by decide) (fun c2 => ?_) (fun c2 => ?_)
  · have ic2 := rl_ieq c2
    simp only [rl_n0] at ic2
    refine lv_iconst (v := 0) hx hb d_x_mayWaive_31 (by decide) ?_
    exact W.zret (v := 0) hx hb hr rfl (fun t ht hW => ⟨⟨0, (), rfl, Or.inr ⟨rfl, trivial⟩, ht⟩, hS.F ht⟩) hS.2.2 d_x_mayWaive_32
  · have ic2 := rl_ine c2
    simp only [rl_n0] at ic2
    refine lv_aload_n hx hb d_x_mayWaive_14 rfl (lv_at hl 1 rfl) ?_
    refine va_get (D := D) (ci := 0) (v := .ref (a 31)) (C := "RightsLimit") (T := fT_x) (N := 8) hx hb hG fi_x hown hK hP 0 rfl rfl 5 (by decide) (hG _ wd_173) (fun _ h9 => h9) rfl d_x_mayWaive_15 ?_
    refine lv_iload_n hx hb d_x_mayWaive_18 rfl (lv_at hl 3 rfl) ?_
    refine va_iald hx hb hK hP 31 0 rfl rfl (rl_in (n := 100) (by omega) (by omega)) d_x_mayWaive_19 ?_
    refine lv_topi (fun v3 ev3 => ?_)
    refine lv_iconst (v := 1) hx hb d_x_mayWaive_20 (by decide) ?_
    refine lv_iload_n hx hb d_x_mayWaive_21 rfl (lv_at hl 0 rfl) ?_
    refine lv_ishl hx hb d_x_mayWaive_22 ?_
    refine lv_topi (fun v4 ev4 => ?_)
    refine lv_iand hx hb d_x_mayWaive_23 ?_
    refine lv_topi (fun v5 ev5 => ?_)
    refine lv_if_eq (tgt := 31) hx hb d_x_mayWaive_24 (by decide) (fun c6 => ?_) (fun c6 => ?_)
    · have ic6 := rl_ieq c6
      simp only [rl_n0] at ic6
      refine lv_iconst (v := 0) hx hb d_x_mayWaive_31 (by decide) ?_
      exact W.zret (v := 0) hx hb hr rfl (fun t ht hW => ⟨⟨0, (), rfl, Or.inr ⟨rfl, trivial⟩, ht⟩, hS.F ht⟩) hS.2.2 d_x_mayWaive_32
    · have ic6 := rl_ine c6
      simp only [rl_n0] at ic6
      refine lv_iconst (v := 1) hx hb d_x_mayWaive_27 (by decide) ?_
      refine lv_goto (tgt := 32) hx hb d_x_mayWaive_28 (by decide) ?_
      exact W.zret (v := 1) hx hb hr rfl (fun t ht hW => ⟨⟨1, (), rfl, Or.inl ⟨rfl, trivial⟩, ht⟩, hS.F ht⟩) hS.2.2 d_x_mayWaive_32
set_option maxHeartbeats 4000000 in
set_option maxRecDepth 100000 in
theorem k_x_goOnTo (l : Launch) (D : va_G) (a : Nat → Nat) (kI kZ : ClassId) (F : Nat → Nat → Int32) (jt : Int32) (hI : rl_I F) (sz : Nat) : rl_Ci (S := Nat → Nat → Int32) l ⟨"RightsLimit", "goOnTo", "(I)Z"⟩ (Cond.code ⟨"RightsLimit", "goOnTo", "(I)Z"⟩ prog_1_method_23_code 2 (some .boolean) :: rl_G) { frames := 1, cells := 0, slots := 0, locals := 22 } D rl_cl (rl_tys kI kZ) rl_nw [.ref (a 0), .int jt] (rl_w a kI kZ F) sz (fun (r : Int32) (F' : Nat → Nat → Int32) => rl_R F' ∧ ((r = 1 ∧ (F' 27 0).toInt = (F 27 0).toInt ∧ (F' 27 1).toInt = (F 27 1).toInt ∧ (F' 27 2).toInt = (F 27 2).toInt ∧ (F' 27 3).toInt = (F 27 3).toInt) ∨ (r = 0 ∧ (F' 27 0).toInt = (F 27 0).toInt ∧ (F' 27 1).toInt = (F 27 1).toInt ∧ (F' 27 2).toInt = (F 27 2).toInt ∧ (F' 27 3).toInt = (F 27 3).toInt))) (fun F' => rl_w a kI kZ F') 0 0 := by
  refine rl_meti (cc := prog_1_method_23_code) (maxL := 2) (ret := (some .boolean)) (by decide) rfl (Nat.le_of_ble_eq_true rfl) ?_
  intro p e s m below meth c A ls hx hb hr hml hown hts hlocks hnm hP hK hD hS hA hN hl
  have hown : s.vm.findClass "RightsLimit" = some m.cls := hown
  have hG : ∀ x ∈ rl_G, x.before _ s = true := fun x h => hts x (List.mem_cons_of_mem _ h)
  have hl : lv_has ls 2 [(0, .ref (a 0)), (1, .int jt)] := hl
  obtain ⟨hcnt, hR⟩ := id hI
  refine lv_iload_n hx hb d_x_goOnTo_0 rfl (lv_at hl 1 rfl) ?_
  refine lv_aload_n hx hb d_x_goOnTo_1 rfl (lv_at hl 0 rfl) ?_
  refine va_get (D := D) (ci := 0) (v := .int (F 27 4)) (C := "RightsLimit") (T := fT_x) (N := 8) hx hb hG fi_x hown hK hP 0 rfl rfl 6 (by decide) (hG _ wd_174) (fun _ h9 => h9) rfl d_x_goOnTo_2 ?_
  refine lv_ldc (v := 1000000000) hx hb hown (hG _ wd_239) d_x_goOnTo_5 ?_
  refine rl_callr hS (va_runS (As := [.int jt, .int (F 27 4), .int 1000000000]) (rest := []) ⟨hx, hb, hml, hown, hG⟩ (k_x_isBetween l D a kI kZ jt (F 27 4) 1000000000 _) (cwS 3 hG (rl_gS wd_200 wd_201 wd_14 wd_202) rfl rfl rfl (by decide +kernel) ⟨Nat.le_of_ble_eq_true rfl, Nat.le_of_ble_eq_true rfl⟩) (rl_BR.pre rl_nw_ok rl_P0 hK hN) rfl rfl hl.1 rfl (lv_room (Nat.le_of_ble_eq_true rfl)) d_x_goOnTo_7 ⟨Nat.le_of_ble_eq_true rfl, Nat.le_of_ble_eq_true rfl⟩) (fun r1 locs hw hS => ?_)
  try simp only [rl_n1000000000] at hw
  rcases hw with ⟨rfl, h2⟩ | ⟨rfl, h2⟩
  · refine lv_if_ne (tgt := 15) hx hb d_x_goOnTo_10 (by decide) (fun _ => ?_) (fun c9 => absurd c9 (by decide))
    refine lv_aload_n hx hb d_x_goOnTo_15 rfl (lv_at hl 0 rfl) ?_
    refine lv_iload_n hx hb d_x_goOnTo_16 rfl (lv_at hl 1 rfl) ?_
    refine va_put (D := D) (ci := 0) (v := .int jt) (ty := .int) (C := "RightsLimit") (T := fT_x) (N := 8) hx hb hG fi_x fy_x fo_x fn_x hown hK hP hD hS 0 rfl rfl 6 (by decide) (hG _ wd_174) (fun _ h9 => h9) rfl (by decide +kernel) rfl rfl (Nat.le_of_ble_eq_true rfl) d_x_goOnTo_17 (fun H locs hP hD hS => ?_)
    obtain ⟨F3, eF3⟩ : ∃ G, G = rl_st F 27 4 jt := ⟨_, rfl⟩
    have hP : va_P D rl_cl (rl_w a kI kZ F3) H := by rw [eF3]; exact hP
    have hD : va_D A (rl_w a kI kZ F3) := by rw [eF3]; exact hD
    obtain ⟨tF3, hRF3⟩ := rl_putS eF3 (by decide) (by decide) (by decide) (by decide) hR
    refine lv_iconst (v := 1) hx hb d_x_goOnTo_20 (by decide) ?_
    exact W.zret (v := 1) hx hb hr rfl (fun t ht hW => ⟨⟨1, F3, rfl, ⟨hRF3, Or.inl ⟨rfl, by omega⟩⟩, ⟨by rw [ht]; exact hP, hD⟩⟩, hS.F ht⟩) hS.2.2 d_x_goOnTo_21
  · refine lv_if_ne (tgt := 15) hx hb d_x_goOnTo_10 (by decide) (fun c9 => absurd c9 (by decide)) (fun _ => ?_)
    refine lv_iconst (v := 0) hx hb d_x_goOnTo_13 (by decide) ?_
    exact W.zret (v := 0) hx hb hr rfl (fun t ht hW => ⟨⟨0, F, rfl, ⟨hR, Or.inr ⟨rfl, by omega⟩⟩, ⟨by rw [ht]; exact hP, hD⟩⟩, hS.F ht⟩) hS.2.2 d_x_goOnTo_14
set_option maxHeartbeats 4000000 in
set_option maxRecDepth 100000 in
theorem k_x_firstLimitReached (l : Launch) (D : va_G) (a : Nat → Nat) (kI kZ : ClassId) (F : Nat → Nat → Int32) (jp1 jp2 jp3 : Int32) (hI : rl_I F) (H0 : Heap) : rl_Ri l ⟨"RightsLimit", "firstLimitReached", "(III)I"⟩ (Cond.code ⟨"RightsLimit", "firstLimitReached", "(III)I"⟩ prog_1_method_21_code 5 (some .int) :: rl_G) { frames := 2, cells := 0, slots := 0, locals := 49 } D rl_cl (rl_tys kI kZ) rl_nw [.ref (a 0), .int jp1, .int jp2, .int jp3] (rl_w a kI kZ F) H0 (fun (r : Int32) => True) := by
  refine rl_metr (cc := prog_1_method_21_code) (maxL := 5) (ret := (some .int)) (by decide) rfl (Nat.le_of_ble_eq_true rfl) ?_
  intro p e s m below meth c ls hx hb hr hml hown hts hlocks hP hK hS hN hl
  have hown : s.vm.findClass "RightsLimit" = some m.cls := hown
  have hG : ∀ x ∈ rl_G, x.before _ s = true := fun x h => hts x (List.mem_cons_of_mem _ h)
  have hl : lv_has ls 5 [(0, .ref (a 0)), (1, .int jp1), (2, .int jp2), (3, .int jp3)] := hl
  obtain ⟨hcnt, hR⟩ := id hI
  refine lv_iconst (v := 0) hx hb d_x_firstLimitReached_0 (by decide) ?_
  refine lv_istore (lv' := [(4, .int 0), (0, .ref (a 0)), (1, .int jp1), (2, .int jp2), (3, .int jp3)]) hx hb d_x_firstLimitReached_1 hl (by decide) rfl (fun ls hl => ?_)
  have loop : ∀ (n : Nat) (i : Int32), 0 ≤ i.toInt → i.toInt ≤ (F 27 1).toInt → (F 27 1).toInt - i.toInt < n → ∀ (locs : List Loc) (ls : Array Slot), va_S (fun _ => False) s.heap s.heap locs → lv_has ls 5 [(0, .ref (a 0)), (1, .int jp1), (2, .int jp2), (3, .int jp3), (4, .int i)] → W p l e ({ frames := 2, cells := 0, slots := 0, locals := 49 } : Room) s m ([.ref (a 0), .int jp1, .int jp2, .int jp3] : List Value).toArray below meth c s.heap locs 0 0 (MQ below (va_Qi (S := Unit) (fun (r : Int32) _ => True) (fun _ t => t.heap = s.heap) (fun _ => False)) ([.ref (a 0), .int jp1, .int jp2, .int jp3] : List Value).toArray s 0 0 (fun _ => False)) (F0 m 3 ls []) := by
    intro n
    induction n with
    | zero => intro i h1 h2 h3; exact absurd h3 (by omega)
    | succ n ih =>
      intro i h1 h2 h3 locs ls hS hl
      refine lv_iload hx hb d_x_firstLimitReached_3 (lv_at hl 4 rfl) ?_
      refine lv_aload_n hx hb d_x_firstLimitReached_5 rfl (lv_at hl 0 rfl) ?_
      refine va_get (D := D) (ci := 0) (v := .ref (a 2)) (C := "RightsLimit") (T := fT_x) (N := 8) hx hb hG fi_x hown hK hP 0 rfl rfl 1 (by decide) (hG _ wd_169) (fun _ h9 => h9) rfl d_x_firstLimitReached_6 ?_
      refine va_get (D := D) (ci := 2) (v := .int (F 27 1)) (C := "RightsLimit$Limits") (T := fT_l) (N := 5) hx hb hG fi_l hown hK hP 2 rfl rfl 4 (by decide) (hG _ wd_73) (fun _ h9 => h9) rfl d_x_firstLimitReached_9 ?_
      refine lv_icmp_ge (tgt := 71) hx hb d_x_firstLimitReached_12 (by decide) (fun c1 => ?_) (fun c1 => ?_)
      · have ic1 := rl_ile c1
        refine lv_iconst (v := (-1)) hx hb d_x_firstLimitReached_71 (by decide) ?_
        exact W.iret (v := (-1)) hx hb hr (fun t ht hW => ⟨⟨(-1), (), rfl, trivial, ht⟩, hS.F ht⟩) hS.2.2 d_x_firstLimitReached_72
      · have ic1 := rl_inle c1
        refine lv_aload_n hx hb d_x_firstLimitReached_15 rfl (lv_at hl 0 rfl) ?_
        refine va_get (D := D) (ci := 0) (v := .ref (a 2)) (C := "RightsLimit") (T := fT_x) (N := 8) hx hb hG fi_x hown hK hP 0 rfl rfl 1 (by decide) (hG _ wd_169) (fun _ h9 => h9) rfl d_x_firstLimitReached_16 ?_
        refine lv_iload hx hb d_x_firstLimitReached_19 (lv_at hl 4 rfl) ?_
        refine lv_iload_n hx hb d_x_firstLimitReached_21 rfl (lv_at hl 1 rfl) ?_
        refine lv_iload_n hx hb d_x_firstLimitReached_22 rfl (lv_at hl 2 rfl) ?_
        have hpre := rl_BR.pre (av := .ref (a 2) :: [.int i, .int jp1, .int jp2]) rl_nw_ok hP hK hN
        refine rl_callr hS (va_runV (As := [.int i, .int jp1, .int jp2]) (rest := []) ⟨hx, hb, hml, hown, hG⟩ (k_l_isOf l D a kI kZ F i jp1 jp2 ⟨by omega, hR⟩ (by omega) (by omega) _) (cwV 3 hG (rl_gV wd_281 wd_282 wd_283 wd_16 wd_284) rfl rfl rfl (by decide +kernel) ⟨Nat.le_of_ble_eq_true rfl, Nat.le_of_ble_eq_true rfl⟩) ⟨hpre.1, (va_recv hK hP (ci := 2) (q0 := 2) rfl rfl), hpre.2⟩ rfl rfl hl.1 rfl (lv_room (Nat.le_of_ble_eq_true rfl)) d_x_firstLimitReached_23 ⟨Nat.le_of_ble_eq_true rfl, Nat.le_of_ble_eq_true rfl⟩) (fun r2 locs hw hS => ?_)
        rcases hw with ⟨rfl, h3⟩ | ⟨rfl, h3⟩
        · refine lv_if_eq (tgt := 65) hx hb d_x_firstLimitReached_26 (by decide) (fun c9 => absurd c9 (by decide)) (fun _ => ?_)
          refine lv_aload_n hx hb d_x_firstLimitReached_29 rfl (lv_at hl 0 rfl) ?_
          refine va_get (D := D) (ci := 0) (v := .ref (a 4)) (C := "RightsLimit") (T := fT_x) (N := 8) hx hb hG fi_x hown hK hP 0 rfl rfl 3 (by decide) (hG _ wd_171) (fun _ h9 => h9) rfl d_x_firstLimitReached_30 ?_
          refine lv_iload_n hx hb d_x_firstLimitReached_33 rfl (lv_at hl 1 rfl) ?_
          refine lv_iload_n hx hb d_x_firstLimitReached_34 rfl (lv_at hl 2 rfl) ?_
          refine lv_aload_n hx hb d_x_firstLimitReached_35 rfl (lv_at hl 0 rfl) ?_
          refine va_get (D := D) (ci := 0) (v := .ref (a 2)) (C := "RightsLimit") (T := fT_x) (N := 8) hx hb hG fi_x hown hK hP 0 rfl rfl 1 (by decide) (hG _ wd_169) (fun _ h9 => h9) rfl d_x_firstLimitReached_36 ?_
          refine va_get (D := D) (ci := 2) (v := .ref (a 11)) (C := "RightsLimit$Limits") (T := fT_l) (N := 5) hx hb hG fi_l hown hK hP 2 rfl rfl 2 (by decide) (hG _ wd_69) (fun _ h9 => h9) rfl d_x_firstLimitReached_39 ?_
          refine lv_iload hx hb d_x_firstLimitReached_42 (lv_at hl 4 rfl) ?_
          refine va_iald hx hb hK hP 11 0 rfl rfl (rl_in (n := 100) (by omega) (by omega)) d_x_firstLimitReached_44 ?_
          refine lv_topi (fun v4 ev4 => ?_)
          refine lv_iload_n hx hb d_x_firstLimitReached_45 rfl (lv_at hl 3 rfl) ?_
          have hpre := rl_BR.pre (av := .ref (a 4) :: [.int jp1, .int jp2, .int v4, .int jp3]) rl_nw_ok hP hK hN
          refine rl_callr hS (va_runV (As := [.int jp1, .int jp2, .int v4, .int jp3]) (rest := []) ⟨hx, hb, hml, hown, hG⟩ (k_q_countInSpan l D a kI kZ F jp1 jp2 v4 jp3 ⟨by omega, hR⟩ _) (cwV 4 hG (rl_gV wd_285 wd_286 wd_287 wd_18 wd_288) rfl rfl rfl (by decide +kernel) ⟨Nat.le_of_ble_eq_true rfl, Nat.le_of_ble_eq_true rfl⟩) ⟨hpre.1, (va_recv hK hP (ci := 4) (q0 := 4) rfl rfl), hpre.2⟩ rfl rfl hl.1 rfl (lv_room (Nat.le_of_ble_eq_true rfl)) d_x_firstLimitReached_46 ⟨Nat.le_of_ble_eq_true rfl, Nat.le_of_ble_eq_true rfl⟩) (fun r5 locs hw hS => ?_)
          have hwr5 := hw
          refine lv_aload_n hx hb d_x_firstLimitReached_49 rfl (lv_at hl 0 rfl) ?_
          refine va_get (D := D) (ci := 0) (v := .ref (a 2)) (C := "RightsLimit") (T := fT_x) (N := 8) hx hb hG fi_x hown hK hP 0 rfl rfl 1 (by decide) (hG _ wd_169) (fun _ h9 => h9) rfl d_x_firstLimitReached_50 ?_
          refine va_get (D := D) (ci := 2) (v := .ref (a 12)) (C := "RightsLimit$Limits") (T := fT_l) (N := 5) hx hb hG fi_l hown hK hP 2 rfl rfl 3 (by decide) (hG _ wd_71) (fun _ h9 => h9) rfl d_x_firstLimitReached_53 ?_
          refine lv_iload hx hb d_x_firstLimitReached_56 (lv_at hl 4 rfl) ?_
          refine va_iald hx hb hK hP 12 0 rfl rfl (rl_in (n := 100) (by omega) (by omega)) d_x_firstLimitReached_58 ?_
          refine lv_topi (fun v6 ev6 => ?_)
          refine lv_icmp_lt (tgt := 65) hx hb d_x_firstLimitReached_59 (by decide) (fun c7 => ?_) (fun c7 => ?_)
          · have ic7 := rl_ilt c7
            obtain ⟨x8, ex8⟩ : ∃ y : Int32, y = i + 1 := ⟨_, rfl⟩
            refine lv_iinc (v := x8) (lv' := [(4, .int x8), (0, .ref (a 0)), (1, .int jp1), (2, .int jp2), (3, .int jp3)]) hx hb d_x_firstLimitReached_65 hl (k := 4) rfl (by rw [ex8]; rfl) (by decide) rfl (fun ls hl => ?_)
            have ix8 : x8.toInt = i.toInt + 1 := by rw [ex8]; exact rl_inc (by omega)
            refine lv_goto (tgt := 3) hx hb d_x_firstLimitReached_68 (by decide) ?_
            exact ih x8 (by omega) (by omega) (by omega) _ _ hS (lv_sub hl [1, 2, 3, 4, 0] rfl)
          · have ic7 := rl_inlt c7
            refine lv_iload hx hb d_x_firstLimitReached_62 (lv_at hl 4 rfl) ?_
            exact W.iret (v := i) hx hb hr (fun t ht hW => ⟨⟨i, (), rfl, trivial, ht⟩, hS.F ht⟩) hS.2.2 d_x_firstLimitReached_64
        · refine lv_if_eq (tgt := 65) hx hb d_x_firstLimitReached_26 (by decide) (fun _ => ?_) (fun c9 => absurd c9 (by decide))
          obtain ⟨x9, ex9⟩ : ∃ y : Int32, y = i + 1 := ⟨_, rfl⟩
          refine lv_iinc (v := x9) (lv' := [(4, .int x9), (0, .ref (a 0)), (1, .int jp1), (2, .int jp2), (3, .int jp3)]) hx hb d_x_firstLimitReached_65 hl (k := 4) rfl (by rw [ex9]; rfl) (by decide) rfl (fun ls hl => ?_)
          have ix9 : x9.toInt = i.toInt + 1 := by rw [ex9]; exact rl_inc (by omega)
          refine lv_goto (tgt := 3) hx hb d_x_firstLimitReached_68 (by decide) ?_
          exact ih x9 (by omega) (by omega) (by omega) _ _ hS (lv_sub hl [1, 2, 3, 4, 0] rfl)
  exact loop 400 0 (by decide) (by simp only [rl_n0]; omega) (by simp only [rl_n0]; omega) _ _ hS (lv_sub hl [1, 2, 3, 4, 0] rfl)
set_option maxHeartbeats 4000000 in
set_option maxRecDepth 100000 in
theorem k_x_decideBeyondLimits (l : Launch) (D : va_G) (a : Nat → Nat) (kI kZ : ClassId) (F : Nat → Nat → Int32) (jn jt ju : Int32) (hI : rl_I F) (hn0 : 0 ≤ jn.toInt) (hn1 : jn.toInt < 300) (ht0 : 0 ≤ jt.toInt) (ht1 : jt.toInt < 50) (sz : Nat) : rl_Cv (S := Nat → Nat → Int32) l ⟨"RightsLimit", "decideBeyondLimits", "(III)V"⟩ (Cond.code ⟨"RightsLimit", "decideBeyondLimits", "(III)V"⟩ prog_1_method_20_code 5 none :: rl_G) { frames := 1, cells := 0, slots := 0, locals := 22 } D rl_cl (rl_tys kI kZ) rl_nw [.ref (a 0), .int jn, .int jt, .int ju] (rl_w a kI kZ F) sz (fun (F' : Nat → Nat → Int32) => rl_R F' ∧ ((F' 27 0).toInt = (F 27 0).toInt ∧ (F' 27 1).toInt = (F 27 1).toInt ∧ (F' 27 2).toInt = (F 27 2).toInt ∧ (F' 27 3).toInt = (F 27 3).toInt)) (fun F' => rl_w a kI kZ F') 0 0 := by
  refine rl_metv (cc := prog_1_method_20_code) (maxL := 5) (ret := none) (by decide) rfl (Nat.le_of_ble_eq_true rfl) ?_
  intro p e s m below meth c A ls hx hb hr hml hown hts hlocks hnm hP hK hD hS hA hN hl
  have hown : s.vm.findClass "RightsLimit" = some m.cls := hown
  have hG : ∀ x ∈ rl_G, x.before _ s = true := fun x h => hts x (List.mem_cons_of_mem _ h)
  have hl : lv_has ls 5 [(0, .ref (a 0)), (1, .int jn), (2, .int jt), (3, .int ju)] := hl
  obtain ⟨hcnt, hR⟩ := id hI
  refine lv_aload_n hx hb d_x_decideBeyondLimits_0 rfl (lv_at hl 0 rfl) ?_
  refine va_get (D := D) (ci := 0) (v := .ref (a 30)) (C := "RightsLimit") (T := fT_x) (N := 8) hx hb hG fi_x hown hK hP 0 rfl rfl 4 (by decide) (hG _ wd_172) (fun _ h9 => h9) rfl d_x_decideBeyondLimits_1 ?_
  refine lv_aload_n hx hb d_x_decideBeyondLimits_4 rfl (lv_at hl 0 rfl) ?_
  refine va_get (D := D) (ci := 0) (v := .ref (a 1)) (C := "RightsLimit") (T := fT_x) (N := 8) hx hb hG fi_x hown hK hP 0 rfl rfl 0 (by decide) (hG _ wd_168) (fun _ h9 => h9) rfl d_x_decideBeyondLimits_5 ?_
  refine va_get (D := D) (ci := 1) (v := .ref (a 5)) (C := "RightsLimit$Titles") (T := fT_t) (N := 5) hx hb hG fi_t hown hK hP 1 rfl rfl 0 (by decide) (hG _ wd_39) (fun _ h9 => h9) rfl d_x_decideBeyondLimits_8 ?_
  refine lv_iload_n hx hb d_x_decideBeyondLimits_11 rfl (lv_at hl 2 rfl) ?_
  refine va_iald hx hb hK hP 5 0 rfl rfl (rl_in (n := 50) (by omega) (by omega)) d_x_decideBeyondLimits_12 ?_
  refine lv_topi (fun v1 ev1 => ?_)
  have iv1 : 0 ≤ v1.toInt ∧ v1.toInt < 100 := by rw [ev1]; exact hR _
  refine va_iald hx hb hK hP 30 0 rfl rfl (rl_in (n := 100) (by omega) (by omega)) d_x_decideBeyondLimits_13 ?_
  refine lv_topi (fun v2 ev2 => ?_)
  refine lv_istore (lv' := [(4, .int v2), (0, .ref (a 0)), (1, .int jn), (2, .int jt), (3, .int ju)]) hx hb d_x_decideBeyondLimits_14 hl (by decide) rfl (fun ls hl => ?_)
  refine lv_aload_n hx hb d_x_decideBeyondLimits_16 rfl (lv_at hl 1 rfl) ?_
  refine va_get (D := D) (ci := 0) (v := .ref (a 1)) (C := "RightsLimit") (T := fT_x) (N := 8) hx hb hG fi_x hown hK hP 0 rfl rfl 0 (by decide) (hG _ wd_168) (fun _ h9 => h9) rfl d_x_decideBeyondLimits_17 ?_
  refine va_get (D := D) (ci := 1) (v := .ref (a 8)) (C := "RightsLimit$Titles") (T := fT_t) (N := 5) hx hb hG fi_t hown hK hP 1 rfl rfl 3 (by decide) (hG _ wd_45) (fun _ h9 => h9) rfl d_x_decideBeyondLimits_20 ?_
  refine lv_iload_n hx hb d_x_decideBeyondLimits_23 rfl (lv_at hl 3 rfl) ?_
  refine va_iald hx hb hK hP 8 0 rfl rfl (rl_in (n := 50) (by omega) (by omega)) d_x_decideBeyondLimits_24 ?_
  refine lv_topi (fun v3 ev3 => ?_)
  refine lv_if_le (tgt := 53) hx hb d_x_decideBeyondLimits_25 (by decide) (fun c4 => ?_) (fun c4 => ?_)
  · have ic4 := rl_ile c4
    simp only [rl_n0] at ic4
    refine lv_iload hx hb d_x_decideBeyondLimits_53 (lv_at hl 0 rfl) ?_
    refine lv_if_le (tgt := 80) hx hb d_x_decideBeyondLimits_55 (by decide) (fun c5 => ?_) (fun c5 => ?_)
    · have ic5 := rl_ile c5
      simp only [rl_n0] at ic5
      refine lv_aload_n hx hb d_x_decideBeyondLimits_80 rfl (lv_at hl 1 rfl) ?_
      refine lv_iload_n hx hb d_x_decideBeyondLimits_81 rfl (lv_at hl 4 rfl) ?_
      refine va_put (D := D) (ci := 0) (v := .int ju) (ty := .int) (C := "RightsLimit") (T := fT_x) (N := 8) hx hb hG fi_x fy_x fo_x fn_x hown hK hP hD hS 0 rfl rfl 7 (by decide) (hG _ wd_175) (fun _ h9 => h9) rfl (by decide +kernel) rfl rfl (Nat.le_of_ble_eq_true rfl) d_x_decideBeyondLimits_82 (fun H locs hP hD hS => ?_)
      obtain ⟨F6, eF6⟩ : ∃ G, G = rl_st F 27 5 ju := ⟨_, rfl⟩
      have hP : va_P D rl_cl (rl_w a kI kZ F6) H := by rw [eF6]; exact hP
      have hD : va_D A (rl_w a kI kZ F6) := by rw [eF6]; exact hD
      obtain ⟨tF6, hRF6⟩ := rl_putS eF6 (by decide) (by decide) (by decide) (by decide) hR
      exact W.vret hx hb hr (fun t ht hW => ⟨⟨F6, rfl, ⟨hRF6, (show (F6 27 0).toInt = (F 27 0).toInt ∧ (F6 27 1).toInt = (F 27 1).toInt ∧ (F6 27 2).toInt = (F 27 2).toInt ∧ (F6 27 3).toInt = (F 27 3).toInt by omega)⟩, ⟨by rw [ht]; exact hP, hD⟩⟩, hS.F ht⟩) hS.2.2 d_x_decideBeyondLimits_85
    · have ic5 := rl_inle c5
      simp only [rl_n0] at ic5
      refine lv_aload_n hx hb d_x_decideBeyondLimits_58 rfl (lv_at hl 1 rfl) ?_
      refine va_get (D := D) (ci := 0) (v := .ref (a 4)) (C := "RightsLimit") (T := fT_x) (N := 8) hx hb hG fi_x hown hK hP 0 rfl rfl 3 (by decide) (hG _ wd_171) (fun _ h9 => h9) rfl d_x_decideBeyondLimits_59 ?_
      refine lv_iload_n hx hb d_x_decideBeyondLimits_62 rfl (lv_at hl 2 rfl) ?_
      refine lv_iload hx hb d_x_decideBeyondLimits_63 (lv_at hl 0 rfl) ?_
      have hpre := rl_B.pre (av := .ref (a 4) :: [.int jn, .int v2]) rl_nw_ok hP hK hD hN
      refine rl_callv0 hP hD hS hA (va_runV (As := [.int jn, .int v2]) (rest := []) ⟨hx, hb, hml, hown, hG⟩ (k_q_charge l D a kI kZ F jn v2 ⟨by omega, hR⟩ (by omega) (by omega) _) (cwV 2 hG (rl_gV wd_299 wd_300 wd_301 wd_18 wd_302) rfl rfl rfl (by decide +kernel) ⟨Nat.le_of_ble_eq_true rfl, Nat.le_of_ble_eq_true rfl⟩) ⟨hpre.1, (va_recv hK hP (ci := 4) (q0 := 4) rfl rfl), hpre.2⟩ rfl rfl hl.1 rfl (lv_room (Nat.le_of_ble_eq_true rfl)) d_x_decideBeyondLimits_65 ⟨Nat.le_of_ble_eq_true rfl, Nat.le_of_ble_eq_true rfl⟩) (fun F8 H locs hw hP hD hS => ?_)
      have hP : va_P D rl_cl (rl_w a kI kZ F8) H := hP
      have hD : va_D A (rl_w a kI kZ F8) := hD
      obtain ⟨hRF8, hw⟩ := hw
      have g9 := hw
      refine lv_aload_n hx hb d_x_decideBeyondLimits_68 rfl (lv_at hl 1 rfl) ?_
      refine va_get (D := D) (ci := 0) (v := .ref (a 4)) (C := "RightsLimit") (T := fT_x) (N := 8) hx hb hG fi_x hown hK hP 0 rfl rfl 3 (by decide) (hG _ wd_171) (fun _ h9 => h9) rfl d_x_decideBeyondLimits_69 ?_
      refine lv_iload_n hx hb d_x_decideBeyondLimits_72 rfl (lv_at hl 2 rfl) ?_
      refine lv_iconst (v := 5) hx hb d_x_decideBeyondLimits_73 (by decide) ?_
      have hpre := rl_B.pre (av := .ref (a 4) :: [.int jn, .int 5]) rl_nw_ok hP hK hD hN
      refine rl_callv0 hP hD hS hA (va_runV (As := [.int jn, .int 5]) (rest := []) ⟨hx, hb, hml, hown, hG⟩ (k_q_allow l D a kI kZ F8 jn 5 ⟨by omega, hRF8⟩ (by omega) (by omega) _) (cwV 2 hG (rl_gV wd_267 wd_268 wd_269 wd_18 wd_270) rfl rfl rfl (by decide +kernel) ⟨Nat.le_of_ble_eq_true rfl, Nat.le_of_ble_eq_true rfl⟩) ⟨hpre.1, (va_recv hK hP (ci := 4) (q0 := 4) rfl rfl), hpre.2⟩ rfl rfl hl.1 rfl (lv_room (Nat.le_of_ble_eq_true rfl)) d_x_decideBeyondLimits_74 ⟨Nat.le_of_ble_eq_true rfl, Nat.le_of_ble_eq_true rfl⟩) (fun F11 H locs hw hP hD hS => ?_)
      have hP : va_P D rl_cl (rl_w a kI kZ F11) H := hP
      have hD : va_D A (rl_w a kI kZ F11) := hD
      obtain ⟨hRF11, hw⟩ := hw
      try simp only [rl_n5] at hw
      have g12 := hw
      refine lv_goto (tgt := 85) hx hb d_x_decideBeyondLimits_77 (by decide) ?_
      exact W.vret hx hb hr (fun t ht hW => ⟨⟨F11, rfl, ⟨hRF11, (show (F11 27 0).toInt = (F 27 0).toInt ∧ (F11 27 1).toInt = (F 27 1).toInt ∧ (F11 27 2).toInt = (F 27 2).toInt ∧ (F11 27 3).toInt = (F 27 3).toInt by omega)⟩, ⟨by rw [ht]; exact hP, hD⟩⟩, hS.F ht⟩) hS.2.2 d_x_decideBeyondLimits_85
  · have ic4 := rl_inle c4
    simp only [rl_n0] at ic4
    refine lv_aload_n hx hb d_x_decideBeyondLimits_28 rfl (lv_at hl 1 rfl) ?_
    refine va_get (D := D) (ci := 0) (v := .ref (a 1)) (C := "RightsLimit") (T := fT_x) (N := 8) hx hb hG fi_x hown hK hP 0 rfl rfl 0 (by decide) (hG _ wd_168) (fun _ h9 => h9) rfl d_x_decideBeyondLimits_29 ?_
    refine va_get (D := D) (ci := 1) (v := .ref (a 8)) (C := "RightsLimit$Titles") (T := fT_t) (N := 5) hx hb hG fi_t hown hK hP 1 rfl rfl 3 (by decide) (hG _ wd_45) (fun _ h9 => h9) rfl d_x_decideBeyondLimits_32 ?_
    refine lv_iload_n hx hb d_x_decideBeyondLimits_35 rfl (lv_at hl 3 rfl) ?_
    refine lv_dup2_11 hx hb d_x_decideBeyondLimits_36 rfl rfl ?_
    refine va_iald hx hb hK hP 8 0 rfl rfl (rl_in (n := 50) (by omega) (by omega)) d_x_decideBeyondLimits_37 ?_
    refine lv_topi (fun v13 ev13 => ?_)
    refine lv_iconst (v := 1) hx hb d_x_decideBeyondLimits_38 (by decide) ?_
    refine lv_isub hx hb d_x_decideBeyondLimits_39 ?_
    refine lv_topi (fun v14 ev14 => ?_)
    refine va_iast hx hb hK hP hD hS 8 0 rfl rfl (rl_in (n := 50) (by omega) (by omega)) d_x_decideBeyondLimits_40 (fun H locs hP hD hS => ?_)
    obtain ⟨F15, eF15⟩ : ∃ G, G = rl_st F 3 jt.toNatClampNeg v14 := ⟨_, rfl⟩
    have hP : va_P D rl_cl (rl_w a kI kZ F15) H := by rw [eF15]; exact hP
    have hD : va_D A (rl_w a kI kZ F15) := by rw [eF15]; exact hD
    obtain ⟨tF15, hRF15⟩ := rl_keep eF15 (by decide) (by decide) hR
    refine lv_aload_n hx hb d_x_decideBeyondLimits_41 rfl (lv_at hl 1 rfl) ?_
    refine va_get (D := D) (ci := 0) (v := .ref (a 4)) (C := "RightsLimit") (T := fT_x) (N := 8) hx hb hG fi_x hown hK hP 0 rfl rfl 3 (by decide) (hG _ wd_171) (fun _ h9 => h9) rfl d_x_decideBeyondLimits_42 ?_
    refine lv_iload_n hx hb d_x_decideBeyondLimits_45 rfl (lv_at hl 2 rfl) ?_
    refine lv_iconst (v := 4) hx hb d_x_decideBeyondLimits_46 (by decide) ?_
    have hpre := rl_B.pre (av := .ref (a 4) :: [.int jn, .int 4]) rl_nw_ok hP hK hD hN
    refine rl_callv0 hP hD hS hA (va_runV (As := [.int jn, .int 4]) (rest := []) ⟨hx, hb, hml, hown, hG⟩ (k_q_allow l D a kI kZ F15 jn 4 ⟨by omega, hRF15⟩ (by omega) (by omega) _) (cwV 2 hG (rl_gV wd_267 wd_268 wd_269 wd_18 wd_270) rfl rfl rfl (by decide +kernel) ⟨Nat.le_of_ble_eq_true rfl, Nat.le_of_ble_eq_true rfl⟩) ⟨hpre.1, (va_recv hK hP (ci := 4) (q0 := 4) rfl rfl), hpre.2⟩ rfl rfl hl.1 rfl (lv_room (Nat.le_of_ble_eq_true rfl)) d_x_decideBeyondLimits_47 ⟨Nat.le_of_ble_eq_true rfl, Nat.le_of_ble_eq_true rfl⟩) (fun F17 H locs hw hP hD hS => ?_)
    have hP : va_P D rl_cl (rl_w a kI kZ F17) H := hP
    have hD : va_D A (rl_w a kI kZ F17) := hD
    obtain ⟨hRF17, hw⟩ := hw
    try simp only [rl_n4] at hw
    have g18 := hw
    refine lv_goto (tgt := 85) hx hb d_x_decideBeyondLimits_50 (by decide) ?_
    exact W.vret hx hb hr (fun t ht hW => ⟨⟨F17, rfl, ⟨hRF17, (show (F17 27 0).toInt = (F 27 0).toInt ∧ (F17 27 1).toInt = (F 27 1).toInt ∧ (F17 27 2).toInt = (F 27 2).toInt ∧ (F17 27 3).toInt = (F 27 3).toInt by omega)⟩, ⟨by rw [ht]; exact hP, hD⟩⟩, hS.F ht⟩) hS.2.2 d_x_decideBeyondLimits_85
set_option maxHeartbeats 4000000 in
set_option maxRecDepth 100000 in
theorem k_x_decide (l : Launch) (D : va_G) (a : Nat → Nat) (kI kZ : ClassId) (F : Nat → Nat → Int32) (jn jt jk ju : Int32) (hI : rl_I F) (hn0 : 0 ≤ jn.toInt) (hn1 : jn.toInt < 300) (ht0 : 0 ≤ jt.toInt) (ht1 : jt.toInt < 50) (sz : Nat) : rl_Cv (S := Nat → Nat → Int32) l ⟨"RightsLimit", "decide", "(IIII)V"⟩ (Cond.code ⟨"RightsLimit", "decide", "(IIII)V"⟩ prog_1_method_19_code 7 none :: rl_G) { frames := 3, cells := 0, slots := 0, locals := 73 } D rl_cl (rl_tys kI kZ) rl_nw [.ref (a 0), .int jn, .int jt, .int jk, .int ju] (rl_w a kI kZ F) sz (fun (F' : Nat → Nat → Int32) => rl_R F' ∧ ((F' 27 0).toInt = (F 27 0).toInt ∧ (F' 27 1).toInt = (F 27 1).toInt ∧ (F' 27 2).toInt = (F 27 2).toInt ∧ (F' 27 3).toInt = (F 27 3).toInt)) (fun F' => rl_w a kI kZ F') 0 0 := by
  refine rl_metv (cc := prog_1_method_19_code) (maxL := 7) (ret := none) (by decide) rfl (Nat.le_of_ble_eq_true rfl) ?_
  intro p e s m below meth c A ls hx hb hr hml hown hts hlocks hnm hP hK hD hS hA hN hl
  have hown : s.vm.findClass "RightsLimit" = some m.cls := hown
  have hG : ∀ x ∈ rl_G, x.before _ s = true := fun x h => hts x (List.mem_cons_of_mem _ h)
  have hl : lv_has ls 7 [(0, .ref (a 0)), (1, .int jn), (2, .int jt), (3, .int jk), (4, .int ju)] := hl
  obtain ⟨hcnt, hR⟩ := id hI
  refine lv_aload_n hx hb d_x_decide_0 rfl (lv_at hl 0 rfl) ?_
  refine va_get (D := D) (ci := 0) (v := .ref (a 1)) (C := "RightsLimit") (T := fT_x) (N := 8) hx hb hG fi_x hown hK hP 0 rfl rfl 0 (by decide) (hG _ wd_168) (fun _ h9 => h9) rfl d_x_decide_1 ?_
  refine va_get (D := D) (ci := 1) (v := .ref (a 6)) (C := "RightsLimit$Titles") (T := fT_t) (N := 5) hx hb hG fi_t hown hK hP 1 rfl rfl 1 (by decide) (hG _ wd_41) (fun _ h9 => h9) rfl d_x_decide_4 ?_
  refine lv_iload_n hx hb d_x_decide_7 rfl (lv_at hl 2 rfl) ?_
  refine va_zald hx hb hK hP 6 1 rfl rfl (rl_in (n := 50) (by omega) (by omega)) d_x_decide_8 ?_
  refine lv_topi (fun v1 ev1 => ?_)
  refine lv_if_eq (tgt := 22) hx hb d_x_decide_9 (by decide) (fun c2 => ?_) (fun c2 => ?_)
  · have ic2 := rl_ieq c2
    simp only [rl_n0] at ic2
    refine lv_aload_n hx hb d_x_decide_22 rfl (lv_at hl 0 rfl) ?_
    refine va_get (D := D) (ci := 0) (v := .ref (a 3)) (C := "RightsLimit") (T := fT_x) (N := 8) hx hb hG fi_x hown hK hP 0 rfl rfl 2 (by decide) (hG _ wd_170) (fun _ h9 => h9) rfl d_x_decide_23 ?_
    refine lv_iload_n hx hb d_x_decide_26 rfl (lv_at hl 2 rfl) ?_
    refine lv_iload_n hx hb d_x_decide_27 rfl (lv_at hl 3 rfl) ?_
    refine lv_iload hx hb d_x_decide_28 (lv_at hl 4 rfl) ?_
    have hpre := rl_BR.pre (av := .ref (a 3) :: [.int jt, .int jk, .int ju]) rl_nw_ok hP hK hN
    refine rl_callr hS (va_runV (As := [.int jt, .int jk, .int ju]) (rest := []) ⟨hx, hb, hml, hown, hG⟩ (k_c_firstThatHolds l D a kI kZ F jt jk ju ⟨by omega, hR⟩ _) (cwV 3 hG (rl_gV wd_272 wd_273 wd_274 wd_17 wd_275) rfl rfl rfl (by decide +kernel) ⟨Nat.le_of_ble_eq_true rfl, Nat.le_of_ble_eq_true rfl⟩) ⟨hpre.1, (va_recv hK hP (ci := 3) (q0 := 3) rfl rfl), hpre.2⟩ rfl rfl hl.1 rfl (lv_room (Nat.le_of_ble_eq_true rfl)) d_x_decide_30 ⟨Nat.le_of_ble_eq_true rfl, Nat.le_of_ble_eq_true rfl⟩) (fun r3 locs hw hS => ?_)
    have hwr3 := hw
    refine lv_istore (lv' := [(5, .int r3), (0, .ref (a 0)), (1, .int jn), (2, .int jt), (3, .int jk), (4, .int ju)]) hx hb d_x_decide_33 hl (by decide) rfl (fun ls hl => ?_)
    refine lv_iload hx hb d_x_decide_35 (lv_at hl 0 rfl) ?_
    refine lv_iconst (v := (-1)) hx hb d_x_decide_37 (by decide) ?_
    refine lv_icmp_eq (tgt := 76) hx hb d_x_decide_38 (by decide) (fun c4 => ?_) (fun c4 => ?_)
    · have ic4 := rl_ieq c4
      simp only [rl_nm1] at ic4
      refine lv_aload_n hx hb d_x_decide_76 rfl (lv_at hl 1 rfl) ?_
      refine lv_iload_n hx hb d_x_decide_77 rfl (lv_at hl 3 rfl) ?_
      refine lv_iload_n hx hb d_x_decide_78 rfl (lv_at hl 4 rfl) ?_
      refine lv_iload hx hb d_x_decide_79 (lv_at hl 5 rfl) ?_
      have hpre := rl_BR.pre (av := .ref (a 0) :: [.int jt, .int jk, .int ju]) rl_nw_ok hP hK hN
      refine rl_callr hS (va_runV (As := [.int jt, .int jk, .int ju]) (rest := []) ⟨hx, hb, hml, hown, hG⟩ (k_x_firstLimitReached l D a kI kZ F jt jk ju ⟨by omega, hR⟩ _) (cwV 3 hG (rl_gV wd_277 wd_279 wd_2 wd_14 wd_280) rfl rfl rfl (by decide +kernel) ⟨Nat.le_of_ble_eq_true rfl, Nat.le_of_ble_eq_true rfl⟩) ⟨hpre.1, (va_recv hK hP (ci := 0) (q0 := 0) rfl rfl), hpre.2⟩ rfl rfl hl.1 rfl (lv_room (Nat.le_of_ble_eq_true rfl)) d_x_decide_81 ⟨Nat.le_of_ble_eq_true rfl, Nat.le_of_ble_eq_true rfl⟩) (fun r5 locs hw hS => ?_)
      have hwr5 := hw
      refine lv_istore (lv' := [(6, .int r5), (5, .int r3), (0, .ref (a 0)), (1, .int jn), (2, .int jt), (3, .int jk), (4, .int ju)]) hx hb d_x_decide_84 hl (by decide) rfl (fun ls hl => ?_)
      refine lv_iload hx hb d_x_decide_86 (lv_at hl 0 rfl) ?_
      refine lv_iconst (v := (-1)) hx hb d_x_decide_88 (by decide) ?_
      refine lv_icmp_ne (tgt := 104) hx hb d_x_decide_89 (by decide) (fun c6 => ?_) (fun c6 => ?_)
      · have ic6 := rl_ine c6
        simp only [rl_nm1] at ic6
        refine lv_aload_n hx hb d_x_decide_104 rfl (lv_at hl 2 rfl) ?_
        refine lv_iload_n hx hb d_x_decide_105 rfl (lv_at hl 3 rfl) ?_
        refine lv_iload_n hx hb d_x_decide_106 rfl (lv_at hl 4 rfl) ?_
        refine lv_iload hx hb d_x_decide_107 (lv_at hl 0 rfl) ?_
        have hpre := rl_B.pre (av := .ref (a 0) :: [.int jn, .int jt, .int r5]) rl_nw_ok hP hK hD hN
        refine rl_callv0 hP hD hS hA (va_runV (As := [.int jn, .int jt, .int r5]) (rest := []) ⟨hx, hb, hml, hown, hG⟩ (k_x_decideBeyondLimits l D a kI kZ F jn jt r5 ⟨by omega, hR⟩ (by omega) (by omega) (by omega) (by omega) _) (cwV 3 hG (rl_gV wd_295 wd_297 wd_3 wd_14 wd_298) rfl rfl rfl (by decide +kernel) ⟨Nat.le_of_ble_eq_true rfl, Nat.le_of_ble_eq_true rfl⟩) ⟨hpre.1, (va_recv hK hP (ci := 0) (q0 := 0) rfl rfl), hpre.2⟩ rfl rfl hl.1 rfl (lv_room (Nat.le_of_ble_eq_true rfl)) d_x_decide_109 ⟨Nat.le_of_ble_eq_true rfl, Nat.le_of_ble_eq_true rfl⟩) (fun F8 H locs hw hP hD hS => ?_)
        have hP : va_P D rl_cl (rl_w a kI kZ F8) H := hP
        have hD : va_D A (rl_w a kI kZ F8) := hD
        obtain ⟨hRF8, hw⟩ := hw
        have g9 := hw
        exact W.vret hx hb hr (fun t ht hW => ⟨⟨F8, rfl, ⟨hRF8, (show (F8 27 0).toInt = (F 27 0).toInt ∧ (F8 27 1).toInt = (F 27 1).toInt ∧ (F8 27 2).toInt = (F 27 2).toInt ∧ (F8 27 3).toInt = (F 27 3).toInt by omega)⟩, ⟨by rw [ht]; exact hP, hD⟩⟩, hS.F ht⟩) hS.2.2 d_x_decide_112
      · have ic6 := rl_ieq c6
        simp only [rl_nm1] at ic6
        refine lv_aload_n hx hb d_x_decide_92 rfl (lv_at hl 2 rfl) ?_
        refine va_get (D := D) (ci := 0) (v := .ref (a 4)) (C := "RightsLimit") (T := fT_x) (N := 8) hx hb hG fi_x hown hK hP 0 rfl rfl 3 (by decide) (hG _ wd_171) (fun _ h9 => h9) rfl d_x_decide_93 ?_
        refine lv_iload_n hx hb d_x_decide_96 rfl (lv_at hl 3 rfl) ?_
        refine lv_iconst (v := 3) hx hb d_x_decide_97 (by decide) ?_
        have hpre := rl_B.pre (av := .ref (a 4) :: [.int jn, .int 3]) rl_nw_ok hP hK hD hN
        refine rl_callv0 hP hD hS hA (va_runV (As := [.int jn, .int 3]) (rest := []) ⟨hx, hb, hml, hown, hG⟩ (k_q_allow l D a kI kZ F jn 3 ⟨by omega, hR⟩ (by omega) (by omega) _) (cwV 2 hG (rl_gV wd_267 wd_268 wd_269 wd_18 wd_270) rfl rfl rfl (by decide +kernel) ⟨Nat.le_of_ble_eq_true rfl, Nat.le_of_ble_eq_true rfl⟩) ⟨hpre.1, (va_recv hK hP (ci := 4) (q0 := 4) rfl rfl), hpre.2⟩ rfl rfl hl.1 rfl (lv_room (Nat.le_of_ble_eq_true rfl)) d_x_decide_98 ⟨Nat.le_of_ble_eq_true rfl, Nat.le_of_ble_eq_true rfl⟩) (fun F11 H locs hw hP hD hS => ?_)
        have hP : va_P D rl_cl (rl_w a kI kZ F11) H := hP
        have hD : va_D A (rl_w a kI kZ F11) := hD
        obtain ⟨hRF11, hw⟩ := hw
        try simp only [rl_n3] at hw
        have g12 := hw
        refine lv_goto (tgt := 112) hx hb d_x_decide_101 (by decide) ?_
        exact W.vret hx hb hr (fun t ht hW => ⟨⟨F11, rfl, ⟨hRF11, (show (F11 27 0).toInt = (F 27 0).toInt ∧ (F11 27 1).toInt = (F 27 1).toInt ∧ (F11 27 2).toInt = (F 27 2).toInt ∧ (F11 27 3).toInt = (F 27 3).toInt by omega)⟩, ⟨by rw [ht]; exact hP, hD⟩⟩, hS.F ht⟩) hS.2.2 d_x_decide_112
    · have ic4 := rl_ine c4
      simp only [rl_nm1] at ic4
      refine lv_aload_n hx hb d_x_decide_41 rfl (lv_at hl 1 rfl) ?_
      refine va_get (D := D) (ci := 0) (v := .ref (a 3)) (C := "RightsLimit") (T := fT_x) (N := 8) hx hb hG fi_x hown hK hP 0 rfl rfl 2 (by decide) (hG _ wd_170) (fun _ h9 => h9) rfl d_x_decide_42 ?_
      refine va_get (D := D) (ci := 3) (v := .ref (a 15)) (C := "RightsLimit$Licences") (T := fT_c) (N := 6) hx hb hG fi_c hown hK hP 3 rfl rfl 2 (by decide) (hG _ wd_94) (fun _ h9 => h9) rfl d_x_decide_45 ?_
      refine lv_iload hx hb d_x_decide_48 (lv_at hl 0 rfl) ?_
      refine lv_dup2_11 hx hb d_x_decide_50 rfl rfl ?_
      refine va_iald hx hb hK hP 15 0 rfl rfl (rl_in (n := 50) (by omega) (by omega)) d_x_decide_51 ?_
      refine lv_topi (fun v13 ev13 => ?_)
      refine lv_iconst (v := 1) hx hb d_x_decide_52 (by decide) ?_
      refine lv_isub hx hb d_x_decide_53 ?_
      refine lv_topi (fun v14 ev14 => ?_)
      refine va_iast hx hb hK hP hD hS 15 0 rfl rfl (rl_in (n := 50) (by omega) (by omega)) d_x_decide_54 (fun H locs hP hD hS => ?_)
      obtain ⟨F15, eF15⟩ : ∃ G, G = rl_st F 10 r3.toNatClampNeg v14 := ⟨_, rfl⟩
      have hP : va_P D rl_cl (rl_w a kI kZ F15) H := by rw [eF15]; exact hP
      have hD : va_D A (rl_w a kI kZ F15) := by rw [eF15]; exact hD
      obtain ⟨tF15, hRF15⟩ := rl_keep eF15 (by decide) (by decide) hR
      refine lv_aload_n hx hb d_x_decide_55 rfl (lv_at hl 1 rfl) ?_
      refine va_get (D := D) (ci := 0) (v := .ref (a 4)) (C := "RightsLimit") (T := fT_x) (N := 8) hx hb hG fi_x hown hK hP 0 rfl rfl 3 (by decide) (hG _ wd_171) (fun _ h9 => h9) rfl d_x_decide_56 ?_
      refine va_get (D := D) (ci := 4) (v := .ref (a 24)) (C := "RightsLimit$Requests") (T := fT_q) (N := 13) hx hb hG fi_q hown hK hP 4 rfl rfl 6 (by decide) (hG _ wd_130) (fun _ h9 => h9) rfl d_x_decide_59 ?_
      refine lv_iload_n hx hb d_x_decide_62 rfl (lv_at hl 2 rfl) ?_
      refine lv_iload hx hb d_x_decide_63 (lv_at hl 0 rfl) ?_
      refine va_iast hx hb hK hP hD hS 24 0 rfl rfl (rl_in (n := 300) (by omega) (by omega)) d_x_decide_65 (fun H locs hP hD hS => ?_)
      obtain ⟨F16, eF16⟩ : ∃ G, G = rl_st F15 19 jn.toNatClampNeg r3 := ⟨_, rfl⟩
      have hP : va_P D rl_cl (rl_w a kI kZ F16) H := by rw [eF16]; exact hP
      have hD : va_D A (rl_w a kI kZ F16) := by rw [eF16]; exact hD
      obtain ⟨tF16, hRF16⟩ := rl_keep eF16 (by decide) (by decide) hRF15
      refine lv_aload_n hx hb d_x_decide_66 rfl (lv_at hl 1 rfl) ?_
      refine va_get (D := D) (ci := 0) (v := .ref (a 4)) (C := "RightsLimit") (T := fT_x) (N := 8) hx hb hG fi_x hown hK hP 0 rfl rfl 3 (by decide) (hG _ wd_171) (fun _ h9 => h9) rfl d_x_decide_67 ?_
      refine lv_iload_n hx hb d_x_decide_70 rfl (lv_at hl 2 rfl) ?_
      refine lv_iconst (v := 2) hx hb d_x_decide_71 (by decide) ?_
      have hpre := rl_B.pre (av := .ref (a 4) :: [.int jn, .int 2]) rl_nw_ok hP hK hD hN
      refine rl_callv0 hP hD hS hA (va_runV (As := [.int jn, .int 2]) (rest := []) ⟨hx, hb, hml, hown, hG⟩ (k_q_allow l D a kI kZ F16 jn 2 ⟨by omega, hRF16⟩ (by omega) (by omega) _) (cwV 2 hG (rl_gV wd_267 wd_268 wd_269 wd_18 wd_270) rfl rfl rfl (by decide +kernel) ⟨Nat.le_of_ble_eq_true rfl, Nat.le_of_ble_eq_true rfl⟩) ⟨hpre.1, (va_recv hK hP (ci := 4) (q0 := 4) rfl rfl), hpre.2⟩ rfl rfl hl.1 rfl (lv_room (Nat.le_of_ble_eq_true rfl)) d_x_decide_72 ⟨Nat.le_of_ble_eq_true rfl, Nat.le_of_ble_eq_true rfl⟩) (fun F18 H locs hw hP hD hS => ?_)
      have hP : va_P D rl_cl (rl_w a kI kZ F18) H := hP
      have hD : va_D A (rl_w a kI kZ F18) := hD
      obtain ⟨hRF18, hw⟩ := hw
      try simp only [rl_n2] at hw
      have g19 := hw
      exact W.vret hx hb hr (fun t ht hW => ⟨⟨F18, rfl, ⟨hRF18, (show (F18 27 0).toInt = (F 27 0).toInt ∧ (F18 27 1).toInt = (F 27 1).toInt ∧ (F18 27 2).toInt = (F 27 2).toInt ∧ (F18 27 3).toInt = (F 27 3).toInt by omega)⟩, ⟨by rw [ht]; exact hP, hD⟩⟩, hS.F ht⟩) hS.2.2 d_x_decide_75
  · have ic2 := rl_ine c2
    simp only [rl_n0] at ic2
    refine lv_aload_n hx hb d_x_decide_12 rfl (lv_at hl 0 rfl) ?_
    refine va_get (D := D) (ci := 0) (v := .ref (a 4)) (C := "RightsLimit") (T := fT_x) (N := 8) hx hb hG fi_x hown hK hP 0 rfl rfl 3 (by decide) (hG _ wd_171) (fun _ h9 => h9) rfl d_x_decide_13 ?_
    refine lv_iload_n hx hb d_x_decide_16 rfl (lv_at hl 1 rfl) ?_
    refine lv_iconst (v := 1) hx hb d_x_decide_17 (by decide) ?_
    have hpre := rl_B.pre (av := .ref (a 4) :: [.int jn, .int 1]) rl_nw_ok hP hK hD hN
    refine rl_callv0 hP hD hS hA (va_runV (As := [.int jn, .int 1]) (rest := []) ⟨hx, hb, hml, hown, hG⟩ (k_q_allow l D a kI kZ F jn 1 ⟨by omega, hR⟩ (by omega) (by omega) _) (cwV 2 hG (rl_gV wd_267 wd_268 wd_269 wd_18 wd_270) rfl rfl rfl (by decide +kernel) ⟨Nat.le_of_ble_eq_true rfl, Nat.le_of_ble_eq_true rfl⟩) ⟨hpre.1, (va_recv hK hP (ci := 4) (q0 := 4) rfl rfl), hpre.2⟩ rfl rfl hl.1 rfl (lv_room (Nat.le_of_ble_eq_true rfl)) d_x_decide_18 ⟨Nat.le_of_ble_eq_true rfl, Nat.le_of_ble_eq_true rfl⟩) (fun F21 H locs hw hP hD hS => ?_)
    have hP : va_P D rl_cl (rl_w a kI kZ F21) H := hP
    have hD : va_D A (rl_w a kI kZ F21) := hD
    obtain ⟨hRF21, hw⟩ := hw
    try simp only [rl_n1] at hw
    have g22 := hw
    exact W.vret hx hb hr (fun t ht hW => ⟨⟨F21, rfl, ⟨hRF21, (show (F21 27 0).toInt = (F 27 0).toInt ∧ (F21 27 1).toInt = (F 27 1).toInt ∧ (F21 27 2).toInt = (F 27 2).toInt ∧ (F21 27 3).toInt = (F 27 3).toInt by omega)⟩, ⟨by rw [ht]; exact hP, hD⟩⟩, hS.F ht⟩) hS.2.2 d_x_decide_21
set_option maxHeartbeats 4000000 in
set_option maxRecDepth 100000 in
theorem k_x_title (l : Launch) (D : va_G) (a : Nat → Nat) (kI kZ : ClassId) (F : Nat → Nat → Int32) (jp : Int32) (hI : rl_I F) (sz : Nat) : rl_Ci (S := Nat → Nat → Int32) l ⟨"RightsLimit", "title", "(I)I"⟩ (Cond.code ⟨"RightsLimit", "title", "(I)I"⟩ prog_1_method_2_code 2 (some .int) :: rl_G) { frames := 2, cells := 0, slots := 0, locals := 42 } D rl_cl (rl_tys kI kZ) rl_nw [.ref (a 0), .int jp] (rl_w a kI kZ F) sz (fun (r : Int32) (F' : Nat → Nat → Int32) => rl_R F' ∧ (((0 ≤ jp.toInt ∧ jp.toInt ≤ 99) ∧ (F 27 0).toInt < 50 ∧ r.toInt = (F 27 0).toInt ∧ (F' 27 0).toInt = (F 27 0).toInt + 1 ∧ (F' 27 1).toInt = (F 27 1).toInt ∧ (F' 27 2).toInt = (F 27 2).toInt ∧ (F' 27 3).toInt = (F 27 3).toInt) ∨ ((0 ≤ jp.toInt ∧ jp.toInt ≤ 99) ∧ 50 ≤ (F 27 0).toInt ∧ r.toInt = -4 ∧ (F' 27 0).toInt = (F 27 0).toInt ∧ (F' 27 1).toInt = (F 27 1).toInt ∧ (F' 27 2).toInt = (F 27 2).toInt ∧ (F' 27 3).toInt = (F 27 3).toInt) ∨ (¬ (0 ≤ jp.toInt ∧ jp.toInt ≤ 99) ∧ r.toInt = -2 ∧ (F' 27 0).toInt = (F 27 0).toInt ∧ (F' 27 1).toInt = (F 27 1).toInt ∧ (F' 27 2).toInt = (F 27 2).toInt ∧ (F' 27 3).toInt = (F 27 3).toInt))) (fun F' => rl_w a kI kZ F') 0 0 := by
  refine rl_meti (cc := prog_1_method_2_code) (maxL := 2) (ret := (some .int)) (by decide) rfl (Nat.le_of_ble_eq_true rfl) ?_
  intro p e s m below meth c A ls hx hb hr hml hown hts hlocks hnm hP hK hD hS hA hN hl
  have hown : s.vm.findClass "RightsLimit" = some m.cls := hown
  have hG : ∀ x ∈ rl_G, x.before _ s = true := fun x h => hts x (List.mem_cons_of_mem _ h)
  have hl : lv_has ls 2 [(0, .ref (a 0)), (1, .int jp)] := hl
  obtain ⟨hcnt, hR⟩ := id hI
  refine lv_iload_n hx hb d_x_title_0 rfl (lv_at hl 1 rfl) ?_
  refine rl_callr hS (va_runS (As := [.int jp]) (rest := []) ⟨hx, hb, hml, hown, hG⟩ (k_x_isPublisher l D a kI kZ jp _) (cwS 1 hG (rl_gS wd_197 wd_198 wd_14 wd_199) rfl rfl rfl (by decide +kernel) ⟨Nat.le_of_ble_eq_true rfl, Nat.le_of_ble_eq_true rfl⟩) (rl_BR.pre rl_nw_ok rl_P0 hK hN) rfl rfl hl.1 rfl (lv_room (Nat.le_of_ble_eq_true rfl)) d_x_title_1 ⟨Nat.le_of_ble_eq_true rfl, Nat.le_of_ble_eq_true rfl⟩) (fun r1 locs hw hS => ?_)
  rcases hw with ⟨rfl, h2⟩ | ⟨rfl, h2⟩
  · refine lv_if_ne (tgt := 10) hx hb d_x_title_4 (by decide) (fun _ => ?_) (fun c9 => absurd c9 (by decide))
    refine lv_aload_n hx hb d_x_title_10 rfl (lv_at hl 0 rfl) ?_
    refine va_get (D := D) (ci := 0) (v := .ref (a 1)) (C := "RightsLimit") (T := fT_x) (N := 8) hx hb hG fi_x hown hK hP 0 rfl rfl 0 (by decide) (hG _ wd_168) (fun _ h9 => h9) rfl d_x_title_11 ?_
    refine lv_iload_n hx hb d_x_title_14 rfl (lv_at hl 1 rfl) ?_
    have hpre := rl_B.pre (av := .ref (a 1) :: [.int jp]) rl_nw_ok hP hK hD hN
    refine rl_calli0 hP hD hS hA (va_runV (As := [.int jp]) (rest := []) ⟨hx, hb, hml, hown, hG⟩ (k_t_add l D a kI kZ F jp ⟨by omega, hR⟩ (by omega) (by omega) _) (cwV 1 hG (rl_gV wd_203 wd_204 wd_205 wd_15 wd_206) rfl rfl rfl (by decide +kernel) ⟨Nat.le_of_ble_eq_true rfl, Nat.le_of_ble_eq_true rfl⟩) ⟨hpre.1, (va_recv hK hP (ci := 1) (q0 := 1) rfl rfl), hpre.2⟩ rfl rfl hl.1 rfl (lv_room (Nat.le_of_ble_eq_true rfl)) d_x_title_15 ⟨Nat.le_of_ble_eq_true rfl, Nat.le_of_ble_eq_true rfl⟩) (fun r3 F4 H locs hw hP hD hS => ?_)
    have hP : va_P D rl_cl (rl_w a kI kZ F4) H := hP
    have hD : va_D A (rl_w a kI kZ F4) := hD
    obtain ⟨hRF4, hw⟩ := hw
    have hwr3 := hw
    exact W.iret (v := r3) hx hb hr (fun t ht hW => ⟨⟨r3, F4, rfl, ⟨hRF4, (show ((0 ≤ jp.toInt ∧ jp.toInt ≤ 99) ∧ (F 27 0).toInt < 50 ∧ r3.toInt = (F 27 0).toInt ∧ (F4 27 0).toInt = (F 27 0).toInt + 1 ∧ (F4 27 1).toInt = (F 27 1).toInt ∧ (F4 27 2).toInt = (F 27 2).toInt ∧ (F4 27 3).toInt = (F 27 3).toInt) ∨ ((0 ≤ jp.toInt ∧ jp.toInt ≤ 99) ∧ 50 ≤ (F 27 0).toInt ∧ r3.toInt = -4 ∧ (F4 27 0).toInt = (F 27 0).toInt ∧ (F4 27 1).toInt = (F 27 1).toInt ∧ (F4 27 2).toInt = (F 27 2).toInt ∧ (F4 27 3).toInt = (F 27 3).toInt) ∨ (¬ (0 ≤ jp.toInt ∧ jp.toInt ≤ 99) ∧ r3.toInt = -2 ∧ (F4 27 0).toInt = (F 27 0).toInt ∧ (F4 27 1).toInt = (F 27 1).toInt ∧ (F4 27 2).toInt = (F 27 2).toInt ∧ (F4 27 3).toInt = (F 27 3).toInt) by omega)⟩, ⟨by rw [ht]; exact hP, hD⟩⟩, hS.F ht⟩) hS.2.2 d_x_title_18
  · refine lv_if_ne (tgt := 10) hx hb d_x_title_4 (by decide) (fun c9 => absurd c9 (by decide)) (fun _ => ?_)
    refine lv_bipush (v := (-2)) hx hb d_x_title_7 (by decide) ?_
    exact W.iret (v := (-2)) hx hb hr (fun t ht hW => ⟨⟨(-2), F, rfl, ⟨hR, (show ((0 ≤ jp.toInt ∧ jp.toInt ≤ 99) ∧ (F 27 0).toInt < 50 ∧ ((-2) : Int32).toInt = (F 27 0).toInt ∧ (F 27 0).toInt = (F 27 0).toInt + 1 ∧ (F 27 1).toInt = (F 27 1).toInt ∧ (F 27 2).toInt = (F 27 2).toInt ∧ (F 27 3).toInt = (F 27 3).toInt) ∨ ((0 ≤ jp.toInt ∧ jp.toInt ≤ 99) ∧ 50 ≤ (F 27 0).toInt ∧ ((-2) : Int32).toInt = -4 ∧ (F 27 0).toInt = (F 27 0).toInt ∧ (F 27 1).toInt = (F 27 1).toInt ∧ (F 27 2).toInt = (F 27 2).toInt ∧ (F 27 3).toInt = (F 27 3).toInt) ∨ (¬ (0 ≤ jp.toInt ∧ jp.toInt ≤ 99) ∧ ((-2) : Int32).toInt = -2 ∧ (F 27 0).toInt = (F 27 0).toInt ∧ (F 27 1).toInt = (F 27 1).toInt ∧ (F 27 2).toInt = (F 27 2).toInt ∧ (F 27 3).toInt = (F 27 3).toInt) by have q9 := rl_nm2; omega)⟩, ⟨by rw [ht]; exact hP, hD⟩⟩, hS.F ht⟩) hS.2.2 d_x_title_9
set_option maxHeartbeats 4000000 in
set_option maxRecDepth 100000 in
theorem k_x_open (l : Launch) (D : va_G) (a : Nat → Nat) (kI kZ : ClassId) (F : Nat → Nat → Int32) (jt jb : Int32) (hI : rl_I F) (sz : Nat) : rl_Ci (S := Nat → Nat → Int32) l ⟨"RightsLimit", "open", "(IZ)I"⟩ (Cond.code ⟨"RightsLimit", "open", "(IZ)I"⟩ prog_1_method_3_code 3 (some .int) :: rl_G) { frames := 1, cells := 0, slots := 0, locals := 21 } D rl_cl (rl_tys kI kZ) rl_nw [.ref (a 0), .int jt, .int jb] (rl_w a kI kZ F) sz (fun (r : Int32) (F' : Nat → Nat → Int32) => rl_R F' ∧ ((((0 ≤ jt.toInt ∧ jt.toInt < (F 27 0).toInt) ∧ r.toInt = 1) ∨ (¬ (0 ≤ jt.toInt ∧ jt.toInt < (F 27 0).toInt) ∧ r.toInt = -1)) ∧ (F' 27 0).toInt = (F 27 0).toInt ∧ (F' 27 1).toInt = (F 27 1).toInt ∧ (F' 27 2).toInt = (F 27 2).toInt ∧ (F' 27 3).toInt = (F 27 3).toInt)) (fun F' => rl_w a kI kZ F') 0 0 := by
  refine rl_meti (cc := prog_1_method_3_code) (maxL := 3) (ret := (some .int)) (by decide) rfl (Nat.le_of_ble_eq_true rfl) ?_
  intro p e s m below meth c A ls hx hb hr hml hown hts hlocks hnm hP hK hD hS hA hN hl
  have hown : s.vm.findClass "RightsLimit" = some m.cls := hown
  have hG : ∀ x ∈ rl_G, x.before _ s = true := fun x h => hts x (List.mem_cons_of_mem _ h)
  have hl : lv_has ls 3 [(0, .ref (a 0)), (1, .int jt), (2, .int jb)] := hl
  obtain ⟨hcnt, hR⟩ := id hI
  refine lv_aload_n hx hb d_x_open_0 rfl (lv_at hl 0 rfl) ?_
  refine va_get (D := D) (ci := 0) (v := .ref (a 1)) (C := "RightsLimit") (T := fT_x) (N := 8) hx hb hG fi_x hown hK hP 0 rfl rfl 0 (by decide) (hG _ wd_168) (fun _ h9 => h9) rfl d_x_open_1 ?_
  refine lv_iload_n hx hb d_x_open_4 rfl (lv_at hl 1 rfl) ?_
  have hpre := rl_BR.pre (av := .ref (a 1) :: [.int jt]) rl_nw_ok hP hK hN
  refine rl_callr hS (va_runV (As := [.int jt]) (rest := []) ⟨hx, hb, hml, hown, hG⟩ (k_t_has l D a kI kZ F jt ⟨by omega, hR⟩ _) (cwV 1 hG (rl_gV wd_211 wd_212 wd_213 wd_15 wd_214) rfl rfl rfl (by decide +kernel) ⟨Nat.le_of_ble_eq_true rfl, Nat.le_of_ble_eq_true rfl⟩) ⟨hpre.1, (va_recv hK hP (ci := 1) (q0 := 1) rfl rfl), hpre.2⟩ rfl rfl hl.1 rfl (lv_room (Nat.le_of_ble_eq_true rfl)) d_x_open_5 ⟨Nat.le_of_ble_eq_true rfl, Nat.le_of_ble_eq_true rfl⟩) (fun r1 locs hw hS => ?_)
  rcases hw with ⟨rfl, h2⟩ | ⟨rfl, h2⟩
  · refine lv_if_ne (tgt := 13) hx hb d_x_open_8 (by decide) (fun _ => ?_) (fun c9 => absurd c9 (by decide))
    refine lv_aload_n hx hb d_x_open_13 rfl (lv_at hl 0 rfl) ?_
    refine va_get (D := D) (ci := 0) (v := .ref (a 1)) (C := "RightsLimit") (T := fT_x) (N := 8) hx hb hG fi_x hown hK hP 0 rfl rfl 0 (by decide) (hG _ wd_168) (fun _ h9 => h9) rfl d_x_open_14 ?_
    refine va_get (D := D) (ci := 1) (v := .ref (a 6)) (C := "RightsLimit$Titles") (T := fT_t) (N := 5) hx hb hG fi_t hown hK hP 1 rfl rfl 1 (by decide) (hG _ wd_41) (fun _ h9 => h9) rfl d_x_open_17 ?_
    refine lv_iload_n hx hb d_x_open_20 rfl (lv_at hl 1 rfl) ?_
    refine lv_iload_n hx hb d_x_open_21 rfl (lv_at hl 2 rfl) ?_
    refine va_zast hx hb hK hP hD hS 6 1 rfl rfl (rl_in (n := 50) (by omega) (by omega)) d_x_open_22 (fun H locs hP hD hS => ?_)
    obtain ⟨F3, eF3⟩ : ∃ G, G = rl_st F 1 jt.toNatClampNeg (vp_nar .boolean jb) := ⟨_, rfl⟩
    have hP : va_P D rl_cl (rl_w a kI kZ F3) H := by rw [eF3]; exact hP
    have hD : va_D A (rl_w a kI kZ F3) := by rw [eF3]; exact hD
    obtain ⟨tF3, hRF3⟩ := rl_keep eF3 (by decide) (by decide) hR
    refine lv_iconst (v := 1) hx hb d_x_open_23 (by decide) ?_
    exact W.iret (v := 1) hx hb hr (fun t ht hW => ⟨⟨1, F3, rfl, ⟨hRF3, (show (((0 ≤ jt.toInt ∧ jt.toInt < (F 27 0).toInt) ∧ (1 : Int32).toInt = 1) ∨ (¬ (0 ≤ jt.toInt ∧ jt.toInt < (F 27 0).toInt) ∧ (1 : Int32).toInt = -1)) ∧ (F3 27 0).toInt = (F 27 0).toInt ∧ (F3 27 1).toInt = (F 27 1).toInt ∧ (F3 27 2).toInt = (F 27 2).toInt ∧ (F3 27 3).toInt = (F 27 3).toInt by have q9 := rl_n1; omega)⟩, ⟨by rw [ht]; exact hP, hD⟩⟩, hS.F ht⟩) hS.2.2 d_x_open_24
  · refine lv_if_ne (tgt := 13) hx hb d_x_open_8 (by decide) (fun c9 => absurd c9 (by decide)) (fun _ => ?_)
    refine lv_iconst (v := (-1)) hx hb d_x_open_11 (by decide) ?_
    exact W.iret (v := (-1)) hx hb hr (fun t ht hW => ⟨⟨(-1), F, rfl, ⟨hR, (show (((0 ≤ jt.toInt ∧ jt.toInt < (F 27 0).toInt) ∧ ((-1) : Int32).toInt = 1) ∨ (¬ (0 ≤ jt.toInt ∧ jt.toInt < (F 27 0).toInt) ∧ ((-1) : Int32).toInt = -1)) ∧ (F 27 0).toInt = (F 27 0).toInt ∧ (F 27 1).toInt = (F 27 1).toInt ∧ (F 27 2).toInt = (F 27 2).toInt ∧ (F 27 3).toInt = (F 27 3).toInt by have q9 := rl_nm1; omega)⟩, ⟨by rw [ht]; exact hP, hD⟩⟩, hS.F ht⟩) hS.2.2 d_x_open_12
set_option maxHeartbeats 4000000 in
set_option maxRecDepth 100000 in
theorem k_x_limit (l : Launch) (D : va_G) (a : Nat → Nat) (kI kZ : ClassId) (F : Nat → Nat → Int32) (jt jk jd jn : Int32) (hI : rl_I F) (sz : Nat) : rl_Ci (S := Nat → Nat → Int32) l ⟨"RightsLimit", "limit", "(IIII)I"⟩ (Cond.code ⟨"RightsLimit", "limit", "(IIII)I"⟩ prog_1_method_4_code 5 (some .int) :: rl_G) { frames := 2, cells := 0, slots := 0, locals := 42 } D rl_cl (rl_tys kI kZ) rl_nw [.ref (a 0), .int jt, .int jk, .int jd, .int jn] (rl_w a kI kZ F) sz (fun (r : Int32) (F' : Nat → Nat → Int32) => rl_R F' ∧ (((0 ≤ jt.toInt ∧ jt.toInt < (F 27 0).toInt) ∧ ((0 ≤ jk.toInt ∧ jk.toInt ≤ 1) ∧ (1 ≤ jd.toInt ∧ jd.toInt ≤ 5000) ∧ (0 ≤ jn.toInt ∧ jn.toInt ≤ 1000)) ∧ (F 27 1).toInt < 100 ∧ r.toInt = (F 27 1).toInt ∧ (F' 27 1).toInt = (F 27 1).toInt + 1 ∧ (F' 27 0).toInt = (F 27 0).toInt ∧ (F' 27 2).toInt = (F 27 2).toInt ∧ (F' 27 3).toInt = (F 27 3).toInt) ∨ ((((0 ≤ jt.toInt ∧ jt.toInt < (F 27 0).toInt) ∧ ((0 ≤ jk.toInt ∧ jk.toInt ≤ 1) ∧ (1 ≤ jd.toInt ∧ jd.toInt ≤ 5000) ∧ (0 ≤ jn.toInt ∧ jn.toInt ≤ 1000)) ∧ 100 ≤ (F 27 1).toInt ∧ r.toInt = -4) ∨ ((0 ≤ jt.toInt ∧ jt.toInt < (F 27 0).toInt) ∧ ¬ ((0 ≤ jk.toInt ∧ jk.toInt ≤ 1) ∧ (1 ≤ jd.toInt ∧ jd.toInt ≤ 5000) ∧ (0 ≤ jn.toInt ∧ jn.toInt ≤ 1000)) ∧ r.toInt = -2) ∨ (¬ (0 ≤ jt.toInt ∧ jt.toInt < (F 27 0).toInt) ∧ r.toInt = -1)) ∧ (F' 27 0).toInt = (F 27 0).toInt ∧ (F' 27 1).toInt = (F 27 1).toInt ∧ (F' 27 2).toInt = (F 27 2).toInt ∧ (F' 27 3).toInt = (F 27 3).toInt))) (fun F' => rl_w a kI kZ F') 0 0 := by
  refine rl_meti (cc := prog_1_method_4_code) (maxL := 5) (ret := (some .int)) (by decide) rfl (Nat.le_of_ble_eq_true rfl) ?_
  intro p e s m below meth c A ls hx hb hr hml hown hts hlocks hnm hP hK hD hS hA hN hl
  have hown : s.vm.findClass "RightsLimit" = some m.cls := hown
  have hG : ∀ x ∈ rl_G, x.before _ s = true := fun x h => hts x (List.mem_cons_of_mem _ h)
  have hl : lv_has ls 5 [(0, .ref (a 0)), (1, .int jt), (2, .int jk), (3, .int jd), (4, .int jn)] := hl
  obtain ⟨hcnt, hR⟩ := id hI
  refine lv_aload_n hx hb d_x_limit_0 rfl (lv_at hl 0 rfl) ?_
  refine va_get (D := D) (ci := 0) (v := .ref (a 1)) (C := "RightsLimit") (T := fT_x) (N := 8) hx hb hG fi_x hown hK hP 0 rfl rfl 0 (by decide) (hG _ wd_168) (fun _ h9 => h9) rfl d_x_limit_1 ?_
  refine lv_iload_n hx hb d_x_limit_4 rfl (lv_at hl 1 rfl) ?_
  have hpre := rl_BR.pre (av := .ref (a 1) :: [.int jt]) rl_nw_ok hP hK hN
  refine rl_callr hS (va_runV (As := [.int jt]) (rest := []) ⟨hx, hb, hml, hown, hG⟩ (k_t_has l D a kI kZ F jt ⟨by omega, hR⟩ _) (cwV 1 hG (rl_gV wd_211 wd_212 wd_213 wd_15 wd_214) rfl rfl rfl (by decide +kernel) ⟨Nat.le_of_ble_eq_true rfl, Nat.le_of_ble_eq_true rfl⟩) ⟨hpre.1, (va_recv hK hP (ci := 1) (q0 := 1) rfl rfl), hpre.2⟩ rfl rfl hl.1 rfl (lv_room (Nat.le_of_ble_eq_true rfl)) d_x_limit_5 ⟨Nat.le_of_ble_eq_true rfl, Nat.le_of_ble_eq_true rfl⟩) (fun r1 locs hw hS => ?_)
  rcases hw with ⟨rfl, h2⟩ | ⟨rfl, h2⟩
  · refine lv_if_ne (tgt := 13) hx hb d_x_limit_8 (by decide) (fun _ => ?_) (fun c9 => absurd c9 (by decide))
    refine lv_iload_n hx hb d_x_limit_13 rfl (lv_at hl 2 rfl) ?_
    refine rl_callr hS (va_runS (As := [.int jk]) (rest := []) ⟨hx, hb, hml, hown, hG⟩ (k_x_isKind l D a kI kZ jk _) (cwS 1 hG (rl_gS wd_219 wd_220 wd_14 wd_221) rfl rfl rfl (by decide +kernel) ⟨Nat.le_of_ble_eq_true rfl, Nat.le_of_ble_eq_true rfl⟩) (rl_BR.pre rl_nw_ok rl_P0 hK hN) rfl rfl hl.1 rfl (lv_room (Nat.le_of_ble_eq_true rfl)) d_x_limit_14 ⟨Nat.le_of_ble_eq_true rfl, Nat.le_of_ble_eq_true rfl⟩) (fun r3 locs hw hS => ?_)
    rcases hw with ⟨rfl, h4⟩ | ⟨rfl, h4⟩
    · refine lv_if_eq (tgt := 35) hx hb d_x_limit_17 (by decide) (fun c9 => absurd c9 (by decide)) (fun _ => ?_)
      refine lv_iload_n hx hb d_x_limit_20 rfl (lv_at hl 3 rfl) ?_
      refine rl_callr hS (va_runS (As := [.int jd]) (rest := []) ⟨hx, hb, hml, hown, hG⟩ (k_x_isDays l D a kI kZ jd _) (cwS 1 hG (rl_gS wd_222 wd_223 wd_14 wd_224) rfl rfl rfl (by decide +kernel) ⟨Nat.le_of_ble_eq_true rfl, Nat.le_of_ble_eq_true rfl⟩) (rl_BR.pre rl_nw_ok rl_P0 hK hN) rfl rfl hl.1 rfl (lv_room (Nat.le_of_ble_eq_true rfl)) d_x_limit_21 ⟨Nat.le_of_ble_eq_true rfl, Nat.le_of_ble_eq_true rfl⟩) (fun r5 locs hw hS => ?_)
      rcases hw with ⟨rfl, h6⟩ | ⟨rfl, h6⟩
      · refine lv_if_eq (tgt := 35) hx hb d_x_limit_24 (by decide) (fun c9 => absurd c9 (by decide)) (fun _ => ?_)
        refine lv_iload hx hb d_x_limit_27 (lv_at hl 4 rfl) ?_
        refine rl_callr hS (va_runS (As := [.int jn]) (rest := []) ⟨hx, hb, hml, hown, hG⟩ (k_x_isCopies l D a kI kZ jn _) (cwS 1 hG (rl_gS wd_225 wd_226 wd_14 wd_227) rfl rfl rfl (by decide +kernel) ⟨Nat.le_of_ble_eq_true rfl, Nat.le_of_ble_eq_true rfl⟩) (rl_BR.pre rl_nw_ok rl_P0 hK hN) rfl rfl hl.1 rfl (lv_room (Nat.le_of_ble_eq_true rfl)) d_x_limit_29 ⟨Nat.le_of_ble_eq_true rfl, Nat.le_of_ble_eq_true rfl⟩) (fun r7 locs hw hS => ?_)
        rcases hw with ⟨rfl, h8⟩ | ⟨rfl, h8⟩
        · refine lv_if_ne (tgt := 38) hx hb d_x_limit_32 (by decide) (fun _ => ?_) (fun c9 => absurd c9 (by decide))
          refine lv_aload_n hx hb d_x_limit_38 rfl (lv_at hl 0 rfl) ?_
          refine va_get (D := D) (ci := 0) (v := .ref (a 2)) (C := "RightsLimit") (T := fT_x) (N := 8) hx hb hG fi_x hown hK hP 0 rfl rfl 1 (by decide) (hG _ wd_169) (fun _ h9 => h9) rfl d_x_limit_39 ?_
          refine lv_iload_n hx hb d_x_limit_42 rfl (lv_at hl 1 rfl) ?_
          refine lv_iload_n hx hb d_x_limit_43 rfl (lv_at hl 2 rfl) ?_
          refine lv_iload_n hx hb d_x_limit_44 rfl (lv_at hl 3 rfl) ?_
          refine lv_iload hx hb d_x_limit_45 (lv_at hl 4 rfl) ?_
          have hpre := rl_B.pre (av := .ref (a 2) :: [.int jt, .int jk, .int jd, .int jn]) rl_nw_ok hP hK hD hN
          refine rl_calli0 hP hD hS hA (va_runV (As := [.int jt, .int jk, .int jd, .int jn]) (rest := []) ⟨hx, hb, hml, hown, hG⟩ (k_l_add l D a kI kZ F jt jk jd jn ⟨by omega, hR⟩ _) (cwV 4 hG (rl_gV wd_228 wd_229 wd_230 wd_16 wd_231) rfl rfl rfl (by decide +kernel) ⟨Nat.le_of_ble_eq_true rfl, Nat.le_of_ble_eq_true rfl⟩) ⟨hpre.1, (va_recv hK hP (ci := 2) (q0 := 2) rfl rfl), hpre.2⟩ rfl rfl hl.1 rfl (lv_room (Nat.le_of_ble_eq_true rfl)) d_x_limit_47 ⟨Nat.le_of_ble_eq_true rfl, Nat.le_of_ble_eq_true rfl⟩) (fun r9 F10 H locs hw hP hD hS => ?_)
          have hP : va_P D rl_cl (rl_w a kI kZ F10) H := hP
          have hD : va_D A (rl_w a kI kZ F10) := hD
          obtain ⟨hRF10, hw⟩ := hw
          have hwr9 := hw
          exact W.iret (v := r9) hx hb hr (fun t ht hW => ⟨⟨r9, F10, rfl, ⟨hRF10, (show ((0 ≤ jt.toInt ∧ jt.toInt < (F 27 0).toInt) ∧ ((0 ≤ jk.toInt ∧ jk.toInt ≤ 1) ∧ (1 ≤ jd.toInt ∧ jd.toInt ≤ 5000) ∧ (0 ≤ jn.toInt ∧ jn.toInt ≤ 1000)) ∧ (F 27 1).toInt < 100 ∧ r9.toInt = (F 27 1).toInt ∧ (F10 27 1).toInt = (F 27 1).toInt + 1 ∧ (F10 27 0).toInt = (F 27 0).toInt ∧ (F10 27 2).toInt = (F 27 2).toInt ∧ (F10 27 3).toInt = (F 27 3).toInt) ∨ ((((0 ≤ jt.toInt ∧ jt.toInt < (F 27 0).toInt) ∧ ((0 ≤ jk.toInt ∧ jk.toInt ≤ 1) ∧ (1 ≤ jd.toInt ∧ jd.toInt ≤ 5000) ∧ (0 ≤ jn.toInt ∧ jn.toInt ≤ 1000)) ∧ 100 ≤ (F 27 1).toInt ∧ r9.toInt = -4) ∨ ((0 ≤ jt.toInt ∧ jt.toInt < (F 27 0).toInt) ∧ ¬ ((0 ≤ jk.toInt ∧ jk.toInt ≤ 1) ∧ (1 ≤ jd.toInt ∧ jd.toInt ≤ 5000) ∧ (0 ≤ jn.toInt ∧ jn.toInt ≤ 1000)) ∧ r9.toInt = -2) ∨ (¬ (0 ≤ jt.toInt ∧ jt.toInt < (F 27 0).toInt) ∧ r9.toInt = -1)) ∧ (F10 27 0).toInt = (F 27 0).toInt ∧ (F10 27 1).toInt = (F 27 1).toInt ∧ (F10 27 2).toInt = (F 27 2).toInt ∧ (F10 27 3).toInt = (F 27 3).toInt) by omega)⟩, ⟨by rw [ht]; exact hP, hD⟩⟩, hS.F ht⟩) hS.2.2 d_x_limit_50
        · refine lv_if_ne (tgt := 38) hx hb d_x_limit_32 (by decide) (fun c9 => absurd c9 (by decide)) (fun _ => ?_)
          refine lv_bipush (v := (-2)) hx hb d_x_limit_35 (by decide) ?_
          exact W.iret (v := (-2)) hx hb hr (fun t ht hW => ⟨⟨(-2), F, rfl, ⟨hR, (show ((0 ≤ jt.toInt ∧ jt.toInt < (F 27 0).toInt) ∧ ((0 ≤ jk.toInt ∧ jk.toInt ≤ 1) ∧ (1 ≤ jd.toInt ∧ jd.toInt ≤ 5000) ∧ (0 ≤ jn.toInt ∧ jn.toInt ≤ 1000)) ∧ (F 27 1).toInt < 100 ∧ ((-2) : Int32).toInt = (F 27 1).toInt ∧ (F 27 1).toInt = (F 27 1).toInt + 1 ∧ (F 27 0).toInt = (F 27 0).toInt ∧ (F 27 2).toInt = (F 27 2).toInt ∧ (F 27 3).toInt = (F 27 3).toInt) ∨ ((((0 ≤ jt.toInt ∧ jt.toInt < (F 27 0).toInt) ∧ ((0 ≤ jk.toInt ∧ jk.toInt ≤ 1) ∧ (1 ≤ jd.toInt ∧ jd.toInt ≤ 5000) ∧ (0 ≤ jn.toInt ∧ jn.toInt ≤ 1000)) ∧ 100 ≤ (F 27 1).toInt ∧ ((-2) : Int32).toInt = -4) ∨ ((0 ≤ jt.toInt ∧ jt.toInt < (F 27 0).toInt) ∧ ¬ ((0 ≤ jk.toInt ∧ jk.toInt ≤ 1) ∧ (1 ≤ jd.toInt ∧ jd.toInt ≤ 5000) ∧ (0 ≤ jn.toInt ∧ jn.toInt ≤ 1000)) ∧ ((-2) : Int32).toInt = -2) ∨ (¬ (0 ≤ jt.toInt ∧ jt.toInt < (F 27 0).toInt) ∧ ((-2) : Int32).toInt = -1)) ∧ (F 27 0).toInt = (F 27 0).toInt ∧ (F 27 1).toInt = (F 27 1).toInt ∧ (F 27 2).toInt = (F 27 2).toInt ∧ (F 27 3).toInt = (F 27 3).toInt) by have q9 := rl_nm2; omega)⟩, ⟨by rw [ht]; exact hP, hD⟩⟩, hS.F ht⟩) hS.2.2 d_x_limit_37
      · refine lv_if_eq (tgt := 35) hx hb d_x_limit_24 (by decide) (fun _ => ?_) (fun c9 => absurd c9 (by decide))
        refine lv_bipush (v := (-2)) hx hb d_x_limit_35 (by decide) ?_
        exact W.iret (v := (-2)) hx hb hr (fun t ht hW => ⟨⟨(-2), F, rfl, ⟨hR, (show ((0 ≤ jt.toInt ∧ jt.toInt < (F 27 0).toInt) ∧ ((0 ≤ jk.toInt ∧ jk.toInt ≤ 1) ∧ (1 ≤ jd.toInt ∧ jd.toInt ≤ 5000) ∧ (0 ≤ jn.toInt ∧ jn.toInt ≤ 1000)) ∧ (F 27 1).toInt < 100 ∧ ((-2) : Int32).toInt = (F 27 1).toInt ∧ (F 27 1).toInt = (F 27 1).toInt + 1 ∧ (F 27 0).toInt = (F 27 0).toInt ∧ (F 27 2).toInt = (F 27 2).toInt ∧ (F 27 3).toInt = (F 27 3).toInt) ∨ ((((0 ≤ jt.toInt ∧ jt.toInt < (F 27 0).toInt) ∧ ((0 ≤ jk.toInt ∧ jk.toInt ≤ 1) ∧ (1 ≤ jd.toInt ∧ jd.toInt ≤ 5000) ∧ (0 ≤ jn.toInt ∧ jn.toInt ≤ 1000)) ∧ 100 ≤ (F 27 1).toInt ∧ ((-2) : Int32).toInt = -4) ∨ ((0 ≤ jt.toInt ∧ jt.toInt < (F 27 0).toInt) ∧ ¬ ((0 ≤ jk.toInt ∧ jk.toInt ≤ 1) ∧ (1 ≤ jd.toInt ∧ jd.toInt ≤ 5000) ∧ (0 ≤ jn.toInt ∧ jn.toInt ≤ 1000)) ∧ ((-2) : Int32).toInt = -2) ∨ (¬ (0 ≤ jt.toInt ∧ jt.toInt < (F 27 0).toInt) ∧ ((-2) : Int32).toInt = -1)) ∧ (F 27 0).toInt = (F 27 0).toInt ∧ (F 27 1).toInt = (F 27 1).toInt ∧ (F 27 2).toInt = (F 27 2).toInt ∧ (F 27 3).toInt = (F 27 3).toInt) by have q9 := rl_nm2; omega)⟩, ⟨by rw [ht]; exact hP, hD⟩⟩, hS.F ht⟩) hS.2.2 d_x_limit_37
    · refine lv_if_eq (tgt := 35) hx hb d_x_limit_17 (by decide) (fun _ => ?_) (fun c9 => absurd c9 (by decide))
      refine lv_bipush (v := (-2)) hx hb d_x_limit_35 (by decide) ?_
      exact W.iret (v := (-2)) hx hb hr (fun t ht hW => ⟨⟨(-2), F, rfl, ⟨hR, (show ((0 ≤ jt.toInt ∧ jt.toInt < (F 27 0).toInt) ∧ ((0 ≤ jk.toInt ∧ jk.toInt ≤ 1) ∧ (1 ≤ jd.toInt ∧ jd.toInt ≤ 5000) ∧ (0 ≤ jn.toInt ∧ jn.toInt ≤ 1000)) ∧ (F 27 1).toInt < 100 ∧ ((-2) : Int32).toInt = (F 27 1).toInt ∧ (F 27 1).toInt = (F 27 1).toInt + 1 ∧ (F 27 0).toInt = (F 27 0).toInt ∧ (F 27 2).toInt = (F 27 2).toInt ∧ (F 27 3).toInt = (F 27 3).toInt) ∨ ((((0 ≤ jt.toInt ∧ jt.toInt < (F 27 0).toInt) ∧ ((0 ≤ jk.toInt ∧ jk.toInt ≤ 1) ∧ (1 ≤ jd.toInt ∧ jd.toInt ≤ 5000) ∧ (0 ≤ jn.toInt ∧ jn.toInt ≤ 1000)) ∧ 100 ≤ (F 27 1).toInt ∧ ((-2) : Int32).toInt = -4) ∨ ((0 ≤ jt.toInt ∧ jt.toInt < (F 27 0).toInt) ∧ ¬ ((0 ≤ jk.toInt ∧ jk.toInt ≤ 1) ∧ (1 ≤ jd.toInt ∧ jd.toInt ≤ 5000) ∧ (0 ≤ jn.toInt ∧ jn.toInt ≤ 1000)) ∧ ((-2) : Int32).toInt = -2) ∨ (¬ (0 ≤ jt.toInt ∧ jt.toInt < (F 27 0).toInt) ∧ ((-2) : Int32).toInt = -1)) ∧ (F 27 0).toInt = (F 27 0).toInt ∧ (F 27 1).toInt = (F 27 1).toInt ∧ (F 27 2).toInt = (F 27 2).toInt ∧ (F 27 3).toInt = (F 27 3).toInt) by have q9 := rl_nm2; omega)⟩, ⟨by rw [ht]; exact hP, hD⟩⟩, hS.F ht⟩) hS.2.2 d_x_limit_37
  · refine lv_if_ne (tgt := 13) hx hb d_x_limit_8 (by decide) (fun c9 => absurd c9 (by decide)) (fun _ => ?_)
    refine lv_iconst (v := (-1)) hx hb d_x_limit_11 (by decide) ?_
    exact W.iret (v := (-1)) hx hb hr (fun t ht hW => ⟨⟨(-1), F, rfl, ⟨hR, (show ((0 ≤ jt.toInt ∧ jt.toInt < (F 27 0).toInt) ∧ ((0 ≤ jk.toInt ∧ jk.toInt ≤ 1) ∧ (1 ≤ jd.toInt ∧ jd.toInt ≤ 5000) ∧ (0 ≤ jn.toInt ∧ jn.toInt ≤ 1000)) ∧ (F 27 1).toInt < 100 ∧ ((-1) : Int32).toInt = (F 27 1).toInt ∧ (F 27 1).toInt = (F 27 1).toInt + 1 ∧ (F 27 0).toInt = (F 27 0).toInt ∧ (F 27 2).toInt = (F 27 2).toInt ∧ (F 27 3).toInt = (F 27 3).toInt) ∨ ((((0 ≤ jt.toInt ∧ jt.toInt < (F 27 0).toInt) ∧ ((0 ≤ jk.toInt ∧ jk.toInt ≤ 1) ∧ (1 ≤ jd.toInt ∧ jd.toInt ≤ 5000) ∧ (0 ≤ jn.toInt ∧ jn.toInt ≤ 1000)) ∧ 100 ≤ (F 27 1).toInt ∧ ((-1) : Int32).toInt = -4) ∨ ((0 ≤ jt.toInt ∧ jt.toInt < (F 27 0).toInt) ∧ ¬ ((0 ≤ jk.toInt ∧ jk.toInt ≤ 1) ∧ (1 ≤ jd.toInt ∧ jd.toInt ≤ 5000) ∧ (0 ≤ jn.toInt ∧ jn.toInt ≤ 1000)) ∧ ((-1) : Int32).toInt = -2) ∨ (¬ (0 ≤ jt.toInt ∧ jt.toInt < (F 27 0).toInt) ∧ ((-1) : Int32).toInt = -1)) ∧ (F 27 0).toInt = (F 27 0).toInt ∧ (F 27 1).toInt = (F 27 1).toInt ∧ (F 27 2).toInt = (F 27 2).toInt ∧ (F 27 3).toInt = (F 27 3).toInt) by have q9 := rl_nm1; omega)⟩, ⟨by rw [ht]; exact hP, hD⟩⟩, hS.F ht⟩) hS.2.2 d_x_limit_12
set_option maxHeartbeats 4000000 in
set_option maxRecDepth 100000 in
theorem k_x_licence (l : Launch) (D : va_G) (a : Nat → Nat) (kI kZ : ClassId) (F : Nat → Nat → Int32) (jt jk jn ju jv : Int32) (hI : rl_I F) (sz : Nat) : rl_Ci (S := Nat → Nat → Int32) l ⟨"RightsLimit", "licence", "(IIIII)I"⟩ (Cond.code ⟨"RightsLimit", "licence", "(IIIII)I"⟩ prog_1_method_5_code 6 (some .int) :: rl_G) { frames := 2, cells := 0, slots := 0, locals := 42 } D rl_cl (rl_tys kI kZ) rl_nw [.ref (a 0), .int jt, .int jk, .int jn, .int ju, .int jv] (rl_w a kI kZ F) sz (fun (r : Int32) (F' : Nat → Nat → Int32) => rl_R F' ∧ (((0 ≤ jt.toInt ∧ jt.toInt < (F 27 0).toInt) ∧ ((0 ≤ jk.toInt ∧ jk.toInt ≤ 1) ∧ (0 ≤ jn.toInt ∧ jn.toInt ≤ 1000) ∧ (0 ≤ ju.toInt ∧ ju.toInt ≤ 1000000000) ∧ (0 ≤ jv.toInt ∧ jv.toInt ≤ 1000000000) ∧ ju.toInt ≤ jv.toInt) ∧ (F 27 2).toInt < 50 ∧ r.toInt = (F 27 2).toInt ∧ (F' 27 2).toInt = (F 27 2).toInt + 1 ∧ (F' 27 0).toInt = (F 27 0).toInt ∧ (F' 27 1).toInt = (F 27 1).toInt ∧ (F' 27 3).toInt = (F 27 3).toInt) ∨ ((((0 ≤ jt.toInt ∧ jt.toInt < (F 27 0).toInt) ∧ ((0 ≤ jk.toInt ∧ jk.toInt ≤ 1) ∧ (0 ≤ jn.toInt ∧ jn.toInt ≤ 1000) ∧ (0 ≤ ju.toInt ∧ ju.toInt ≤ 1000000000) ∧ (0 ≤ jv.toInt ∧ jv.toInt ≤ 1000000000) ∧ ju.toInt ≤ jv.toInt) ∧ 50 ≤ (F 27 2).toInt ∧ r.toInt = -4) ∨ ((0 ≤ jt.toInt ∧ jt.toInt < (F 27 0).toInt) ∧ ¬ ((0 ≤ jk.toInt ∧ jk.toInt ≤ 1) ∧ (0 ≤ jn.toInt ∧ jn.toInt ≤ 1000) ∧ (0 ≤ ju.toInt ∧ ju.toInt ≤ 1000000000) ∧ (0 ≤ jv.toInt ∧ jv.toInt ≤ 1000000000) ∧ ju.toInt ≤ jv.toInt) ∧ r.toInt = -2) ∨ (¬ (0 ≤ jt.toInt ∧ jt.toInt < (F 27 0).toInt) ∧ r.toInt = -1)) ∧ (F' 27 0).toInt = (F 27 0).toInt ∧ (F' 27 1).toInt = (F 27 1).toInt ∧ (F' 27 2).toInt = (F 27 2).toInt ∧ (F' 27 3).toInt = (F 27 3).toInt))) (fun F' => rl_w a kI kZ F') 0 0 := by
  refine rl_meti (cc := prog_1_method_5_code) (maxL := 6) (ret := (some .int)) (by decide) rfl (Nat.le_of_ble_eq_true rfl) ?_
  intro p e s m below meth c A ls hx hb hr hml hown hts hlocks hnm hP hK hD hS hA hN hl
  have hown : s.vm.findClass "RightsLimit" = some m.cls := hown
  have hG : ∀ x ∈ rl_G, x.before _ s = true := fun x h => hts x (List.mem_cons_of_mem _ h)
  have hl : lv_has ls 6 [(0, .ref (a 0)), (1, .int jt), (2, .int jk), (3, .int jn), (4, .int ju), (5, .int jv)] := hl
  obtain ⟨hcnt, hR⟩ := id hI
  refine lv_aload_n hx hb d_x_licence_0 rfl (lv_at hl 0 rfl) ?_
  refine va_get (D := D) (ci := 0) (v := .ref (a 1)) (C := "RightsLimit") (T := fT_x) (N := 8) hx hb hG fi_x hown hK hP 0 rfl rfl 0 (by decide) (hG _ wd_168) (fun _ h9 => h9) rfl d_x_licence_1 ?_
  refine lv_iload_n hx hb d_x_licence_4 rfl (lv_at hl 1 rfl) ?_
  have hpre := rl_BR.pre (av := .ref (a 1) :: [.int jt]) rl_nw_ok hP hK hN
  refine rl_callr hS (va_runV (As := [.int jt]) (rest := []) ⟨hx, hb, hml, hown, hG⟩ (k_t_has l D a kI kZ F jt ⟨by omega, hR⟩ _) (cwV 1 hG (rl_gV wd_211 wd_212 wd_213 wd_15 wd_214) rfl rfl rfl (by decide +kernel) ⟨Nat.le_of_ble_eq_true rfl, Nat.le_of_ble_eq_true rfl⟩) ⟨hpre.1, (va_recv hK hP (ci := 1) (q0 := 1) rfl rfl), hpre.2⟩ rfl rfl hl.1 rfl (lv_room (Nat.le_of_ble_eq_true rfl)) d_x_licence_5 ⟨Nat.le_of_ble_eq_true rfl, Nat.le_of_ble_eq_true rfl⟩) (fun r1 locs hw hS => ?_)
  rcases hw with ⟨rfl, h2⟩ | ⟨rfl, h2⟩
  · refine lv_if_ne (tgt := 13) hx hb d_x_licence_8 (by decide) (fun _ => ?_) (fun c9 => absurd c9 (by decide))
    refine lv_iload_n hx hb d_x_licence_13 rfl (lv_at hl 2 rfl) ?_
    refine rl_callr hS (va_runS (As := [.int jk]) (rest := []) ⟨hx, hb, hml, hown, hG⟩ (k_x_isKind l D a kI kZ jk _) (cwS 1 hG (rl_gS wd_219 wd_220 wd_14 wd_221) rfl rfl rfl (by decide +kernel) ⟨Nat.le_of_ble_eq_true rfl, Nat.le_of_ble_eq_true rfl⟩) (rl_BR.pre rl_nw_ok rl_P0 hK hN) rfl rfl hl.1 rfl (lv_room (Nat.le_of_ble_eq_true rfl)) d_x_licence_14 ⟨Nat.le_of_ble_eq_true rfl, Nat.le_of_ble_eq_true rfl⟩) (fun r3 locs hw hS => ?_)
    rcases hw with ⟨rfl, h4⟩ | ⟨rfl, h4⟩
    · refine lv_if_eq (tgt := 50) hx hb d_x_licence_17 (by decide) (fun c9 => absurd c9 (by decide)) (fun _ => ?_)
      refine lv_iload_n hx hb d_x_licence_20 rfl (lv_at hl 3 rfl) ?_
      refine rl_callr hS (va_runS (As := [.int jn]) (rest := []) ⟨hx, hb, hml, hown, hG⟩ (k_x_isCopies l D a kI kZ jn _) (cwS 1 hG (rl_gS wd_225 wd_226 wd_14 wd_227) rfl rfl rfl (by decide +kernel) ⟨Nat.le_of_ble_eq_true rfl, Nat.le_of_ble_eq_true rfl⟩) (rl_BR.pre rl_nw_ok rl_P0 hK hN) rfl rfl hl.1 rfl (lv_room (Nat.le_of_ble_eq_true rfl)) d_x_licence_21 ⟨Nat.le_of_ble_eq_true rfl, Nat.le_of_ble_eq_true rfl⟩) (fun r5 locs hw hS => ?_)
      rcases hw with ⟨rfl, h6⟩ | ⟨rfl, h6⟩
      · refine lv_if_eq (tgt := 50) hx hb d_x_licence_24 (by decide) (fun c9 => absurd c9 (by decide)) (fun _ => ?_)
        refine lv_iload hx hb d_x_licence_27 (lv_at hl 4 rfl) ?_
        refine rl_callr hS (va_runS (As := [.int ju]) (rest := []) ⟨hx, hb, hml, hown, hG⟩ (k_x_isTime l D a kI kZ ju _) (cwS 1 hG (rl_gS wd_236 wd_237 wd_14 wd_238) rfl rfl rfl (by decide +kernel) ⟨Nat.le_of_ble_eq_true rfl, Nat.le_of_ble_eq_true rfl⟩) (rl_BR.pre rl_nw_ok rl_P0 hK hN) rfl rfl hl.1 rfl (lv_room (Nat.le_of_ble_eq_true rfl)) d_x_licence_29 ⟨Nat.le_of_ble_eq_true rfl, Nat.le_of_ble_eq_true rfl⟩) (fun r7 locs hw hS => ?_)
        rcases hw with ⟨rfl, h8⟩ | ⟨rfl, h8⟩
        · refine lv_if_eq (tgt := 50) hx hb d_x_licence_32 (by decide) (fun c9 => absurd c9 (by decide)) (fun _ => ?_)
          refine lv_iload hx hb d_x_licence_35 (lv_at hl 5 rfl) ?_
          refine rl_callr hS (va_runS (As := [.int jv]) (rest := []) ⟨hx, hb, hml, hown, hG⟩ (k_x_isTime l D a kI kZ jv _) (cwS 1 hG (rl_gS wd_236 wd_237 wd_14 wd_238) rfl rfl rfl (by decide +kernel) ⟨Nat.le_of_ble_eq_true rfl, Nat.le_of_ble_eq_true rfl⟩) (rl_BR.pre rl_nw_ok rl_P0 hK hN) rfl rfl hl.1 rfl (lv_room (Nat.le_of_ble_eq_true rfl)) d_x_licence_37 ⟨Nat.le_of_ble_eq_true rfl, Nat.le_of_ble_eq_true rfl⟩) (fun r9 locs hw hS => ?_)
          rcases hw with ⟨rfl, h10⟩ | ⟨rfl, h10⟩
          · refine lv_if_eq (tgt := 50) hx hb d_x_licence_40 (by decide) (fun c9 => absurd c9 (by decide)) (fun _ => ?_)
            refine lv_iload hx hb d_x_licence_43 (lv_at hl 4 rfl) ?_
            refine lv_iload hx hb d_x_licence_45 (lv_at hl 5 rfl) ?_
            refine lv_icmp_le (tgt := 53) hx hb d_x_licence_47 (by decide) (fun c11 => ?_) (fun c11 => ?_)
            · have ic11 := rl_ile c11
              refine lv_aload_n hx hb d_x_licence_53 rfl (lv_at hl 0 rfl) ?_
              refine va_get (D := D) (ci := 0) (v := .ref (a 3)) (C := "RightsLimit") (T := fT_x) (N := 8) hx hb hG fi_x hown hK hP 0 rfl rfl 2 (by decide) (hG _ wd_170) (fun _ h9 => h9) rfl d_x_licence_54 ?_
              refine lv_iload_n hx hb d_x_licence_57 rfl (lv_at hl 1 rfl) ?_
              refine lv_iload_n hx hb d_x_licence_58 rfl (lv_at hl 2 rfl) ?_
              refine lv_iload_n hx hb d_x_licence_59 rfl (lv_at hl 3 rfl) ?_
              refine lv_iload hx hb d_x_licence_60 (lv_at hl 4 rfl) ?_
              refine lv_iload hx hb d_x_licence_62 (lv_at hl 5 rfl) ?_
              have hpre := rl_B.pre (av := .ref (a 3) :: [.int jt, .int jk, .int jn, .int ju, .int jv]) rl_nw_ok hP hK hD hN
              refine rl_calli0 hP hD hS hA (va_runV (As := [.int jt, .int jk, .int jn, .int ju, .int jv]) (rest := []) ⟨hx, hb, hml, hown, hG⟩ (k_c_add l D a kI kZ F jt jk jn ju jv ⟨by omega, hR⟩ _) (cwV 5 hG (rl_gV wd_240 wd_241 wd_242 wd_17 wd_243) rfl rfl rfl (by decide +kernel) ⟨Nat.le_of_ble_eq_true rfl, Nat.le_of_ble_eq_true rfl⟩) ⟨hpre.1, (va_recv hK hP (ci := 3) (q0 := 3) rfl rfl), hpre.2⟩ rfl rfl hl.1 rfl (lv_room (Nat.le_of_ble_eq_true rfl)) d_x_licence_64 ⟨Nat.le_of_ble_eq_true rfl, Nat.le_of_ble_eq_true rfl⟩) (fun r12 F13 H locs hw hP hD hS => ?_)
              have hP : va_P D rl_cl (rl_w a kI kZ F13) H := hP
              have hD : va_D A (rl_w a kI kZ F13) := hD
              obtain ⟨hRF13, hw⟩ := hw
              have hwr12 := hw
              exact W.iret (v := r12) hx hb hr (fun t ht hW => ⟨⟨r12, F13, rfl, ⟨hRF13, (show ((0 ≤ jt.toInt ∧ jt.toInt < (F 27 0).toInt) ∧ ((0 ≤ jk.toInt ∧ jk.toInt ≤ 1) ∧ (0 ≤ jn.toInt ∧ jn.toInt ≤ 1000) ∧ (0 ≤ ju.toInt ∧ ju.toInt ≤ 1000000000) ∧ (0 ≤ jv.toInt ∧ jv.toInt ≤ 1000000000) ∧ ju.toInt ≤ jv.toInt) ∧ (F 27 2).toInt < 50 ∧ r12.toInt = (F 27 2).toInt ∧ (F13 27 2).toInt = (F 27 2).toInt + 1 ∧ (F13 27 0).toInt = (F 27 0).toInt ∧ (F13 27 1).toInt = (F 27 1).toInt ∧ (F13 27 3).toInt = (F 27 3).toInt) ∨ ((((0 ≤ jt.toInt ∧ jt.toInt < (F 27 0).toInt) ∧ ((0 ≤ jk.toInt ∧ jk.toInt ≤ 1) ∧ (0 ≤ jn.toInt ∧ jn.toInt ≤ 1000) ∧ (0 ≤ ju.toInt ∧ ju.toInt ≤ 1000000000) ∧ (0 ≤ jv.toInt ∧ jv.toInt ≤ 1000000000) ∧ ju.toInt ≤ jv.toInt) ∧ 50 ≤ (F 27 2).toInt ∧ r12.toInt = -4) ∨ ((0 ≤ jt.toInt ∧ jt.toInt < (F 27 0).toInt) ∧ ¬ ((0 ≤ jk.toInt ∧ jk.toInt ≤ 1) ∧ (0 ≤ jn.toInt ∧ jn.toInt ≤ 1000) ∧ (0 ≤ ju.toInt ∧ ju.toInt ≤ 1000000000) ∧ (0 ≤ jv.toInt ∧ jv.toInt ≤ 1000000000) ∧ ju.toInt ≤ jv.toInt) ∧ r12.toInt = -2) ∨ (¬ (0 ≤ jt.toInt ∧ jt.toInt < (F 27 0).toInt) ∧ r12.toInt = -1)) ∧ (F13 27 0).toInt = (F 27 0).toInt ∧ (F13 27 1).toInt = (F 27 1).toInt ∧ (F13 27 2).toInt = (F 27 2).toInt ∧ (F13 27 3).toInt = (F 27 3).toInt) by omega)⟩, ⟨by rw [ht]; exact hP, hD⟩⟩, hS.F ht⟩) hS.2.2 d_x_licence_67
            · have ic11 := rl_inle c11
              refine lv_bipush (v := (-2)) hx hb d_x_licence_50 (by decide) ?_
              exact W.iret (v := (-2)) hx hb hr (fun t ht hW => ⟨⟨(-2), F, rfl, ⟨hR, (show ((0 ≤ jt.toInt ∧ jt.toInt < (F 27 0).toInt) ∧ ((0 ≤ jk.toInt ∧ jk.toInt ≤ 1) ∧ (0 ≤ jn.toInt ∧ jn.toInt ≤ 1000) ∧ (0 ≤ ju.toInt ∧ ju.toInt ≤ 1000000000) ∧ (0 ≤ jv.toInt ∧ jv.toInt ≤ 1000000000) ∧ ju.toInt ≤ jv.toInt) ∧ (F 27 2).toInt < 50 ∧ ((-2) : Int32).toInt = (F 27 2).toInt ∧ (F 27 2).toInt = (F 27 2).toInt + 1 ∧ (F 27 0).toInt = (F 27 0).toInt ∧ (F 27 1).toInt = (F 27 1).toInt ∧ (F 27 3).toInt = (F 27 3).toInt) ∨ ((((0 ≤ jt.toInt ∧ jt.toInt < (F 27 0).toInt) ∧ ((0 ≤ jk.toInt ∧ jk.toInt ≤ 1) ∧ (0 ≤ jn.toInt ∧ jn.toInt ≤ 1000) ∧ (0 ≤ ju.toInt ∧ ju.toInt ≤ 1000000000) ∧ (0 ≤ jv.toInt ∧ jv.toInt ≤ 1000000000) ∧ ju.toInt ≤ jv.toInt) ∧ 50 ≤ (F 27 2).toInt ∧ ((-2) : Int32).toInt = -4) ∨ ((0 ≤ jt.toInt ∧ jt.toInt < (F 27 0).toInt) ∧ ¬ ((0 ≤ jk.toInt ∧ jk.toInt ≤ 1) ∧ (0 ≤ jn.toInt ∧ jn.toInt ≤ 1000) ∧ (0 ≤ ju.toInt ∧ ju.toInt ≤ 1000000000) ∧ (0 ≤ jv.toInt ∧ jv.toInt ≤ 1000000000) ∧ ju.toInt ≤ jv.toInt) ∧ ((-2) : Int32).toInt = -2) ∨ (¬ (0 ≤ jt.toInt ∧ jt.toInt < (F 27 0).toInt) ∧ ((-2) : Int32).toInt = -1)) ∧ (F 27 0).toInt = (F 27 0).toInt ∧ (F 27 1).toInt = (F 27 1).toInt ∧ (F 27 2).toInt = (F 27 2).toInt ∧ (F 27 3).toInt = (F 27 3).toInt) by have q9 := rl_nm2; omega)⟩, ⟨by rw [ht]; exact hP, hD⟩⟩, hS.F ht⟩) hS.2.2 d_x_licence_52
          · refine lv_if_eq (tgt := 50) hx hb d_x_licence_40 (by decide) (fun _ => ?_) (fun c9 => absurd c9 (by decide))
            refine lv_bipush (v := (-2)) hx hb d_x_licence_50 (by decide) ?_
            exact W.iret (v := (-2)) hx hb hr (fun t ht hW => ⟨⟨(-2), F, rfl, ⟨hR, (show ((0 ≤ jt.toInt ∧ jt.toInt < (F 27 0).toInt) ∧ ((0 ≤ jk.toInt ∧ jk.toInt ≤ 1) ∧ (0 ≤ jn.toInt ∧ jn.toInt ≤ 1000) ∧ (0 ≤ ju.toInt ∧ ju.toInt ≤ 1000000000) ∧ (0 ≤ jv.toInt ∧ jv.toInt ≤ 1000000000) ∧ ju.toInt ≤ jv.toInt) ∧ (F 27 2).toInt < 50 ∧ ((-2) : Int32).toInt = (F 27 2).toInt ∧ (F 27 2).toInt = (F 27 2).toInt + 1 ∧ (F 27 0).toInt = (F 27 0).toInt ∧ (F 27 1).toInt = (F 27 1).toInt ∧ (F 27 3).toInt = (F 27 3).toInt) ∨ ((((0 ≤ jt.toInt ∧ jt.toInt < (F 27 0).toInt) ∧ ((0 ≤ jk.toInt ∧ jk.toInt ≤ 1) ∧ (0 ≤ jn.toInt ∧ jn.toInt ≤ 1000) ∧ (0 ≤ ju.toInt ∧ ju.toInt ≤ 1000000000) ∧ (0 ≤ jv.toInt ∧ jv.toInt ≤ 1000000000) ∧ ju.toInt ≤ jv.toInt) ∧ 50 ≤ (F 27 2).toInt ∧ ((-2) : Int32).toInt = -4) ∨ ((0 ≤ jt.toInt ∧ jt.toInt < (F 27 0).toInt) ∧ ¬ ((0 ≤ jk.toInt ∧ jk.toInt ≤ 1) ∧ (0 ≤ jn.toInt ∧ jn.toInt ≤ 1000) ∧ (0 ≤ ju.toInt ∧ ju.toInt ≤ 1000000000) ∧ (0 ≤ jv.toInt ∧ jv.toInt ≤ 1000000000) ∧ ju.toInt ≤ jv.toInt) ∧ ((-2) : Int32).toInt = -2) ∨ (¬ (0 ≤ jt.toInt ∧ jt.toInt < (F 27 0).toInt) ∧ ((-2) : Int32).toInt = -1)) ∧ (F 27 0).toInt = (F 27 0).toInt ∧ (F 27 1).toInt = (F 27 1).toInt ∧ (F 27 2).toInt = (F 27 2).toInt ∧ (F 27 3).toInt = (F 27 3).toInt) by have q9 := rl_nm2; omega)⟩, ⟨by rw [ht]; exact hP, hD⟩⟩, hS.F ht⟩) hS.2.2 d_x_licence_52
        · refine lv_if_eq (tgt := 50) hx hb d_x_licence_32 (by decide) (fun _ => ?_) (fun c9 => absurd c9 (by decide))
          refine lv_bipush (v := (-2)) hx hb d_x_licence_50 (by decide) ?_
          exact W.iret (v := (-2)) hx hb hr (fun t ht hW => ⟨⟨(-2), F, rfl, ⟨hR, (show ((0 ≤ jt.toInt ∧ jt.toInt < (F 27 0).toInt) ∧ ((0 ≤ jk.toInt ∧ jk.toInt ≤ 1) ∧ (0 ≤ jn.toInt ∧ jn.toInt ≤ 1000) ∧ (0 ≤ ju.toInt ∧ ju.toInt ≤ 1000000000) ∧ (0 ≤ jv.toInt ∧ jv.toInt ≤ 1000000000) ∧ ju.toInt ≤ jv.toInt) ∧ (F 27 2).toInt < 50 ∧ ((-2) : Int32).toInt = (F 27 2).toInt ∧ (F 27 2).toInt = (F 27 2).toInt + 1 ∧ (F 27 0).toInt = (F 27 0).toInt ∧ (F 27 1).toInt = (F 27 1).toInt ∧ (F 27 3).toInt = (F 27 3).toInt) ∨ ((((0 ≤ jt.toInt ∧ jt.toInt < (F 27 0).toInt) ∧ ((0 ≤ jk.toInt ∧ jk.toInt ≤ 1) ∧ (0 ≤ jn.toInt ∧ jn.toInt ≤ 1000) ∧ (0 ≤ ju.toInt ∧ ju.toInt ≤ 1000000000) ∧ (0 ≤ jv.toInt ∧ jv.toInt ≤ 1000000000) ∧ ju.toInt ≤ jv.toInt) ∧ 50 ≤ (F 27 2).toInt ∧ ((-2) : Int32).toInt = -4) ∨ ((0 ≤ jt.toInt ∧ jt.toInt < (F 27 0).toInt) ∧ ¬ ((0 ≤ jk.toInt ∧ jk.toInt ≤ 1) ∧ (0 ≤ jn.toInt ∧ jn.toInt ≤ 1000) ∧ (0 ≤ ju.toInt ∧ ju.toInt ≤ 1000000000) ∧ (0 ≤ jv.toInt ∧ jv.toInt ≤ 1000000000) ∧ ju.toInt ≤ jv.toInt) ∧ ((-2) : Int32).toInt = -2) ∨ (¬ (0 ≤ jt.toInt ∧ jt.toInt < (F 27 0).toInt) ∧ ((-2) : Int32).toInt = -1)) ∧ (F 27 0).toInt = (F 27 0).toInt ∧ (F 27 1).toInt = (F 27 1).toInt ∧ (F 27 2).toInt = (F 27 2).toInt ∧ (F 27 3).toInt = (F 27 3).toInt) by have q9 := rl_nm2; omega)⟩, ⟨by rw [ht]; exact hP, hD⟩⟩, hS.F ht⟩) hS.2.2 d_x_licence_52
      · refine lv_if_eq (tgt := 50) hx hb d_x_licence_24 (by decide) (fun _ => ?_) (fun c9 => absurd c9 (by decide))
        refine lv_bipush (v := (-2)) hx hb d_x_licence_50 (by decide) ?_
        exact W.iret (v := (-2)) hx hb hr (fun t ht hW => ⟨⟨(-2), F, rfl, ⟨hR, (show ((0 ≤ jt.toInt ∧ jt.toInt < (F 27 0).toInt) ∧ ((0 ≤ jk.toInt ∧ jk.toInt ≤ 1) ∧ (0 ≤ jn.toInt ∧ jn.toInt ≤ 1000) ∧ (0 ≤ ju.toInt ∧ ju.toInt ≤ 1000000000) ∧ (0 ≤ jv.toInt ∧ jv.toInt ≤ 1000000000) ∧ ju.toInt ≤ jv.toInt) ∧ (F 27 2).toInt < 50 ∧ ((-2) : Int32).toInt = (F 27 2).toInt ∧ (F 27 2).toInt = (F 27 2).toInt + 1 ∧ (F 27 0).toInt = (F 27 0).toInt ∧ (F 27 1).toInt = (F 27 1).toInt ∧ (F 27 3).toInt = (F 27 3).toInt) ∨ ((((0 ≤ jt.toInt ∧ jt.toInt < (F 27 0).toInt) ∧ ((0 ≤ jk.toInt ∧ jk.toInt ≤ 1) ∧ (0 ≤ jn.toInt ∧ jn.toInt ≤ 1000) ∧ (0 ≤ ju.toInt ∧ ju.toInt ≤ 1000000000) ∧ (0 ≤ jv.toInt ∧ jv.toInt ≤ 1000000000) ∧ ju.toInt ≤ jv.toInt) ∧ 50 ≤ (F 27 2).toInt ∧ ((-2) : Int32).toInt = -4) ∨ ((0 ≤ jt.toInt ∧ jt.toInt < (F 27 0).toInt) ∧ ¬ ((0 ≤ jk.toInt ∧ jk.toInt ≤ 1) ∧ (0 ≤ jn.toInt ∧ jn.toInt ≤ 1000) ∧ (0 ≤ ju.toInt ∧ ju.toInt ≤ 1000000000) ∧ (0 ≤ jv.toInt ∧ jv.toInt ≤ 1000000000) ∧ ju.toInt ≤ jv.toInt) ∧ ((-2) : Int32).toInt = -2) ∨ (¬ (0 ≤ jt.toInt ∧ jt.toInt < (F 27 0).toInt) ∧ ((-2) : Int32).toInt = -1)) ∧ (F 27 0).toInt = (F 27 0).toInt ∧ (F 27 1).toInt = (F 27 1).toInt ∧ (F 27 2).toInt = (F 27 2).toInt ∧ (F 27 3).toInt = (F 27 3).toInt) by have q9 := rl_nm2; omega)⟩, ⟨by rw [ht]; exact hP, hD⟩⟩, hS.F ht⟩) hS.2.2 d_x_licence_52
    · refine lv_if_eq (tgt := 50) hx hb d_x_licence_17 (by decide) (fun _ => ?_) (fun c9 => absurd c9 (by decide))
      refine lv_bipush (v := (-2)) hx hb d_x_licence_50 (by decide) ?_
      exact W.iret (v := (-2)) hx hb hr (fun t ht hW => ⟨⟨(-2), F, rfl, ⟨hR, (show ((0 ≤ jt.toInt ∧ jt.toInt < (F 27 0).toInt) ∧ ((0 ≤ jk.toInt ∧ jk.toInt ≤ 1) ∧ (0 ≤ jn.toInt ∧ jn.toInt ≤ 1000) ∧ (0 ≤ ju.toInt ∧ ju.toInt ≤ 1000000000) ∧ (0 ≤ jv.toInt ∧ jv.toInt ≤ 1000000000) ∧ ju.toInt ≤ jv.toInt) ∧ (F 27 2).toInt < 50 ∧ ((-2) : Int32).toInt = (F 27 2).toInt ∧ (F 27 2).toInt = (F 27 2).toInt + 1 ∧ (F 27 0).toInt = (F 27 0).toInt ∧ (F 27 1).toInt = (F 27 1).toInt ∧ (F 27 3).toInt = (F 27 3).toInt) ∨ ((((0 ≤ jt.toInt ∧ jt.toInt < (F 27 0).toInt) ∧ ((0 ≤ jk.toInt ∧ jk.toInt ≤ 1) ∧ (0 ≤ jn.toInt ∧ jn.toInt ≤ 1000) ∧ (0 ≤ ju.toInt ∧ ju.toInt ≤ 1000000000) ∧ (0 ≤ jv.toInt ∧ jv.toInt ≤ 1000000000) ∧ ju.toInt ≤ jv.toInt) ∧ 50 ≤ (F 27 2).toInt ∧ ((-2) : Int32).toInt = -4) ∨ ((0 ≤ jt.toInt ∧ jt.toInt < (F 27 0).toInt) ∧ ¬ ((0 ≤ jk.toInt ∧ jk.toInt ≤ 1) ∧ (0 ≤ jn.toInt ∧ jn.toInt ≤ 1000) ∧ (0 ≤ ju.toInt ∧ ju.toInt ≤ 1000000000) ∧ (0 ≤ jv.toInt ∧ jv.toInt ≤ 1000000000) ∧ ju.toInt ≤ jv.toInt) ∧ ((-2) : Int32).toInt = -2) ∨ (¬ (0 ≤ jt.toInt ∧ jt.toInt < (F 27 0).toInt) ∧ ((-2) : Int32).toInt = -1)) ∧ (F 27 0).toInt = (F 27 0).toInt ∧ (F 27 1).toInt = (F 27 1).toInt ∧ (F 27 2).toInt = (F 27 2).toInt ∧ (F 27 3).toInt = (F 27 3).toInt) by have q9 := rl_nm2; omega)⟩, ⟨by rw [ht]; exact hP, hD⟩⟩, hS.F ht⟩) hS.2.2 d_x_licence_52
  · refine lv_if_ne (tgt := 13) hx hb d_x_licence_8 (by decide) (fun c9 => absurd c9 (by decide)) (fun _ => ?_)
    refine lv_iconst (v := (-1)) hx hb d_x_licence_11 (by decide) ?_
    exact W.iret (v := (-1)) hx hb hr (fun t ht hW => ⟨⟨(-1), F, rfl, ⟨hR, (show ((0 ≤ jt.toInt ∧ jt.toInt < (F 27 0).toInt) ∧ ((0 ≤ jk.toInt ∧ jk.toInt ≤ 1) ∧ (0 ≤ jn.toInt ∧ jn.toInt ≤ 1000) ∧ (0 ≤ ju.toInt ∧ ju.toInt ≤ 1000000000) ∧ (0 ≤ jv.toInt ∧ jv.toInt ≤ 1000000000) ∧ ju.toInt ≤ jv.toInt) ∧ (F 27 2).toInt < 50 ∧ ((-1) : Int32).toInt = (F 27 2).toInt ∧ (F 27 2).toInt = (F 27 2).toInt + 1 ∧ (F 27 0).toInt = (F 27 0).toInt ∧ (F 27 1).toInt = (F 27 1).toInt ∧ (F 27 3).toInt = (F 27 3).toInt) ∨ ((((0 ≤ jt.toInt ∧ jt.toInt < (F 27 0).toInt) ∧ ((0 ≤ jk.toInt ∧ jk.toInt ≤ 1) ∧ (0 ≤ jn.toInt ∧ jn.toInt ≤ 1000) ∧ (0 ≤ ju.toInt ∧ ju.toInt ≤ 1000000000) ∧ (0 ≤ jv.toInt ∧ jv.toInt ≤ 1000000000) ∧ ju.toInt ≤ jv.toInt) ∧ 50 ≤ (F 27 2).toInt ∧ ((-1) : Int32).toInt = -4) ∨ ((0 ≤ jt.toInt ∧ jt.toInt < (F 27 0).toInt) ∧ ¬ ((0 ≤ jk.toInt ∧ jk.toInt ≤ 1) ∧ (0 ≤ jn.toInt ∧ jn.toInt ≤ 1000) ∧ (0 ≤ ju.toInt ∧ ju.toInt ≤ 1000000000) ∧ (0 ≤ jv.toInt ∧ jv.toInt ≤ 1000000000) ∧ ju.toInt ≤ jv.toInt) ∧ ((-1) : Int32).toInt = -2) ∨ (¬ (0 ≤ jt.toInt ∧ jt.toInt < (F 27 0).toInt) ∧ ((-1) : Int32).toInt = -1)) ∧ (F 27 0).toInt = (F 27 0).toInt ∧ (F 27 1).toInt = (F 27 1).toInt ∧ (F 27 2).toInt = (F 27 2).toInt ∧ (F 27 3).toInt = (F 27 3).toInt) by have q9 := rl_nm1; omega)⟩, ⟨by rw [ht]; exact hP, hD⟩⟩, hS.F ht⟩) hS.2.2 d_x_licence_12
set_option maxHeartbeats 4000000 in
set_option maxRecDepth 100000 in
theorem k_x_fee (l : Launch) (D : va_G) (a : Nat → Nat) (kI kZ : ClassId) (F : Nat → Nat → Int32) (jp jn : Int32) (hI : rl_I F) (sz : Nat) : rl_Ci (S := Nat → Nat → Int32) l ⟨"RightsLimit", "fee", "(II)I"⟩ (Cond.code ⟨"RightsLimit", "fee", "(II)I"⟩ prog_1_method_6_code 3 (some .int) :: rl_G) { frames := 2, cells := 0, slots := 0, locals := 42 } D rl_cl (rl_tys kI kZ) rl_nw [.ref (a 0), .int jp, .int jn] (rl_w a kI kZ F) sz (fun (r : Int32) (F' : Nat → Nat → Int32) => rl_R F' ∧ (((((0 ≤ jp.toInt ∧ jp.toInt ≤ 99) ∧ (0 ≤ jn.toInt ∧ jn.toInt ≤ 10000)) ∧ r.toInt = 1) ∨ (¬ ((0 ≤ jp.toInt ∧ jp.toInt ≤ 99) ∧ (0 ≤ jn.toInt ∧ jn.toInt ≤ 10000)) ∧ r.toInt = -2)) ∧ (F' 27 0).toInt = (F 27 0).toInt ∧ (F' 27 1).toInt = (F 27 1).toInt ∧ (F' 27 2).toInt = (F 27 2).toInt ∧ (F' 27 3).toInt = (F 27 3).toInt)) (fun F' => rl_w a kI kZ F') 0 0 := by
  refine rl_meti (cc := prog_1_method_6_code) (maxL := 3) (ret := (some .int)) (by decide) rfl (Nat.le_of_ble_eq_true rfl) ?_
  intro p e s m below meth c A ls hx hb hr hml hown hts hlocks hnm hP hK hD hS hA hN hl
  have hown : s.vm.findClass "RightsLimit" = some m.cls := hown
  have hG : ∀ x ∈ rl_G, x.before _ s = true := fun x h => hts x (List.mem_cons_of_mem _ h)
  have hl : lv_has ls 3 [(0, .ref (a 0)), (1, .int jp), (2, .int jn)] := hl
  obtain ⟨hcnt, hR⟩ := id hI
  refine lv_iload_n hx hb d_x_fee_0 rfl (lv_at hl 1 rfl) ?_
  refine rl_callr hS (va_runS (As := [.int jp]) (rest := []) ⟨hx, hb, hml, hown, hG⟩ (k_x_isPublisher l D a kI kZ jp _) (cwS 1 hG (rl_gS wd_197 wd_198 wd_14 wd_199) rfl rfl rfl (by decide +kernel) ⟨Nat.le_of_ble_eq_true rfl, Nat.le_of_ble_eq_true rfl⟩) (rl_BR.pre rl_nw_ok rl_P0 hK hN) rfl rfl hl.1 rfl (lv_room (Nat.le_of_ble_eq_true rfl)) d_x_fee_1 ⟨Nat.le_of_ble_eq_true rfl, Nat.le_of_ble_eq_true rfl⟩) (fun r1 locs hw hS => ?_)
  rcases hw with ⟨rfl, h2⟩ | ⟨rfl, h2⟩
  · refine lv_if_eq (tgt := 18) hx hb d_x_fee_4 (by decide) (fun c9 => absurd c9 (by decide)) (fun _ => ?_)
    refine lv_iload_n hx hb d_x_fee_7 rfl (lv_at hl 2 rfl) ?_
    refine lv_iconst (v := 0) hx hb d_x_fee_8 (by decide) ?_
    refine lv_sipush (v := 10000) hx hb d_x_fee_9 (by decide) ?_
    refine rl_callr hS (va_runS (As := [.int jn, .int 0, .int 10000]) (rest := []) ⟨hx, hb, hml, hown, hG⟩ (k_x_isBetween l D a kI kZ jn 0 10000 _) (cwS 3 hG (rl_gS wd_200 wd_201 wd_14 wd_202) rfl rfl rfl (by decide +kernel) ⟨Nat.le_of_ble_eq_true rfl, Nat.le_of_ble_eq_true rfl⟩) (rl_BR.pre rl_nw_ok rl_P0 hK hN) rfl rfl hl.1 rfl (lv_room (Nat.le_of_ble_eq_true rfl)) d_x_fee_12 ⟨Nat.le_of_ble_eq_true rfl, Nat.le_of_ble_eq_true rfl⟩) (fun r3 locs hw hS => ?_)
    try simp only [rl_n0, rl_n10000] at hw
    rcases hw with ⟨rfl, h4⟩ | ⟨rfl, h4⟩
    · refine lv_if_ne (tgt := 21) hx hb d_x_fee_15 (by decide) (fun _ => ?_) (fun c9 => absurd c9 (by decide))
      refine lv_aload_n hx hb d_x_fee_21 rfl (lv_at hl 0 rfl) ?_
      refine va_get (D := D) (ci := 0) (v := .ref (a 30)) (C := "RightsLimit") (T := fT_x) (N := 8) hx hb hG fi_x hown hK hP 0 rfl rfl 4 (by decide) (hG _ wd_172) (fun _ h9 => h9) rfl d_x_fee_22 ?_
      refine lv_iload_n hx hb d_x_fee_25 rfl (lv_at hl 1 rfl) ?_
      refine lv_iload_n hx hb d_x_fee_26 rfl (lv_at hl 2 rfl) ?_
      refine va_iast hx hb hK hP hD hS 30 0 rfl rfl (rl_in (n := 100) (by omega) (by omega)) d_x_fee_27 (fun H locs hP hD hS => ?_)
      obtain ⟨F5, eF5⟩ : ∃ G, G = rl_st F 25 jp.toNatClampNeg jn := ⟨_, rfl⟩
      have hP : va_P D rl_cl (rl_w a kI kZ F5) H := by rw [eF5]; exact hP
      have hD : va_D A (rl_w a kI kZ F5) := by rw [eF5]; exact hD
      obtain ⟨tF5, hRF5⟩ := rl_keep eF5 (by decide) (by decide) hR
      refine lv_iconst (v := 1) hx hb d_x_fee_28 (by decide) ?_
      exact W.iret (v := 1) hx hb hr (fun t ht hW => ⟨⟨1, F5, rfl, ⟨hRF5, (show ((((0 ≤ jp.toInt ∧ jp.toInt ≤ 99) ∧ (0 ≤ jn.toInt ∧ jn.toInt ≤ 10000)) ∧ (1 : Int32).toInt = 1) ∨ (¬ ((0 ≤ jp.toInt ∧ jp.toInt ≤ 99) ∧ (0 ≤ jn.toInt ∧ jn.toInt ≤ 10000)) ∧ (1 : Int32).toInt = -2)) ∧ (F5 27 0).toInt = (F 27 0).toInt ∧ (F5 27 1).toInt = (F 27 1).toInt ∧ (F5 27 2).toInt = (F 27 2).toInt ∧ (F5 27 3).toInt = (F 27 3).toInt by have q9 := rl_n1; omega)⟩, ⟨by rw [ht]; exact hP, hD⟩⟩, hS.F ht⟩) hS.2.2 d_x_fee_29
    · refine lv_if_ne (tgt := 21) hx hb d_x_fee_15 (by decide) (fun c9 => absurd c9 (by decide)) (fun _ => ?_)
      refine lv_bipush (v := (-2)) hx hb d_x_fee_18 (by decide) ?_
      exact W.iret (v := (-2)) hx hb hr (fun t ht hW => ⟨⟨(-2), F, rfl, ⟨hR, (show ((((0 ≤ jp.toInt ∧ jp.toInt ≤ 99) ∧ (0 ≤ jn.toInt ∧ jn.toInt ≤ 10000)) ∧ ((-2) : Int32).toInt = 1) ∨ (¬ ((0 ≤ jp.toInt ∧ jp.toInt ≤ 99) ∧ (0 ≤ jn.toInt ∧ jn.toInt ≤ 10000)) ∧ ((-2) : Int32).toInt = -2)) ∧ (F 27 0).toInt = (F 27 0).toInt ∧ (F 27 1).toInt = (F 27 1).toInt ∧ (F 27 2).toInt = (F 27 2).toInt ∧ (F 27 3).toInt = (F 27 3).toInt by have q9 := rl_nm2; omega)⟩, ⟨by rw [ht]; exact hP, hD⟩⟩, hS.F ht⟩) hS.2.2 d_x_fee_20
  · refine lv_if_eq (tgt := 18) hx hb d_x_fee_4 (by decide) (fun _ => ?_) (fun c9 => absurd c9 (by decide))
    refine lv_bipush (v := (-2)) hx hb d_x_fee_18 (by decide) ?_
    exact W.iret (v := (-2)) hx hb hr (fun t ht hW => ⟨⟨(-2), F, rfl, ⟨hR, (show ((((0 ≤ jp.toInt ∧ jp.toInt ≤ 99) ∧ (0 ≤ jn.toInt ∧ jn.toInt ≤ 10000)) ∧ ((-2) : Int32).toInt = 1) ∨ (¬ ((0 ≤ jp.toInt ∧ jp.toInt ≤ 99) ∧ (0 ≤ jn.toInt ∧ jn.toInt ≤ 10000)) ∧ ((-2) : Int32).toInt = -2)) ∧ (F 27 0).toInt = (F 27 0).toInt ∧ (F 27 1).toInt = (F 27 1).toInt ∧ (F 27 2).toInt = (F 27 2).toInt ∧ (F 27 3).toInt = (F 27 3).toInt by have q9 := rl_nm2; omega)⟩, ⟨by rw [ht]; exact hP, hD⟩⟩, hS.F ht⟩) hS.2.2 d_x_fee_20
set_option maxHeartbeats 4000000 in
set_option maxRecDepth 100000 in
theorem k_x_ask (l : Launch) (D : va_G) (a : Nat → Nat) (kI kZ : ClassId) (F : Nat → Nat → Int32) (jn jt jk jg ju : Int32) (hI : rl_I F) (sz : Nat) : rl_Ci (S := Nat → Nat → Int32) l ⟨"RightsLimit", "ask", "(IIIII)I"⟩ (Cond.code ⟨"RightsLimit", "ask", "(IIIII)I"⟩ prog_1_method_7_code 7 (some .int) :: rl_G) { frames := 4, cells := 0, slots := 0, locals := 99 } D rl_cl (rl_tys kI kZ) rl_nw [.ref (a 0), .int jn, .int jt, .int jk, .int jg, .int ju] (rl_w a kI kZ F) sz (fun (r : Int32) (F' : Nat → Nat → Int32) => rl_R F' ∧ ((F' 27 0).toInt = (F 27 0).toInt ∧ (F' 27 1).toInt = (F 27 1).toInt ∧ (F' 27 2).toInt = (F 27 2).toInt ∧ 0 ≤ (F' 27 3).toInt ∧ (F' 27 3).toInt ≤ 300)) (fun F' => rl_w a kI kZ F') 0 0 := by
  refine rl_meti (cc := prog_1_method_7_code) (maxL := 7) (ret := (some .int)) (by decide) rfl (Nat.le_of_ble_eq_true rfl) ?_
  intro p e s m below meth c A ls hx hb hr hml hown hts hlocks hnm hP hK hD hS hA hN hl
  have hown : s.vm.findClass "RightsLimit" = some m.cls := hown
  have hG : ∀ x ∈ rl_G, x.before _ s = true := fun x h => hts x (List.mem_cons_of_mem _ h)
  have hl : lv_has ls 7 [(0, .ref (a 0)), (1, .int jn), (2, .int jt), (3, .int jk), (4, .int jg), (5, .int ju)] := hl
  obtain ⟨hcnt, hR⟩ := id hI
  refine lv_aload_n hx hb d_x_ask_0 rfl (lv_at hl 0 rfl) ?_
  refine va_get (D := D) (ci := 0) (v := .ref (a 1)) (C := "RightsLimit") (T := fT_x) (N := 8) hx hb hG fi_x hown hK hP 0 rfl rfl 0 (by decide) (hG _ wd_168) (fun _ h9 => h9) rfl d_x_ask_1 ?_
  refine lv_iload_n hx hb d_x_ask_4 rfl (lv_at hl 2 rfl) ?_
  have hpre := rl_BR.pre (av := .ref (a 1) :: [.int jt]) rl_nw_ok hP hK hN
  refine rl_callr hS (va_runV (As := [.int jt]) (rest := []) ⟨hx, hb, hml, hown, hG⟩ (k_t_has l D a kI kZ F jt ⟨by omega, hR⟩ _) (cwV 1 hG (rl_gV wd_211 wd_212 wd_213 wd_15 wd_214) rfl rfl rfl (by decide +kernel) ⟨Nat.le_of_ble_eq_true rfl, Nat.le_of_ble_eq_true rfl⟩) ⟨hpre.1, (va_recv hK hP (ci := 1) (q0 := 1) rfl rfl), hpre.2⟩ rfl rfl hl.1 rfl (lv_room (Nat.le_of_ble_eq_true rfl)) d_x_ask_5 ⟨Nat.le_of_ble_eq_true rfl, Nat.le_of_ble_eq_true rfl⟩) (fun r1 locs hw hS => ?_)
  rcases hw with ⟨rfl, h2⟩ | ⟨rfl, h2⟩
  · refine lv_if_ne (tgt := 13) hx hb d_x_ask_8 (by decide) (fun _ => ?_) (fun c9 => absurd c9 (by decide))
    refine lv_iload_n hx hb d_x_ask_13 rfl (lv_at hl 1 rfl) ?_
    refine rl_callr hS (va_runS (As := [.int jn]) (rest := []) ⟨hx, hb, hml, hown, hG⟩ (k_x_isPerson l D a kI kZ jn _) (cwS 1 hG (rl_gS wd_252 wd_253 wd_14 wd_254) rfl rfl rfl (by decide +kernel) ⟨Nat.le_of_ble_eq_true rfl, Nat.le_of_ble_eq_true rfl⟩) (rl_BR.pre rl_nw_ok rl_P0 hK hN) rfl rfl hl.1 rfl (lv_room (Nat.le_of_ble_eq_true rfl)) d_x_ask_14 ⟨Nat.le_of_ble_eq_true rfl, Nat.le_of_ble_eq_true rfl⟩) (fun r3 locs hw hS => ?_)
    rcases hw with ⟨rfl, h4⟩ | ⟨rfl, h4⟩
    · refine lv_if_eq (tgt := 39) hx hb d_x_ask_17 (by decide) (fun c9 => absurd c9 (by decide)) (fun _ => ?_)
      refine lv_iload_n hx hb d_x_ask_20 rfl (lv_at hl 3 rfl) ?_
      refine rl_callr hS (va_runS (As := [.int jk]) (rest := []) ⟨hx, hb, hml, hown, hG⟩ (k_x_isKind l D a kI kZ jk _) (cwS 1 hG (rl_gS wd_219 wd_220 wd_14 wd_221) rfl rfl rfl (by decide +kernel) ⟨Nat.le_of_ble_eq_true rfl, Nat.le_of_ble_eq_true rfl⟩) (rl_BR.pre rl_nw_ok rl_P0 hK hN) rfl rfl hl.1 rfl (lv_room (Nat.le_of_ble_eq_true rfl)) d_x_ask_21 ⟨Nat.le_of_ble_eq_true rfl, Nat.le_of_ble_eq_true rfl⟩) (fun r5 locs hw hS => ?_)
      rcases hw with ⟨rfl, h6⟩ | ⟨rfl, h6⟩
      · refine lv_if_eq (tgt := 39) hx hb d_x_ask_24 (by decide) (fun c9 => absurd c9 (by decide)) (fun _ => ?_)
        refine lv_iload hx hb d_x_ask_27 (lv_at hl 4 rfl) ?_
        refine lv_iconst (v := 1) hx hb d_x_ask_29 (by decide) ?_
        refine lv_sipush (v := 1000) hx hb d_x_ask_30 (by decide) ?_
        refine rl_callr hS (va_runS (As := [.int jg, .int 1, .int 1000]) (rest := []) ⟨hx, hb, hml, hown, hG⟩ (k_x_isBetween l D a kI kZ jg 1 1000 _) (cwS 3 hG (rl_gS wd_200 wd_201 wd_14 wd_202) rfl rfl rfl (by decide +kernel) ⟨Nat.le_of_ble_eq_true rfl, Nat.le_of_ble_eq_true rfl⟩) (rl_BR.pre rl_nw_ok rl_P0 hK hN) rfl rfl hl.1 rfl (lv_room (Nat.le_of_ble_eq_true rfl)) d_x_ask_33 ⟨Nat.le_of_ble_eq_true rfl, Nat.le_of_ble_eq_true rfl⟩) (fun r7 locs hw hS => ?_)
        try simp only [rl_n1, rl_n1000] at hw
        rcases hw with ⟨rfl, h8⟩ | ⟨rfl, h8⟩
        · refine lv_if_ne (tgt := 42) hx hb d_x_ask_36 (by decide) (fun _ => ?_) (fun c9 => absurd c9 (by decide))
          refine lv_aload_n hx hb d_x_ask_42 rfl (lv_at hl 0 rfl) ?_
          refine lv_iload hx hb d_x_ask_43 (lv_at hl 5 rfl) ?_
          have hpre := rl_B.pre (av := .ref (a 0) :: [.int ju]) rl_nw_ok hP hK hD hN
          refine rl_calli0 hP hD hS hA (va_runV (As := [.int ju]) (rest := []) ⟨hx, hb, hml, hown, hG⟩ (k_x_goOnTo l D a kI kZ F ju ⟨by omega, hR⟩ _) (cwV 1 hG (rl_gV wd_255 wd_257 wd_0 wd_14 wd_258) rfl rfl rfl (by decide +kernel) ⟨Nat.le_of_ble_eq_true rfl, Nat.le_of_ble_eq_true rfl⟩) ⟨hpre.1, (va_recv hK hP (ci := 0) (q0 := 0) rfl rfl), hpre.2⟩ rfl rfl hl.1 rfl (lv_room (Nat.le_of_ble_eq_true rfl)) d_x_ask_45 ⟨Nat.le_of_ble_eq_true rfl, Nat.le_of_ble_eq_true rfl⟩) (fun r9 F10 H locs hw hP hD hS => ?_)
          have hP : va_P D rl_cl (rl_w a kI kZ F10) H := hP
          have hD : va_D A (rl_w a kI kZ F10) := hD
          obtain ⟨hRF10, hw⟩ := hw
          rcases hw with ⟨rfl, h11⟩ | ⟨rfl, h11⟩
          · refine lv_if_ne (tgt := 54) hx hb d_x_ask_48 (by decide) (fun _ => ?_) (fun c9 => absurd c9 (by decide))
            refine lv_aload_n hx hb d_x_ask_54 rfl (lv_at hl 0 rfl) ?_
            refine va_get (D := D) (ci := 0) (v := .ref (a 4)) (C := "RightsLimit") (T := fT_x) (N := 8) hx hb hG fi_x hown hK hP 0 rfl rfl 3 (by decide) (hG _ wd_171) (fun _ h9 => h9) rfl d_x_ask_55 ?_
            refine lv_iload_n hx hb d_x_ask_58 rfl (lv_at hl 1 rfl) ?_
            refine lv_iload_n hx hb d_x_ask_59 rfl (lv_at hl 2 rfl) ?_
            refine lv_iload_n hx hb d_x_ask_60 rfl (lv_at hl 3 rfl) ?_
            refine lv_iload hx hb d_x_ask_61 (lv_at hl 4 rfl) ?_
            refine lv_iload hx hb d_x_ask_63 (lv_at hl 5 rfl) ?_
            have hpre := rl_B.pre (av := .ref (a 4) :: [.int jn, .int jt, .int jk, .int jg, .int ju]) rl_nw_ok hP hK hD hN
            refine rl_calli0 hP hD hS hA (va_runV (As := [.int jn, .int jt, .int jk, .int jg, .int ju]) (rest := []) ⟨hx, hb, hml, hown, hG⟩ (k_q_add l D a kI kZ F10 jn jt jk jg ju ⟨by omega, hRF10⟩ _) (cwV 5 hG (rl_gV wd_259 wd_260 wd_261 wd_18 wd_262) rfl rfl rfl (by decide +kernel) ⟨Nat.le_of_ble_eq_true rfl, Nat.le_of_ble_eq_true rfl⟩) ⟨hpre.1, (va_recv hK hP (ci := 4) (q0 := 4) rfl rfl), hpre.2⟩ rfl rfl hl.1 rfl (lv_room (Nat.le_of_ble_eq_true rfl)) d_x_ask_65 ⟨Nat.le_of_ble_eq_true rfl, Nat.le_of_ble_eq_true rfl⟩) (fun r12 F13 H locs hw hP hD hS => ?_)
            have hP : va_P D rl_cl (rl_w a kI kZ F13) H := hP
            have hD : va_D A (rl_w a kI kZ F13) := hD
            obtain ⟨hRF13, hw⟩ := hw
            have hwr12 := hw
            refine lv_istore (lv' := [(6, .int r12), (0, .ref (a 0)), (1, .int jn), (2, .int jt), (3, .int jk), (4, .int jg), (5, .int ju)]) hx hb d_x_ask_68 hl (by decide) rfl (fun ls hl => ?_)
            refine lv_iload hx hb d_x_ask_70 (lv_at hl 0 rfl) ?_
            refine lv_bipush (v := (-4)) hx hb d_x_ask_72 (by decide) ?_
            refine lv_icmp_ne (tgt := 80) hx hb d_x_ask_74 (by decide) (fun c14 => ?_) (fun c14 => ?_)
            · have ic14 := rl_ine c14
              simp only [rl_nm4] at ic14
              refine lv_aload_n hx hb d_x_ask_80 rfl (lv_at hl 1 rfl) ?_
              refine lv_iload hx hb d_x_ask_81 (lv_at hl 0 rfl) ?_
              refine lv_iload_n hx hb d_x_ask_83 rfl (lv_at hl 3 rfl) ?_
              refine lv_iload_n hx hb d_x_ask_84 rfl (lv_at hl 4 rfl) ?_
              refine lv_iload hx hb d_x_ask_85 (lv_at hl 6 rfl) ?_
              have hpre := rl_B.pre (av := .ref (a 0) :: [.int r12, .int jt, .int jk, .int ju]) rl_nw_ok hP hK hD hN
              refine rl_callv0 hP hD hS hA (va_runV (As := [.int r12, .int jt, .int jk, .int ju]) (rest := []) ⟨hx, hb, hml, hown, hG⟩ (k_x_decide l D a kI kZ F13 r12 jt jk ju ⟨by omega, hRF13⟩ (by omega) (by omega) (by omega) (by omega) _) (cwV 4 hG (rl_gV wd_263 wd_265 wd_1 wd_14 wd_266) rfl rfl rfl (by decide +kernel) ⟨Nat.le_of_ble_eq_true rfl, Nat.le_of_ble_eq_true rfl⟩) ⟨hpre.1, (va_recv hK hP (ci := 0) (q0 := 0) rfl rfl), hpre.2⟩ rfl rfl hl.1 rfl (lv_room (Nat.le_of_ble_eq_true rfl)) d_x_ask_87 ⟨Nat.le_of_ble_eq_true rfl, Nat.le_of_ble_eq_true rfl⟩) (fun F16 H locs hw hP hD hS => ?_)
              have hP : va_P D rl_cl (rl_w a kI kZ F16) H := hP
              have hD : va_D A (rl_w a kI kZ F16) := hD
              obtain ⟨hRF16, hw⟩ := hw
              have g17 := hw
              refine lv_aload_n hx hb d_x_ask_90 rfl (lv_at hl 1 rfl) ?_
              refine va_get (D := D) (ci := 0) (v := .ref (a 4)) (C := "RightsLimit") (T := fT_x) (N := 8) hx hb hG fi_x hown hK hP 0 rfl rfl 3 (by decide) (hG _ wd_171) (fun _ h9 => h9) rfl d_x_ask_91 ?_
              refine lv_iload hx hb d_x_ask_94 (lv_at hl 0 rfl) ?_
              have hpre := rl_BR.pre (av := .ref (a 4) :: [.int r12]) rl_nw_ok hP hK hN
              refine rl_callr hS (va_runV (As := [.int r12]) (rest := []) ⟨hx, hb, hml, hown, hG⟩ (k_q_isCopy l D a kI kZ F16 r12 ⟨by omega, hRF16⟩ (by omega) (by omega) _) (cwV 1 hG (rl_gV wd_303 wd_304 wd_305 wd_18 wd_306) rfl rfl rfl (by decide +kernel) ⟨Nat.le_of_ble_eq_true rfl, Nat.le_of_ble_eq_true rfl⟩) ⟨hpre.1, (va_recv hK hP (ci := 4) (q0 := 4) rfl rfl), hpre.2⟩ rfl rfl hl.1 rfl (lv_room (Nat.le_of_ble_eq_true rfl)) d_x_ask_96 ⟨Nat.le_of_ble_eq_true rfl, Nat.le_of_ble_eq_true rfl⟩) (fun r18 locs hw hS => ?_)
              rcases hw with ⟨rfl, h19⟩ | ⟨rfl, h19⟩
              · refine lv_if_eq (tgt := 107) hx hb d_x_ask_99 (by decide) (fun c9 => absurd c9 (by decide)) (fun _ => ?_)
                refine lv_iload hx hb d_x_ask_102 (lv_at hl 0 rfl) ?_
                refine lv_goto (tgt := 112) hx hb d_x_ask_104 (by decide) ?_
                exact W.iret (v := r12) hx hb hr (fun t ht hW => ⟨⟨r12, F16, rfl, ⟨hRF16, (show (F16 27 0).toInt = (F 27 0).toInt ∧ (F16 27 1).toInt = (F 27 1).toInt ∧ (F16 27 2).toInt = (F 27 2).toInt ∧ 0 ≤ (F16 27 3).toInt ∧ (F16 27 3).toInt ≤ 300 by omega)⟩, ⟨by rw [ht]; exact hP, hD⟩⟩, hS.F ht⟩) hS.2.2 d_x_ask_112
              · refine lv_if_eq (tgt := 107) hx hb d_x_ask_99 (by decide) (fun _ => ?_) (fun c9 => absurd c9 (by decide))
                refine lv_bipush (v := (-10)) hx hb d_x_ask_107 (by decide) ?_
                refine lv_iload hx hb d_x_ask_109 (lv_at hl 0 rfl) ?_
                refine lv_isub hx hb d_x_ask_111 ?_
                refine lv_topi (fun v20 ev20 => ?_)
                exact W.iret (v := v20) hx hb hr (fun t ht hW => ⟨⟨v20, F16, rfl, ⟨hRF16, (show (F16 27 0).toInt = (F 27 0).toInt ∧ (F16 27 1).toInt = (F 27 1).toInt ∧ (F16 27 2).toInt = (F 27 2).toInt ∧ 0 ≤ (F16 27 3).toInt ∧ (F16 27 3).toInt ≤ 300 by omega)⟩, ⟨by rw [ht]; exact hP, hD⟩⟩, hS.F ht⟩) hS.2.2 d_x_ask_112
            · have ic14 := rl_ieq c14
              simp only [rl_nm4] at ic14
              refine lv_bipush (v := (-4)) hx hb d_x_ask_77 (by decide) ?_
              exact W.iret (v := (-4)) hx hb hr (fun t ht hW => ⟨⟨(-4), F13, rfl, ⟨hRF13, (show (F13 27 0).toInt = (F 27 0).toInt ∧ (F13 27 1).toInt = (F 27 1).toInt ∧ (F13 27 2).toInt = (F 27 2).toInt ∧ 0 ≤ (F13 27 3).toInt ∧ (F13 27 3).toInt ≤ 300 by have q9 := rl_nm4; omega)⟩, ⟨by rw [ht]; exact hP, hD⟩⟩, hS.F ht⟩) hS.2.2 d_x_ask_79
          · refine lv_if_ne (tgt := 54) hx hb d_x_ask_48 (by decide) (fun c9 => absurd c9 (by decide)) (fun _ => ?_)
            refine lv_bipush (v := (-2)) hx hb d_x_ask_51 (by decide) ?_
            exact W.iret (v := (-2)) hx hb hr (fun t ht hW => ⟨⟨(-2), F10, rfl, ⟨hRF10, (show (F10 27 0).toInt = (F 27 0).toInt ∧ (F10 27 1).toInt = (F 27 1).toInt ∧ (F10 27 2).toInt = (F 27 2).toInt ∧ 0 ≤ (F10 27 3).toInt ∧ (F10 27 3).toInt ≤ 300 by have q9 := rl_nm2; omega)⟩, ⟨by rw [ht]; exact hP, hD⟩⟩, hS.F ht⟩) hS.2.2 d_x_ask_53
        · refine lv_if_ne (tgt := 42) hx hb d_x_ask_36 (by decide) (fun c9 => absurd c9 (by decide)) (fun _ => ?_)
          refine lv_bipush (v := (-2)) hx hb d_x_ask_39 (by decide) ?_
          exact W.iret (v := (-2)) hx hb hr (fun t ht hW => ⟨⟨(-2), F, rfl, ⟨hR, (show (F 27 0).toInt = (F 27 0).toInt ∧ (F 27 1).toInt = (F 27 1).toInt ∧ (F 27 2).toInt = (F 27 2).toInt ∧ 0 ≤ (F 27 3).toInt ∧ (F 27 3).toInt ≤ 300 by have q9 := rl_nm2; omega)⟩, ⟨by rw [ht]; exact hP, hD⟩⟩, hS.F ht⟩) hS.2.2 d_x_ask_41
      · refine lv_if_eq (tgt := 39) hx hb d_x_ask_24 (by decide) (fun _ => ?_) (fun c9 => absurd c9 (by decide))
        refine lv_bipush (v := (-2)) hx hb d_x_ask_39 (by decide) ?_
        exact W.iret (v := (-2)) hx hb hr (fun t ht hW => ⟨⟨(-2), F, rfl, ⟨hR, (show (F 27 0).toInt = (F 27 0).toInt ∧ (F 27 1).toInt = (F 27 1).toInt ∧ (F 27 2).toInt = (F 27 2).toInt ∧ 0 ≤ (F 27 3).toInt ∧ (F 27 3).toInt ≤ 300 by have q9 := rl_nm2; omega)⟩, ⟨by rw [ht]; exact hP, hD⟩⟩, hS.F ht⟩) hS.2.2 d_x_ask_41
    · refine lv_if_eq (tgt := 39) hx hb d_x_ask_17 (by decide) (fun _ => ?_) (fun c9 => absurd c9 (by decide))
      refine lv_bipush (v := (-2)) hx hb d_x_ask_39 (by decide) ?_
      exact W.iret (v := (-2)) hx hb hr (fun t ht hW => ⟨⟨(-2), F, rfl, ⟨hR, (show (F 27 0).toInt = (F 27 0).toInt ∧ (F 27 1).toInt = (F 27 1).toInt ∧ (F 27 2).toInt = (F 27 2).toInt ∧ 0 ≤ (F 27 3).toInt ∧ (F 27 3).toInt ≤ 300 by have q9 := rl_nm2; omega)⟩, ⟨by rw [ht]; exact hP, hD⟩⟩, hS.F ht⟩) hS.2.2 d_x_ask_41
  · refine lv_if_ne (tgt := 13) hx hb d_x_ask_8 (by decide) (fun c9 => absurd c9 (by decide)) (fun _ => ?_)
    refine lv_iconst (v := (-1)) hx hb d_x_ask_11 (by decide) ?_
    exact W.iret (v := (-1)) hx hb hr (fun t ht hW => ⟨⟨(-1), F, rfl, ⟨hR, (show (F 27 0).toInt = (F 27 0).toInt ∧ (F 27 1).toInt = (F 27 1).toInt ∧ (F 27 2).toInt = (F 27 2).toInt ∧ 0 ≤ (F 27 3).toInt ∧ (F 27 3).toInt ≤ 300 by have q9 := rl_nm1; omega)⟩, ⟨by rw [ht]; exact hP, hD⟩⟩, hS.F ht⟩) hS.2.2 d_x_ask_12
set_option maxHeartbeats 4000000 in
set_option maxRecDepth 100000 in
theorem k_x_why (l : Launch) (D : va_G) (a : Nat → Nat) (kI kZ : ClassId) (F : Nat → Nat → Int32) (hI : rl_I F) (H0 : Heap) : rl_Ri l ⟨"RightsLimit", "why", "()I"⟩ (Cond.code ⟨"RightsLimit", "why", "()I"⟩ prog_1_method_8_code 1 (some .int) :: rl_G) { frames := 0, cells := 0, slots := 0, locals := 0 } D rl_cl (rl_tys kI kZ) rl_nw [.ref (a 0)] (rl_w a kI kZ F) H0 (fun (r : Int32) => True) := by
  refine rl_metr (cc := prog_1_method_8_code) (maxL := 1) (ret := (some .int)) (by decide) rfl (Nat.le_of_ble_eq_true rfl) ?_
  intro p e s m below meth c ls hx hb hr hml hown hts hlocks hP hK hS hN hl
  have hown : s.vm.findClass "RightsLimit" = some m.cls := hown
  have hG : ∀ x ∈ rl_G, x.before _ s = true := fun x h => hts x (List.mem_cons_of_mem _ h)
  have hl : lv_has ls 1 [(0, .ref (a 0))] := hl
  obtain ⟨hcnt, hR⟩ := id hI
  refine lv_aload_n hx hb d_x_why_0 rfl (lv_at hl 0 rfl) ?_
  refine va_get (D := D) (ci := 0) (v := .int (F 27 5)) (C := "RightsLimit") (T := fT_x) (N := 8) hx hb hG fi_x hown hK hP 0 rfl rfl 7 (by decide) (hG _ wd_175) (fun _ h9 => h9) rfl d_x_why_1 ?_
  exact W.iret (v := (F 27 5)) hx hb hr (fun t ht hW => ⟨⟨(F 27 5), (), rfl, trivial, ht⟩, hS.F ht⟩) hS.2.2 d_x_why_4
set_option maxHeartbeats 4000000 in
set_option maxRecDepth 100000 in
theorem k_x_give (l : Launch) (D : va_G) (a : Nat → Nat) (kI kZ : ClassId) (F : Nat → Nat → Int32) (jn jg jb : Int32) (hI : rl_I F) (sz : Nat) : rl_Ci (S := Nat → Nat → Int32) l ⟨"RightsLimit", "give", "(IIZ)I"⟩ (Cond.code ⟨"RightsLimit", "give", "(IIZ)I"⟩ prog_1_method_9_code 5 (some .int) :: rl_G) { frames := 2, cells := 0, slots := 0, locals := 42 } D rl_cl (rl_tys kI kZ) rl_nw [.ref (a 0), .int jn, .int jg, .int jb] (rl_w a kI kZ F) sz (fun (r : Int32) (F' : Nat → Nat → Int32) => rl_R F' ∧ (((((0 ≤ jn.toInt ∧ jn.toInt ≤ 99) ∧ (1 ≤ jg.toInt ∧ jg.toInt ≤ 9)) ∧ r.toInt = 1) ∨ (¬ ((0 ≤ jn.toInt ∧ jn.toInt ≤ 99) ∧ (1 ≤ jg.toInt ∧ jg.toInt ≤ 9)) ∧ r.toInt = -2)) ∧ (F' 27 0).toInt = (F 27 0).toInt ∧ (F' 27 1).toInt = (F 27 1).toInt ∧ (F' 27 2).toInt = (F 27 2).toInt ∧ (F' 27 3).toInt = (F 27 3).toInt)) (fun F' => rl_w a kI kZ F') 0 0 := by
  refine rl_meti (cc := prog_1_method_9_code) (maxL := 5) (ret := (some .int)) (by decide) rfl (Nat.le_of_ble_eq_true rfl) ?_
  intro p e s m below meth c A ls hx hb hr hml hown hts hlocks hnm hP hK hD hS hA hN hl
  have hown : s.vm.findClass "RightsLimit" = some m.cls := hown
  have hG : ∀ x ∈ rl_G, x.before _ s = true := fun x h => hts x (List.mem_cons_of_mem _ h)
  have hl : lv_has ls 5 [(0, .ref (a 0)), (1, .int jn), (2, .int jg), (3, .int jb)] := hl
  obtain ⟨hcnt, hR⟩ := id hI
  refine lv_iload_n hx hb d_x_give_0 rfl (lv_at hl 1 rfl) ?_
  refine rl_callr hS (va_runS (As := [.int jn]) (rest := []) ⟨hx, hb, hml, hown, hG⟩ (k_x_isPerson l D a kI kZ jn _) (cwS 1 hG (rl_gS wd_252 wd_253 wd_14 wd_254) rfl rfl rfl (by decide +kernel) ⟨Nat.le_of_ble_eq_true rfl, Nat.le_of_ble_eq_true rfl⟩) (rl_BR.pre rl_nw_ok rl_P0 hK hN) rfl rfl hl.1 rfl (lv_room (Nat.le_of_ble_eq_true rfl)) d_x_give_1 ⟨Nat.le_of_ble_eq_true rfl, Nat.le_of_ble_eq_true rfl⟩) (fun r1 locs hw hS => ?_)
  rcases hw with ⟨rfl, h2⟩ | ⟨rfl, h2⟩
  · refine lv_if_eq (tgt := 17) hx hb d_x_give_4 (by decide) (fun c9 => absurd c9 (by decide)) (fun _ => ?_)
    refine lv_iload_n hx hb d_x_give_7 rfl (lv_at hl 2 rfl) ?_
    refine lv_iconst (v := 1) hx hb d_x_give_8 (by decide) ?_
    refine lv_bipush (v := 9) hx hb d_x_give_9 (by decide) ?_
    refine rl_callr hS (va_runS (As := [.int jg, .int 1, .int 9]) (rest := []) ⟨hx, hb, hml, hown, hG⟩ (k_x_isBetween l D a kI kZ jg 1 9 _) (cwS 3 hG (rl_gS wd_200 wd_201 wd_14 wd_202) rfl rfl rfl (by decide +kernel) ⟨Nat.le_of_ble_eq_true rfl, Nat.le_of_ble_eq_true rfl⟩) (rl_BR.pre rl_nw_ok rl_P0 hK hN) rfl rfl hl.1 rfl (lv_room (Nat.le_of_ble_eq_true rfl)) d_x_give_11 ⟨Nat.le_of_ble_eq_true rfl, Nat.le_of_ble_eq_true rfl⟩) (fun r3 locs hw hS => ?_)
    try simp only [rl_n1, rl_n9] at hw
    rcases hw with ⟨rfl, h4⟩ | ⟨rfl, h4⟩
    · refine lv_if_ne (tgt := 20) hx hb d_x_give_14 (by decide) (fun _ => ?_) (fun c9 => absurd c9 (by decide))
      refine lv_iconst (v := 1) hx hb d_x_give_20 (by decide) ?_
      refine lv_iload_n hx hb d_x_give_21 rfl (lv_at hl 2 rfl) ?_
      refine lv_ishl hx hb d_x_give_22 ?_
      refine lv_topi (fun v5 ev5 => ?_)
      refine lv_istore (lv' := [(4, .int v5), (0, .ref (a 0)), (1, .int jn), (2, .int jg), (3, .int jb)]) hx hb d_x_give_23 hl (by decide) rfl (fun ls hl => ?_)
      refine lv_iload_n hx hb d_x_give_25 rfl (lv_at hl 4 rfl) ?_
      refine lv_if_eq (tgt := 43) hx hb d_x_give_26 (by decide) (fun c6 => ?_) (fun c6 => ?_)
      · have ic6 := rl_ieq c6
        simp only [rl_n0] at ic6
        refine lv_aload_n hx hb d_x_give_43 rfl (lv_at hl 1 rfl) ?_
        refine va_get (D := D) (ci := 0) (v := .ref (a 31)) (C := "RightsLimit") (T := fT_x) (N := 8) hx hb hG fi_x hown hK hP 0 rfl rfl 5 (by decide) (hG _ wd_173) (fun _ h9 => h9) rfl d_x_give_44 ?_
        refine lv_iload_n hx hb d_x_give_47 rfl (lv_at hl 2 rfl) ?_
        refine lv_dup2_11 hx hb d_x_give_48 rfl rfl ?_
        refine va_iald hx hb hK hP 31 0 rfl rfl (rl_in (n := 100) (by omega) (by omega)) d_x_give_49 ?_
        refine lv_topi (fun v7 ev7 => ?_)
        refine lv_iload hx hb d_x_give_50 (lv_at hl 0 rfl) ?_
        refine lv_iconst (v := (-1)) hx hb d_x_give_52 (by decide) ?_
        refine lv_ixor hx hb d_x_give_53 ?_
        refine lv_topi (fun v8 ev8 => ?_)
        refine lv_iand hx hb d_x_give_54 ?_
        refine lv_topi (fun v9 ev9 => ?_)
        refine va_iast hx hb hK hP hD hS 31 0 rfl rfl (rl_in (n := 100) (by omega) (by omega)) d_x_give_55 (fun H locs hP hD hS => ?_)
        obtain ⟨F10, eF10⟩ : ∃ G, G = rl_st F 26 jn.toNatClampNeg v9 := ⟨_, rfl⟩
        have hP : va_P D rl_cl (rl_w a kI kZ F10) H := by rw [eF10]; exact hP
        have hD : va_D A (rl_w a kI kZ F10) := by rw [eF10]; exact hD
        obtain ⟨tF10, hRF10⟩ := rl_keep eF10 (by decide) (by decide) hR
        refine lv_iconst (v := 1) hx hb d_x_give_56 (by decide) ?_
        exact W.iret (v := 1) hx hb hr (fun t ht hW => ⟨⟨1, F10, rfl, ⟨hRF10, (show ((((0 ≤ jn.toInt ∧ jn.toInt ≤ 99) ∧ (1 ≤ jg.toInt ∧ jg.toInt ≤ 9)) ∧ (1 : Int32).toInt = 1) ∨ (¬ ((0 ≤ jn.toInt ∧ jn.toInt ≤ 99) ∧ (1 ≤ jg.toInt ∧ jg.toInt ≤ 9)) ∧ (1 : Int32).toInt = -2)) ∧ (F10 27 0).toInt = (F 27 0).toInt ∧ (F10 27 1).toInt = (F 27 1).toInt ∧ (F10 27 2).toInt = (F 27 2).toInt ∧ (F10 27 3).toInt = (F 27 3).toInt by have q9 := rl_n1; omega)⟩, ⟨by rw [ht]; exact hP, hD⟩⟩, hS.F ht⟩) hS.2.2 d_x_give_57
      · have ic6 := rl_ine c6
        simp only [rl_n0] at ic6
        refine lv_aload_n hx hb d_x_give_29 rfl (lv_at hl 1 rfl) ?_
        refine va_get (D := D) (ci := 0) (v := .ref (a 31)) (C := "RightsLimit") (T := fT_x) (N := 8) hx hb hG fi_x hown hK hP 0 rfl rfl 5 (by decide) (hG _ wd_173) (fun _ h9 => h9) rfl d_x_give_30 ?_
        refine lv_iload_n hx hb d_x_give_33 rfl (lv_at hl 2 rfl) ?_
        refine lv_dup2_11 hx hb d_x_give_34 rfl rfl ?_
        refine va_iald hx hb hK hP 31 0 rfl rfl (rl_in (n := 100) (by omega) (by omega)) d_x_give_35 ?_
        refine lv_topi (fun v11 ev11 => ?_)
        refine lv_iload hx hb d_x_give_36 (lv_at hl 0 rfl) ?_
        refine lv_ior hx hb d_x_give_38 ?_
        refine lv_topi (fun v12 ev12 => ?_)
        refine va_iast hx hb hK hP hD hS 31 0 rfl rfl (rl_in (n := 100) (by omega) (by omega)) d_x_give_39 (fun H locs hP hD hS => ?_)
        obtain ⟨F13, eF13⟩ : ∃ G, G = rl_st F 26 jn.toNatClampNeg v12 := ⟨_, rfl⟩
        have hP : va_P D rl_cl (rl_w a kI kZ F13) H := by rw [eF13]; exact hP
        have hD : va_D A (rl_w a kI kZ F13) := by rw [eF13]; exact hD
        obtain ⟨tF13, hRF13⟩ := rl_keep eF13 (by decide) (by decide) hR
        refine lv_goto (tgt := 56) hx hb d_x_give_40 (by decide) ?_
        refine lv_iconst (v := 1) hx hb d_x_give_56 (by decide) ?_
        exact W.iret (v := 1) hx hb hr (fun t ht hW => ⟨⟨1, F13, rfl, ⟨hRF13, (show ((((0 ≤ jn.toInt ∧ jn.toInt ≤ 99) ∧ (1 ≤ jg.toInt ∧ jg.toInt ≤ 9)) ∧ (1 : Int32).toInt = 1) ∨ (¬ ((0 ≤ jn.toInt ∧ jn.toInt ≤ 99) ∧ (1 ≤ jg.toInt ∧ jg.toInt ≤ 9)) ∧ (1 : Int32).toInt = -2)) ∧ (F13 27 0).toInt = (F 27 0).toInt ∧ (F13 27 1).toInt = (F 27 1).toInt ∧ (F13 27 2).toInt = (F 27 2).toInt ∧ (F13 27 3).toInt = (F 27 3).toInt by have q9 := rl_n1; omega)⟩, ⟨by rw [ht]; exact hP, hD⟩⟩, hS.F ht⟩) hS.2.2 d_x_give_57
    · refine lv_if_ne (tgt := 20) hx hb d_x_give_14 (by decide) (fun c9 => absurd c9 (by decide)) (fun _ => ?_)
      refine lv_bipush (v := (-2)) hx hb d_x_give_17 (by decide) ?_
      exact W.iret (v := (-2)) hx hb hr (fun t ht hW => ⟨⟨(-2), F, rfl, ⟨hR, (show ((((0 ≤ jn.toInt ∧ jn.toInt ≤ 99) ∧ (1 ≤ jg.toInt ∧ jg.toInt ≤ 9)) ∧ ((-2) : Int32).toInt = 1) ∨ (¬ ((0 ≤ jn.toInt ∧ jn.toInt ≤ 99) ∧ (1 ≤ jg.toInt ∧ jg.toInt ≤ 9)) ∧ ((-2) : Int32).toInt = -2)) ∧ (F 27 0).toInt = (F 27 0).toInt ∧ (F 27 1).toInt = (F 27 1).toInt ∧ (F 27 2).toInt = (F 27 2).toInt ∧ (F 27 3).toInt = (F 27 3).toInt by have q9 := rl_nm2; omega)⟩, ⟨by rw [ht]; exact hP, hD⟩⟩, hS.F ht⟩) hS.2.2 d_x_give_19
  · refine lv_if_eq (tgt := 17) hx hb d_x_give_4 (by decide) (fun _ => ?_) (fun c9 => absurd c9 (by decide))
    refine lv_bipush (v := (-2)) hx hb d_x_give_17 (by decide) ?_
    exact W.iret (v := (-2)) hx hb hr (fun t ht hW => ⟨⟨(-2), F, rfl, ⟨hR, (show ((((0 ≤ jn.toInt ∧ jn.toInt ≤ 99) ∧ (1 ≤ jg.toInt ∧ jg.toInt ≤ 9)) ∧ ((-2) : Int32).toInt = 1) ∨ (¬ ((0 ≤ jn.toInt ∧ jn.toInt ≤ 99) ∧ (1 ≤ jg.toInt ∧ jg.toInt ≤ 9)) ∧ ((-2) : Int32).toInt = -2)) ∧ (F 27 0).toInt = (F 27 0).toInt ∧ (F 27 1).toInt = (F 27 1).toInt ∧ (F 27 2).toInt = (F 27 2).toInt ∧ (F 27 3).toInt = (F 27 3).toInt by have q9 := rl_nm2; omega)⟩, ⟨by rw [ht]; exact hP, hD⟩⟩, hS.F ht⟩) hS.2.2 d_x_give_19
set_option maxHeartbeats 4000000 in
set_option maxRecDepth 100000 in
theorem k_x_right (l : Launch) (D : va_G) (a : Nat → Nat) (kI kZ : ClassId) (F : Nat → Nat → Int32) (jt jg : Int32) (hI : rl_I F) (sz : Nat) : rl_Ci (S := Nat → Nat → Int32) l ⟨"RightsLimit", "right", "(II)I"⟩ (Cond.code ⟨"RightsLimit", "right", "(II)I"⟩ prog_1_method_10_code 3 (some .int) :: rl_G) { frames := 1, cells := 0, slots := 0, locals := 22 } D rl_cl (rl_tys kI kZ) rl_nw [.ref (a 0), .int jt, .int jg] (rl_w a kI kZ F) sz (fun (r : Int32) (F' : Nat → Nat → Int32) => rl_R F' ∧ ((((0 ≤ jt.toInt ∧ jt.toInt < (F 27 0).toInt) ∧ (0 ≤ jg.toInt ∧ jg.toInt ≤ 9) ∧ r.toInt = 1) ∨ ((0 ≤ jt.toInt ∧ jt.toInt < (F 27 0).toInt) ∧ ¬ (0 ≤ jg.toInt ∧ jg.toInt ≤ 9) ∧ r.toInt = -2) ∨ (¬ (0 ≤ jt.toInt ∧ jt.toInt < (F 27 0).toInt) ∧ r.toInt = -1)) ∧ (F' 27 0).toInt = (F 27 0).toInt ∧ (F' 27 1).toInt = (F 27 1).toInt ∧ (F' 27 2).toInt = (F 27 2).toInt ∧ (F' 27 3).toInt = (F 27 3).toInt)) (fun F' => rl_w a kI kZ F') 0 0 := by
  refine rl_meti (cc := prog_1_method_10_code) (maxL := 3) (ret := (some .int)) (by decide) rfl (Nat.le_of_ble_eq_true rfl) ?_
  intro p e s m below meth c A ls hx hb hr hml hown hts hlocks hnm hP hK hD hS hA hN hl
  have hown : s.vm.findClass "RightsLimit" = some m.cls := hown
  have hG : ∀ x ∈ rl_G, x.before _ s = true := fun x h => hts x (List.mem_cons_of_mem _ h)
  have hl : lv_has ls 3 [(0, .ref (a 0)), (1, .int jt), (2, .int jg)] := hl
  obtain ⟨hcnt, hR⟩ := id hI
  refine lv_aload_n hx hb d_x_right_0 rfl (lv_at hl 0 rfl) ?_
  refine va_get (D := D) (ci := 0) (v := .ref (a 1)) (C := "RightsLimit") (T := fT_x) (N := 8) hx hb hG fi_x hown hK hP 0 rfl rfl 0 (by decide) (hG _ wd_168) (fun _ h9 => h9) rfl d_x_right_1 ?_
  refine lv_iload_n hx hb d_x_right_4 rfl (lv_at hl 1 rfl) ?_
  have hpre := rl_BR.pre (av := .ref (a 1) :: [.int jt]) rl_nw_ok hP hK hN
  refine rl_callr hS (va_runV (As := [.int jt]) (rest := []) ⟨hx, hb, hml, hown, hG⟩ (k_t_has l D a kI kZ F jt ⟨by omega, hR⟩ _) (cwV 1 hG (rl_gV wd_211 wd_212 wd_213 wd_15 wd_214) rfl rfl rfl (by decide +kernel) ⟨Nat.le_of_ble_eq_true rfl, Nat.le_of_ble_eq_true rfl⟩) ⟨hpre.1, (va_recv hK hP (ci := 1) (q0 := 1) rfl rfl), hpre.2⟩ rfl rfl hl.1 rfl (lv_room (Nat.le_of_ble_eq_true rfl)) d_x_right_5 ⟨Nat.le_of_ble_eq_true rfl, Nat.le_of_ble_eq_true rfl⟩) (fun r1 locs hw hS => ?_)
  rcases hw with ⟨rfl, h2⟩ | ⟨rfl, h2⟩
  · refine lv_if_ne (tgt := 13) hx hb d_x_right_8 (by decide) (fun _ => ?_) (fun c9 => absurd c9 (by decide))
    refine lv_iload_n hx hb d_x_right_13 rfl (lv_at hl 2 rfl) ?_
    refine lv_iconst (v := 0) hx hb d_x_right_14 (by decide) ?_
    refine lv_bipush (v := 9) hx hb d_x_right_15 (by decide) ?_
    refine rl_callr hS (va_runS (As := [.int jg, .int 0, .int 9]) (rest := []) ⟨hx, hb, hml, hown, hG⟩ (k_x_isBetween l D a kI kZ jg 0 9 _) (cwS 3 hG (rl_gS wd_200 wd_201 wd_14 wd_202) rfl rfl rfl (by decide +kernel) ⟨Nat.le_of_ble_eq_true rfl, Nat.le_of_ble_eq_true rfl⟩) (rl_BR.pre rl_nw_ok rl_P0 hK hN) rfl rfl hl.1 rfl (lv_room (Nat.le_of_ble_eq_true rfl)) d_x_right_17 ⟨Nat.le_of_ble_eq_true rfl, Nat.le_of_ble_eq_true rfl⟩) (fun r3 locs hw hS => ?_)
    try simp only [rl_n0, rl_n9] at hw
    rcases hw with ⟨rfl, h4⟩ | ⟨rfl, h4⟩
    · refine lv_if_ne (tgt := 26) hx hb d_x_right_20 (by decide) (fun _ => ?_) (fun c9 => absurd c9 (by decide))
      refine lv_aload_n hx hb d_x_right_26 rfl (lv_at hl 0 rfl) ?_
      refine va_get (D := D) (ci := 0) (v := .ref (a 1)) (C := "RightsLimit") (T := fT_x) (N := 8) hx hb hG fi_x hown hK hP 0 rfl rfl 0 (by decide) (hG _ wd_168) (fun _ h9 => h9) rfl d_x_right_27 ?_
      refine va_get (D := D) (ci := 1) (v := .ref (a 7)) (C := "RightsLimit$Titles") (T := fT_t) (N := 5) hx hb hG fi_t hown hK hP 1 rfl rfl 2 (by decide) (hG _ wd_43) (fun _ h9 => h9) rfl d_x_right_30 ?_
      refine lv_iload_n hx hb d_x_right_33 rfl (lv_at hl 1 rfl) ?_
      refine lv_iload_n hx hb d_x_right_34 rfl (lv_at hl 2 rfl) ?_
      refine va_iast hx hb hK hP hD hS 7 0 rfl rfl (rl_in (n := 50) (by omega) (by omega)) d_x_right_35 (fun H locs hP hD hS => ?_)
      obtain ⟨F5, eF5⟩ : ∃ G, G = rl_st F 2 jt.toNatClampNeg jg := ⟨_, rfl⟩
      have hP : va_P D rl_cl (rl_w a kI kZ F5) H := by rw [eF5]; exact hP
      have hD : va_D A (rl_w a kI kZ F5) := by rw [eF5]; exact hD
      obtain ⟨tF5, hRF5⟩ := rl_keep eF5 (by decide) (by decide) hR
      refine lv_iconst (v := 1) hx hb d_x_right_36 (by decide) ?_
      exact W.iret (v := 1) hx hb hr (fun t ht hW => ⟨⟨1, F5, rfl, ⟨hRF5, (show (((0 ≤ jt.toInt ∧ jt.toInt < (F 27 0).toInt) ∧ (0 ≤ jg.toInt ∧ jg.toInt ≤ 9) ∧ (1 : Int32).toInt = 1) ∨ ((0 ≤ jt.toInt ∧ jt.toInt < (F 27 0).toInt) ∧ ¬ (0 ≤ jg.toInt ∧ jg.toInt ≤ 9) ∧ (1 : Int32).toInt = -2) ∨ (¬ (0 ≤ jt.toInt ∧ jt.toInt < (F 27 0).toInt) ∧ (1 : Int32).toInt = -1)) ∧ (F5 27 0).toInt = (F 27 0).toInt ∧ (F5 27 1).toInt = (F 27 1).toInt ∧ (F5 27 2).toInt = (F 27 2).toInt ∧ (F5 27 3).toInt = (F 27 3).toInt by have q9 := rl_n1; omega)⟩, ⟨by rw [ht]; exact hP, hD⟩⟩, hS.F ht⟩) hS.2.2 d_x_right_37
    · refine lv_if_ne (tgt := 26) hx hb d_x_right_20 (by decide) (fun c9 => absurd c9 (by decide)) (fun _ => ?_)
      refine lv_bipush (v := (-2)) hx hb d_x_right_23 (by decide) ?_
      exact W.iret (v := (-2)) hx hb hr (fun t ht hW => ⟨⟨(-2), F, rfl, ⟨hR, (show (((0 ≤ jt.toInt ∧ jt.toInt < (F 27 0).toInt) ∧ (0 ≤ jg.toInt ∧ jg.toInt ≤ 9) ∧ ((-2) : Int32).toInt = 1) ∨ ((0 ≤ jt.toInt ∧ jt.toInt < (F 27 0).toInt) ∧ ¬ (0 ≤ jg.toInt ∧ jg.toInt ≤ 9) ∧ ((-2) : Int32).toInt = -2) ∨ (¬ (0 ≤ jt.toInt ∧ jt.toInt < (F 27 0).toInt) ∧ ((-2) : Int32).toInt = -1)) ∧ (F 27 0).toInt = (F 27 0).toInt ∧ (F 27 1).toInt = (F 27 1).toInt ∧ (F 27 2).toInt = (F 27 2).toInt ∧ (F 27 3).toInt = (F 27 3).toInt by have q9 := rl_nm2; omega)⟩, ⟨by rw [ht]; exact hP, hD⟩⟩, hS.F ht⟩) hS.2.2 d_x_right_25
  · refine lv_if_ne (tgt := 13) hx hb d_x_right_8 (by decide) (fun c9 => absurd c9 (by decide)) (fun _ => ?_)
    refine lv_iconst (v := (-1)) hx hb d_x_right_11 (by decide) ?_
    exact W.iret (v := (-1)) hx hb hr (fun t ht hW => ⟨⟨(-1), F, rfl, ⟨hR, (show (((0 ≤ jt.toInt ∧ jt.toInt < (F 27 0).toInt) ∧ (0 ≤ jg.toInt ∧ jg.toInt ≤ 9) ∧ ((-1) : Int32).toInt = 1) ∨ ((0 ≤ jt.toInt ∧ jt.toInt < (F 27 0).toInt) ∧ ¬ (0 ≤ jg.toInt ∧ jg.toInt ≤ 9) ∧ ((-1) : Int32).toInt = -2) ∨ (¬ (0 ≤ jt.toInt ∧ jt.toInt < (F 27 0).toInt) ∧ ((-1) : Int32).toInt = -1)) ∧ (F 27 0).toInt = (F 27 0).toInt ∧ (F 27 1).toInt = (F 27 1).toInt ∧ (F 27 2).toInt = (F 27 2).toInt ∧ (F 27 3).toInt = (F 27 3).toInt by have q9 := rl_nm1; omega)⟩, ⟨by rw [ht]; exact hP, hD⟩⟩, hS.F ht⟩) hS.2.2 d_x_right_12
set_option maxHeartbeats 4000000 in
set_option maxRecDepth 100000 in
theorem k_x_waive (l : Launch) (D : va_G) (a : Nat → Nat) (kI kZ : ClassId) (F : Nat → Nat → Int32) (jt jn : Int32) (hI : rl_I F) (sz : Nat) : rl_Ci (S := Nat → Nat → Int32) l ⟨"RightsLimit", "waive", "(II)I"⟩ (Cond.code ⟨"RightsLimit", "waive", "(II)I"⟩ prog_1_method_11_code 3 (some .int) :: rl_G) { frames := 2, cells := 0, slots := 0, locals := 42 } D rl_cl (rl_tys kI kZ) rl_nw [.ref (a 0), .int jt, .int jn] (rl_w a kI kZ F) sz (fun (r : Int32) (F' : Nat → Nat → Int32) => rl_R F' ∧ ((F' 27 0).toInt = (F 27 0).toInt ∧ (F' 27 1).toInt = (F 27 1).toInt ∧ (F' 27 2).toInt = (F 27 2).toInt ∧ 0 ≤ (F' 27 3).toInt ∧ (F' 27 3).toInt ≤ 300)) (fun F' => rl_w a kI kZ F') 0 0 := by
  refine rl_meti (cc := prog_1_method_11_code) (maxL := 3) (ret := (some .int)) (by decide) rfl (Nat.le_of_ble_eq_true rfl) ?_
  intro p e s m below meth c A ls hx hb hr hml hown hts hlocks hnm hP hK hD hS hA hN hl
  have hown : s.vm.findClass "RightsLimit" = some m.cls := hown
  have hG : ∀ x ∈ rl_G, x.before _ s = true := fun x h => hts x (List.mem_cons_of_mem _ h)
  have hl : lv_has ls 3 [(0, .ref (a 0)), (1, .int jt), (2, .int jn)] := hl
  obtain ⟨hcnt, hR⟩ := id hI
  refine lv_aload_n hx hb d_x_waive_0 rfl (lv_at hl 0 rfl) ?_
  refine va_get (D := D) (ci := 0) (v := .ref (a 1)) (C := "RightsLimit") (T := fT_x) (N := 8) hx hb hG fi_x hown hK hP 0 rfl rfl 0 (by decide) (hG _ wd_168) (fun _ h9 => h9) rfl d_x_waive_1 ?_
  refine lv_iload_n hx hb d_x_waive_4 rfl (lv_at hl 1 rfl) ?_
  have hpre := rl_BR.pre (av := .ref (a 1) :: [.int jt]) rl_nw_ok hP hK hN
  refine rl_callr hS (va_runV (As := [.int jt]) (rest := []) ⟨hx, hb, hml, hown, hG⟩ (k_t_has l D a kI kZ F jt ⟨by omega, hR⟩ _) (cwV 1 hG (rl_gV wd_211 wd_212 wd_213 wd_15 wd_214) rfl rfl rfl (by decide +kernel) ⟨Nat.le_of_ble_eq_true rfl, Nat.le_of_ble_eq_true rfl⟩) ⟨hpre.1, (va_recv hK hP (ci := 1) (q0 := 1) rfl rfl), hpre.2⟩ rfl rfl hl.1 rfl (lv_room (Nat.le_of_ble_eq_true rfl)) d_x_waive_5 ⟨Nat.le_of_ble_eq_true rfl, Nat.le_of_ble_eq_true rfl⟩) (fun r1 locs hw hS => ?_)
  rcases hw with ⟨rfl, h2⟩ | ⟨rfl, h2⟩
  · refine lv_if_ne (tgt := 13) hx hb d_x_waive_8 (by decide) (fun _ => ?_) (fun c9 => absurd c9 (by decide))
    refine lv_iload_n hx hb d_x_waive_13 rfl (lv_at hl 2 rfl) ?_
    refine rl_callr hS (va_runS (As := [.int jn]) (rest := []) ⟨hx, hb, hml, hown, hG⟩ (k_x_isPerson l D a kI kZ jn _) (cwS 1 hG (rl_gS wd_252 wd_253 wd_14 wd_254) rfl rfl rfl (by decide +kernel) ⟨Nat.le_of_ble_eq_true rfl, Nat.le_of_ble_eq_true rfl⟩) (rl_BR.pre rl_nw_ok rl_P0 hK hN) rfl rfl hl.1 rfl (lv_room (Nat.le_of_ble_eq_true rfl)) d_x_waive_14 ⟨Nat.le_of_ble_eq_true rfl, Nat.le_of_ble_eq_true rfl⟩) (fun r3 locs hw hS => ?_)
    rcases hw with ⟨rfl, h4⟩ | ⟨rfl, h4⟩
    · refine lv_if_ne (tgt := 23) hx hb d_x_waive_17 (by decide) (fun _ => ?_) (fun c9 => absurd c9 (by decide))
      refine lv_aload_n hx hb d_x_waive_23 rfl (lv_at hl 0 rfl) ?_
      refine lv_iload_n hx hb d_x_waive_24 rfl (lv_at hl 1 rfl) ?_
      refine lv_iload_n hx hb d_x_waive_25 rfl (lv_at hl 2 rfl) ?_
      have hpre := rl_BR.pre (av := .ref (a 0) :: [.int jt, .int jn]) rl_nw_ok hP hK hN
      refine rl_callr hS (va_runV (As := [.int jt, .int jn]) (rest := []) ⟨hx, hb, hml, hown, hG⟩ (k_x_mayWaive l D a kI kZ F jt jn ⟨by omega, hR⟩ (by omega) (by omega) (by omega) (by omega) _) (cwV 2 hG (rl_gV wd_323 wd_325 wd_4 wd_14 wd_326) rfl rfl rfl (by decide +kernel) ⟨Nat.le_of_ble_eq_true rfl, Nat.le_of_ble_eq_true rfl⟩) ⟨hpre.1, (va_recv hK hP (ci := 0) (q0 := 0) rfl rfl), hpre.2⟩ rfl rfl hl.1 rfl (lv_room (Nat.le_of_ble_eq_true rfl)) d_x_waive_26 ⟨Nat.le_of_ble_eq_true rfl, Nat.le_of_ble_eq_true rfl⟩) (fun r5 locs hw hS => ?_)
      rcases hw with ⟨rfl, h6⟩ | ⟨rfl, h6⟩
      · refine lv_if_ne (tgt := 35) hx hb d_x_waive_29 (by decide) (fun _ => ?_) (fun c9 => absurd c9 (by decide))
        refine lv_aload_n hx hb d_x_waive_35 rfl (lv_at hl 0 rfl) ?_
        refine va_get (D := D) (ci := 0) (v := .ref (a 1)) (C := "RightsLimit") (T := fT_x) (N := 8) hx hb hG fi_x hown hK hP 0 rfl rfl 0 (by decide) (hG _ wd_168) (fun _ h9 => h9) rfl d_x_waive_36 ?_
        refine va_get (D := D) (ci := 1) (v := .ref (a 8)) (C := "RightsLimit$Titles") (T := fT_t) (N := 5) hx hb hG fi_t hown hK hP 1 rfl rfl 3 (by decide) (hG _ wd_45) (fun _ h9 => h9) rfl d_x_waive_39 ?_
        refine lv_iload_n hx hb d_x_waive_42 rfl (lv_at hl 1 rfl) ?_
        refine va_iald hx hb hK hP 8 0 rfl rfl (rl_in (n := 50) (by omega) (by omega)) d_x_waive_43 ?_
        refine lv_topi (fun v7 ev7 => ?_)
        refine lv_bipush (v := 20) hx hb d_x_waive_44 (by decide) ?_
        refine lv_icmp_lt (tgt := 52) hx hb d_x_waive_46 (by decide) (fun c8 => ?_) (fun c8 => ?_)
        · have ic8 := rl_ilt c8
          simp only [rl_n20] at ic8
          refine lv_aload_n hx hb d_x_waive_52 rfl (lv_at hl 0 rfl) ?_
          refine va_get (D := D) (ci := 0) (v := .ref (a 1)) (C := "RightsLimit") (T := fT_x) (N := 8) hx hb hG fi_x hown hK hP 0 rfl rfl 0 (by decide) (hG _ wd_168) (fun _ h9 => h9) rfl d_x_waive_53 ?_
          refine va_get (D := D) (ci := 1) (v := .ref (a 8)) (C := "RightsLimit$Titles") (T := fT_t) (N := 5) hx hb hG fi_t hown hK hP 1 rfl rfl 3 (by decide) (hG _ wd_45) (fun _ h9 => h9) rfl d_x_waive_56 ?_
          refine lv_iload_n hx hb d_x_waive_59 rfl (lv_at hl 1 rfl) ?_
          refine lv_dup2_11 hx hb d_x_waive_60 rfl rfl ?_
          refine va_iald hx hb hK hP 8 0 rfl rfl (rl_in (n := 50) (by omega) (by omega)) d_x_waive_61 ?_
          refine lv_topi (fun v9 ev9 => ?_)
          refine lv_iconst (v := 1) hx hb d_x_waive_62 (by decide) ?_
          refine lv_iadd hx hb d_x_waive_63 ?_
          refine lv_topi (fun v10 ev10 => ?_)
          refine va_iast hx hb hK hP hD hS 8 0 rfl rfl (rl_in (n := 50) (by omega) (by omega)) d_x_waive_64 (fun H locs hP hD hS => ?_)
          obtain ⟨F11, eF11⟩ : ∃ G, G = rl_st F 3 jt.toNatClampNeg v10 := ⟨_, rfl⟩
          have hP : va_P D rl_cl (rl_w a kI kZ F11) H := by rw [eF11]; exact hP
          have hD : va_D A (rl_w a kI kZ F11) := by rw [eF11]; exact hD
          obtain ⟨tF11, hRF11⟩ := rl_keep eF11 (by decide) (by decide) hR
          refine lv_aload_n hx hb d_x_waive_65 rfl (lv_at hl 0 rfl) ?_
          refine va_get (D := D) (ci := 0) (v := .ref (a 1)) (C := "RightsLimit") (T := fT_x) (N := 8) hx hb hG fi_x hown hK hP 0 rfl rfl 0 (by decide) (hG _ wd_168) (fun _ h9 => h9) rfl d_x_waive_66 ?_
          refine va_get (D := D) (ci := 1) (v := .ref (a 8)) (C := "RightsLimit$Titles") (T := fT_t) (N := 5) hx hb hG fi_t hown hK hP 1 rfl rfl 3 (by decide) (hG _ wd_45) (fun _ h9 => h9) rfl d_x_waive_69 ?_
          refine lv_iload_n hx hb d_x_waive_72 rfl (lv_at hl 1 rfl) ?_
          refine va_iald hx hb hK hP 8 0 rfl rfl (rl_in (n := 50) (by omega) (by omega)) d_x_waive_73 ?_
          refine lv_topi (fun v12 ev12 => ?_)
          exact W.iret (v := v12) hx hb hr (fun t ht hW => ⟨⟨v12, F11, rfl, ⟨hRF11, (show (F11 27 0).toInt = (F 27 0).toInt ∧ (F11 27 1).toInt = (F 27 1).toInt ∧ (F11 27 2).toInt = (F 27 2).toInt ∧ 0 ≤ (F11 27 3).toInt ∧ (F11 27 3).toInt ≤ 300 by omega)⟩, ⟨by rw [ht]; exact hP, hD⟩⟩, hS.F ht⟩) hS.2.2 d_x_waive_74
        · have ic8 := rl_inlt c8
          simp only [rl_n20] at ic8
          refine lv_bipush (v := (-4)) hx hb d_x_waive_49 (by decide) ?_
          exact W.iret (v := (-4)) hx hb hr (fun t ht hW => ⟨⟨(-4), F, rfl, ⟨hR, (show (F 27 0).toInt = (F 27 0).toInt ∧ (F 27 1).toInt = (F 27 1).toInt ∧ (F 27 2).toInt = (F 27 2).toInt ∧ 0 ≤ (F 27 3).toInt ∧ (F 27 3).toInt ≤ 300 by have q9 := rl_nm4; omega)⟩, ⟨by rw [ht]; exact hP, hD⟩⟩, hS.F ht⟩) hS.2.2 d_x_waive_51
      · refine lv_if_ne (tgt := 35) hx hb d_x_waive_29 (by decide) (fun c9 => absurd c9 (by decide)) (fun _ => ?_)
        refine lv_bipush (v := (-3)) hx hb d_x_waive_32 (by decide) ?_
        exact W.iret (v := (-3)) hx hb hr (fun t ht hW => ⟨⟨(-3), F, rfl, ⟨hR, (show (F 27 0).toInt = (F 27 0).toInt ∧ (F 27 1).toInt = (F 27 1).toInt ∧ (F 27 2).toInt = (F 27 2).toInt ∧ 0 ≤ (F 27 3).toInt ∧ (F 27 3).toInt ≤ 300 by have q9 := rl_nm3; omega)⟩, ⟨by rw [ht]; exact hP, hD⟩⟩, hS.F ht⟩) hS.2.2 d_x_waive_34
    · refine lv_if_ne (tgt := 23) hx hb d_x_waive_17 (by decide) (fun c9 => absurd c9 (by decide)) (fun _ => ?_)
      refine lv_bipush (v := (-2)) hx hb d_x_waive_20 (by decide) ?_
      exact W.iret (v := (-2)) hx hb hr (fun t ht hW => ⟨⟨(-2), F, rfl, ⟨hR, (show (F 27 0).toInt = (F 27 0).toInt ∧ (F 27 1).toInt = (F 27 1).toInt ∧ (F 27 2).toInt = (F 27 2).toInt ∧ 0 ≤ (F 27 3).toInt ∧ (F 27 3).toInt ≤ 300 by have q9 := rl_nm2; omega)⟩, ⟨by rw [ht]; exact hP, hD⟩⟩, hS.F ht⟩) hS.2.2 d_x_waive_22
  · refine lv_if_ne (tgt := 13) hx hb d_x_waive_8 (by decide) (fun c9 => absurd c9 (by decide)) (fun _ => ?_)
    refine lv_iconst (v := (-1)) hx hb d_x_waive_11 (by decide) ?_
    exact W.iret (v := (-1)) hx hb hr (fun t ht hW => ⟨⟨(-1), F, rfl, ⟨hR, (show (F 27 0).toInt = (F 27 0).toInt ∧ (F 27 1).toInt = (F 27 1).toInt ∧ (F 27 2).toInt = (F 27 2).toInt ∧ 0 ≤ (F 27 3).toInt ∧ (F 27 3).toInt ≤ 300 by have q9 := rl_nm1; omega)⟩, ⟨by rw [ht]; exact hP, hD⟩⟩, hS.F ht⟩) hS.2.2 d_x_waive_12
set_option maxHeartbeats 4000000 in
set_option maxRecDepth 100000 in
theorem k_x_renew (l : Launch) (D : va_G) (a : Nat → Nat) (kI kZ : ClassId) (F : Nat → Nat → Int32) (jn jt : Int32) (hI : rl_I F) (sz : Nat) : rl_Ci (S := Nat → Nat → Int32) l ⟨"RightsLimit", "renew", "(II)I"⟩ (Cond.code ⟨"RightsLimit", "renew", "(II)I"⟩ prog_1_method_12_code 3 (some .int) :: rl_G) { frames := 3, cells := 0, slots := 0, locals := 64 } D rl_cl (rl_tys kI kZ) rl_nw [.ref (a 0), .int jn, .int jt] (rl_w a kI kZ F) sz (fun (r : Int32) (F' : Nat → Nat → Int32) => rl_R F' ∧ ((F' 27 0).toInt = (F 27 0).toInt ∧ (F' 27 1).toInt = (F 27 1).toInt ∧ (F' 27 2).toInt = (F 27 2).toInt ∧ 0 ≤ (F' 27 3).toInt ∧ (F' 27 3).toInt ≤ 300)) (fun F' => rl_w a kI kZ F') 0 0 := by
  refine rl_meti (cc := prog_1_method_12_code) (maxL := 3) (ret := (some .int)) (by decide) rfl (Nat.le_of_ble_eq_true rfl) ?_
  intro p e s m below meth c A ls hx hb hr hml hown hts hlocks hnm hP hK hD hS hA hN hl
  have hown : s.vm.findClass "RightsLimit" = some m.cls := hown
  have hG : ∀ x ∈ rl_G, x.before _ s = true := fun x h => hts x (List.mem_cons_of_mem _ h)
  have hl : lv_has ls 3 [(0, .ref (a 0)), (1, .int jn), (2, .int jt)] := hl
  obtain ⟨hcnt, hR⟩ := id hI
  refine lv_aload_n hx hb d_x_renew_0 rfl (lv_at hl 0 rfl) ?_
  refine va_get (D := D) (ci := 0) (v := .ref (a 4)) (C := "RightsLimit") (T := fT_x) (N := 8) hx hb hG fi_x hown hK hP 0 rfl rfl 3 (by decide) (hG _ wd_171) (fun _ h9 => h9) rfl d_x_renew_1 ?_
  refine lv_iload_n hx hb d_x_renew_4 rfl (lv_at hl 1 rfl) ?_
  have hpre := rl_BR.pre (av := .ref (a 4) :: [.int jn]) rl_nw_ok hP hK hN
  refine rl_callr hS (va_runV (As := [.int jn]) (rest := []) ⟨hx, hb, hml, hown, hG⟩ (k_q_has l D a kI kZ F jn ⟨by omega, hR⟩ _) (cwV 1 hG (rl_gV wd_331 wd_332 wd_333 wd_18 wd_334) rfl rfl rfl (by decide +kernel) ⟨Nat.le_of_ble_eq_true rfl, Nat.le_of_ble_eq_true rfl⟩) ⟨hpre.1, (va_recv hK hP (ci := 4) (q0 := 4) rfl rfl), hpre.2⟩ rfl rfl hl.1 rfl (lv_room (Nat.le_of_ble_eq_true rfl)) d_x_renew_5 ⟨Nat.le_of_ble_eq_true rfl, Nat.le_of_ble_eq_true rfl⟩) (fun r1 locs hw hS => ?_)
  rcases hw with ⟨rfl, h2⟩ | ⟨rfl, h2⟩
  · refine lv_if_ne (tgt := 13) hx hb d_x_renew_8 (by decide) (fun _ => ?_) (fun c9 => absurd c9 (by decide))
    refine lv_aload_n hx hb d_x_renew_13 rfl (lv_at hl 0 rfl) ?_
    refine lv_iload_n hx hb d_x_renew_14 rfl (lv_at hl 2 rfl) ?_
    have hpre := rl_B.pre (av := .ref (a 0) :: [.int jt]) rl_nw_ok hP hK hD hN
    refine rl_calli0 hP hD hS hA (va_runV (As := [.int jt]) (rest := []) ⟨hx, hb, hml, hown, hG⟩ (k_x_goOnTo l D a kI kZ F jt ⟨by omega, hR⟩ _) (cwV 1 hG (rl_gV wd_255 wd_257 wd_0 wd_14 wd_258) rfl rfl rfl (by decide +kernel) ⟨Nat.le_of_ble_eq_true rfl, Nat.le_of_ble_eq_true rfl⟩) ⟨hpre.1, (va_recv hK hP (ci := 0) (q0 := 0) rfl rfl), hpre.2⟩ rfl rfl hl.1 rfl (lv_room (Nat.le_of_ble_eq_true rfl)) d_x_renew_15 ⟨Nat.le_of_ble_eq_true rfl, Nat.le_of_ble_eq_true rfl⟩) (fun r3 F4 H locs hw hP hD hS => ?_)
    have hP : va_P D rl_cl (rl_w a kI kZ F4) H := hP
    have hD : va_D A (rl_w a kI kZ F4) := hD
    obtain ⟨hRF4, hw⟩ := hw
    rcases hw with ⟨rfl, h5⟩ | ⟨rfl, h5⟩
    · refine lv_if_ne (tgt := 24) hx hb d_x_renew_18 (by decide) (fun _ => ?_) (fun c9 => absurd c9 (by decide))
      refine lv_aload_n hx hb d_x_renew_24 rfl (lv_at hl 0 rfl) ?_
      refine va_get (D := D) (ci := 0) (v := .ref (a 4)) (C := "RightsLimit") (T := fT_x) (N := 8) hx hb hG fi_x hown hK hP 0 rfl rfl 3 (by decide) (hG _ wd_171) (fun _ h9 => h9) rfl d_x_renew_25 ?_
      refine lv_iload_n hx hb d_x_renew_28 rfl (lv_at hl 1 rfl) ?_
      refine lv_iload_n hx hb d_x_renew_29 rfl (lv_at hl 2 rfl) ?_
      have hpre := rl_BR.pre (av := .ref (a 4) :: [.int jn, .int jt]) rl_nw_ok hP hK hN
      refine rl_callr hS (va_runV (As := [.int jn, .int jt]) (rest := []) ⟨hx, hb, hml, hown, hG⟩ (k_q_isRenewable l D a kI kZ F4 jn jt ⟨by omega, hRF4⟩ (by omega) (by omega) _) (cwV 2 hG (rl_gV wd_335 wd_336 wd_337 wd_18 wd_338) rfl rfl rfl (by decide +kernel) ⟨Nat.le_of_ble_eq_true rfl, Nat.le_of_ble_eq_true rfl⟩) ⟨hpre.1, (va_recv hK hP (ci := 4) (q0 := 4) rfl rfl), hpre.2⟩ rfl rfl hl.1 rfl (lv_room (Nat.le_of_ble_eq_true rfl)) d_x_renew_30 ⟨Nat.le_of_ble_eq_true rfl, Nat.le_of_ble_eq_true rfl⟩) (fun r6 locs hw hS => ?_)
      rcases hw with ⟨rfl, h7⟩ | ⟨rfl, h7⟩
      · refine lv_if_ne (tgt := 39) hx hb d_x_renew_33 (by decide) (fun _ => ?_) (fun c9 => absurd c9 (by decide))
        refine lv_aload_n hx hb d_x_renew_39 rfl (lv_at hl 0 rfl) ?_
        refine va_get (D := D) (ci := 0) (v := .ref (a 4)) (C := "RightsLimit") (T := fT_x) (N := 8) hx hb hG fi_x hown hK hP 0 rfl rfl 3 (by decide) (hG _ wd_171) (fun _ h9 => h9) rfl d_x_renew_40 ?_
        refine lv_iload_n hx hb d_x_renew_43 rfl (lv_at hl 1 rfl) ?_
        have hpre := rl_B.pre (av := .ref (a 4) :: [.int jn]) rl_nw_ok hP hK hD hN
        refine rl_calli0 hP hD hS hA (va_runV (As := [.int jn]) (rest := []) ⟨hx, hb, hml, hown, hG⟩ (k_q_prolong l D a kI kZ F4 jn ⟨by omega, hRF4⟩ (by omega) (by omega) _) (cwV 1 hG (rl_gV wd_348 wd_349 wd_350 wd_18 wd_351) rfl rfl rfl (by decide +kernel) ⟨Nat.le_of_ble_eq_true rfl, Nat.le_of_ble_eq_true rfl⟩) ⟨hpre.1, (va_recv hK hP (ci := 4) (q0 := 4) rfl rfl), hpre.2⟩ rfl rfl hl.1 rfl (lv_room (Nat.le_of_ble_eq_true rfl)) d_x_renew_44 ⟨Nat.le_of_ble_eq_true rfl, Nat.le_of_ble_eq_true rfl⟩) (fun r8 F9 H locs hw hP hD hS => ?_)
        have hP : va_P D rl_cl (rl_w a kI kZ F9) H := hP
        have hD : va_D A (rl_w a kI kZ F9) := hD
        obtain ⟨hRF9, hw⟩ := hw
        have hwr8 := hw
        exact W.iret (v := r8) hx hb hr (fun t ht hW => ⟨⟨r8, F9, rfl, ⟨hRF9, (show (F9 27 0).toInt = (F 27 0).toInt ∧ (F9 27 1).toInt = (F 27 1).toInt ∧ (F9 27 2).toInt = (F 27 2).toInt ∧ 0 ≤ (F9 27 3).toInt ∧ (F9 27 3).toInt ≤ 300 by omega)⟩, ⟨by rw [ht]; exact hP, hD⟩⟩, hS.F ht⟩) hS.2.2 d_x_renew_47
      · refine lv_if_ne (tgt := 39) hx hb d_x_renew_33 (by decide) (fun c9 => absurd c9 (by decide)) (fun _ => ?_)
        refine lv_bipush (v := (-3)) hx hb d_x_renew_36 (by decide) ?_
        exact W.iret (v := (-3)) hx hb hr (fun t ht hW => ⟨⟨(-3), F4, rfl, ⟨hRF4, (show (F4 27 0).toInt = (F 27 0).toInt ∧ (F4 27 1).toInt = (F 27 1).toInt ∧ (F4 27 2).toInt = (F 27 2).toInt ∧ 0 ≤ (F4 27 3).toInt ∧ (F4 27 3).toInt ≤ 300 by have q9 := rl_nm3; omega)⟩, ⟨by rw [ht]; exact hP, hD⟩⟩, hS.F ht⟩) hS.2.2 d_x_renew_38
    · refine lv_if_ne (tgt := 24) hx hb d_x_renew_18 (by decide) (fun c9 => absurd c9 (by decide)) (fun _ => ?_)
      refine lv_bipush (v := (-2)) hx hb d_x_renew_21 (by decide) ?_
      exact W.iret (v := (-2)) hx hb hr (fun t ht hW => ⟨⟨(-2), F4, rfl, ⟨hRF4, (show (F4 27 0).toInt = (F 27 0).toInt ∧ (F4 27 1).toInt = (F 27 1).toInt ∧ (F4 27 2).toInt = (F 27 2).toInt ∧ 0 ≤ (F4 27 3).toInt ∧ (F4 27 3).toInt ≤ 300 by have q9 := rl_nm2; omega)⟩, ⟨by rw [ht]; exact hP, hD⟩⟩, hS.F ht⟩) hS.2.2 d_x_renew_23
  · refine lv_if_ne (tgt := 13) hx hb d_x_renew_8 (by decide) (fun c9 => absurd c9 (by decide)) (fun _ => ?_)
    refine lv_iconst (v := (-1)) hx hb d_x_renew_11 (by decide) ?_
    exact W.iret (v := (-1)) hx hb hr (fun t ht hW => ⟨⟨(-1), F, rfl, ⟨hR, (show (F 27 0).toInt = (F 27 0).toInt ∧ (F 27 1).toInt = (F 27 1).toInt ∧ (F 27 2).toInt = (F 27 2).toInt ∧ 0 ≤ (F 27 3).toInt ∧ (F 27 3).toInt ≤ 300 by have q9 := rl_nm1; omega)⟩, ⟨by rw [ht]; exact hP, hD⟩⟩, hS.F ht⟩) hS.2.2 d_x_renew_12
set_option maxHeartbeats 4000000 in
set_option maxRecDepth 100000 in
theorem k_x_delete (l : Launch) (D : va_G) (a : Nat → Nat) (kI kZ : ClassId) (F : Nat → Nat → Int32) (jn jt : Int32) (hI : rl_I F) (sz : Nat) : rl_Ci (S := Nat → Nat → Int32) l ⟨"RightsLimit", "delete", "(II)I"⟩ (Cond.code ⟨"RightsLimit", "delete", "(II)I"⟩ prog_1_method_13_code 3 (some .int) :: rl_G) { frames := 2, cells := 0, slots := 0, locals := 43 } D rl_cl (rl_tys kI kZ) rl_nw [.ref (a 0), .int jn, .int jt] (rl_w a kI kZ F) sz (fun (r : Int32) (F' : Nat → Nat → Int32) => rl_R F' ∧ ((F' 27 0).toInt = (F 27 0).toInt ∧ (F' 27 1).toInt = (F 27 1).toInt ∧ (F' 27 2).toInt = (F 27 2).toInt ∧ 0 ≤ (F' 27 3).toInt ∧ (F' 27 3).toInt ≤ 300)) (fun F' => rl_w a kI kZ F') 0 0 := by
  refine rl_meti (cc := prog_1_method_13_code) (maxL := 3) (ret := (some .int)) (by decide) rfl (Nat.le_of_ble_eq_true rfl) ?_
  intro p e s m below meth c A ls hx hb hr hml hown hts hlocks hnm hP hK hD hS hA hN hl
  have hown : s.vm.findClass "RightsLimit" = some m.cls := hown
  have hG : ∀ x ∈ rl_G, x.before _ s = true := fun x h => hts x (List.mem_cons_of_mem _ h)
  have hl : lv_has ls 3 [(0, .ref (a 0)), (1, .int jn), (2, .int jt)] := hl
  obtain ⟨hcnt, hR⟩ := id hI
  refine lv_aload_n hx hb d_x_delete_0 rfl (lv_at hl 0 rfl) ?_
  refine va_get (D := D) (ci := 0) (v := .ref (a 4)) (C := "RightsLimit") (T := fT_x) (N := 8) hx hb hG fi_x hown hK hP 0 rfl rfl 3 (by decide) (hG _ wd_171) (fun _ h9 => h9) rfl d_x_delete_1 ?_
  refine lv_iload_n hx hb d_x_delete_4 rfl (lv_at hl 1 rfl) ?_
  have hpre := rl_BR.pre (av := .ref (a 4) :: [.int jn]) rl_nw_ok hP hK hN
  refine rl_callr hS (va_runV (As := [.int jn]) (rest := []) ⟨hx, hb, hml, hown, hG⟩ (k_q_has l D a kI kZ F jn ⟨by omega, hR⟩ _) (cwV 1 hG (rl_gV wd_331 wd_332 wd_333 wd_18 wd_334) rfl rfl rfl (by decide +kernel) ⟨Nat.le_of_ble_eq_true rfl, Nat.le_of_ble_eq_true rfl⟩) ⟨hpre.1, (va_recv hK hP (ci := 4) (q0 := 4) rfl rfl), hpre.2⟩ rfl rfl hl.1 rfl (lv_room (Nat.le_of_ble_eq_true rfl)) d_x_delete_5 ⟨Nat.le_of_ble_eq_true rfl, Nat.le_of_ble_eq_true rfl⟩) (fun r1 locs hw hS => ?_)
  rcases hw with ⟨rfl, h2⟩ | ⟨rfl, h2⟩
  · refine lv_if_ne (tgt := 13) hx hb d_x_delete_8 (by decide) (fun _ => ?_) (fun c9 => absurd c9 (by decide))
    refine lv_aload_n hx hb d_x_delete_13 rfl (lv_at hl 0 rfl) ?_
    refine lv_iload_n hx hb d_x_delete_14 rfl (lv_at hl 2 rfl) ?_
    have hpre := rl_B.pre (av := .ref (a 0) :: [.int jt]) rl_nw_ok hP hK hD hN
    refine rl_calli0 hP hD hS hA (va_runV (As := [.int jt]) (rest := []) ⟨hx, hb, hml, hown, hG⟩ (k_x_goOnTo l D a kI kZ F jt ⟨by omega, hR⟩ _) (cwV 1 hG (rl_gV wd_255 wd_257 wd_0 wd_14 wd_258) rfl rfl rfl (by decide +kernel) ⟨Nat.le_of_ble_eq_true rfl, Nat.le_of_ble_eq_true rfl⟩) ⟨hpre.1, (va_recv hK hP (ci := 0) (q0 := 0) rfl rfl), hpre.2⟩ rfl rfl hl.1 rfl (lv_room (Nat.le_of_ble_eq_true rfl)) d_x_delete_15 ⟨Nat.le_of_ble_eq_true rfl, Nat.le_of_ble_eq_true rfl⟩) (fun r3 F4 H locs hw hP hD hS => ?_)
    have hP : va_P D rl_cl (rl_w a kI kZ F4) H := hP
    have hD : va_D A (rl_w a kI kZ F4) := hD
    obtain ⟨hRF4, hw⟩ := hw
    rcases hw with ⟨rfl, h5⟩ | ⟨rfl, h5⟩
    · refine lv_if_ne (tgt := 24) hx hb d_x_delete_18 (by decide) (fun _ => ?_) (fun c9 => absurd c9 (by decide))
      refine lv_aload_n hx hb d_x_delete_24 rfl (lv_at hl 0 rfl) ?_
      refine va_get (D := D) (ci := 0) (v := .ref (a 4)) (C := "RightsLimit") (T := fT_x) (N := 8) hx hb hG fi_x hown hK hP 0 rfl rfl 3 (by decide) (hG _ wd_171) (fun _ h9 => h9) rfl d_x_delete_25 ?_
      refine lv_iload_n hx hb d_x_delete_28 rfl (lv_at hl 1 rfl) ?_
      have hpre := rl_BR.pre (av := .ref (a 4) :: [.int jn]) rl_nw_ok hP hK hN
      refine rl_callr hS (va_runV (As := [.int jn]) (rest := []) ⟨hx, hb, hml, hown, hG⟩ (k_q_isKept l D a kI kZ F4 jn ⟨by omega, hRF4⟩ (by omega) (by omega) _) (cwV 1 hG (rl_gV wd_356 wd_340 wd_341 wd_18 wd_342) rfl rfl rfl (by decide +kernel) ⟨Nat.le_of_ble_eq_true rfl, Nat.le_of_ble_eq_true rfl⟩) ⟨hpre.1, (va_recv hK hP (ci := 4) (q0 := 4) rfl rfl), hpre.2⟩ rfl rfl hl.1 rfl (lv_room (Nat.le_of_ble_eq_true rfl)) d_x_delete_29 ⟨Nat.le_of_ble_eq_true rfl, Nat.le_of_ble_eq_true rfl⟩) (fun r6 locs hw hS => ?_)
      rcases hw with ⟨rfl, h7⟩ | ⟨rfl, h7⟩
      · refine lv_if_ne (tgt := 38) hx hb d_x_delete_32 (by decide) (fun _ => ?_) (fun c9 => absurd c9 (by decide))
        refine lv_aload_n hx hb d_x_delete_38 rfl (lv_at hl 0 rfl) ?_
        refine va_get (D := D) (ci := 0) (v := .ref (a 4)) (C := "RightsLimit") (T := fT_x) (N := 8) hx hb hG fi_x hown hK hP 0 rfl rfl 3 (by decide) (hG _ wd_171) (fun _ h9 => h9) rfl d_x_delete_39 ?_
        refine va_get (D := D) (ci := 4) (v := .ref (a 29)) (C := "RightsLimit$Requests") (T := fT_q) (N := 13) hx hb hG fi_q hown hK hP 4 rfl rfl 11 (by decide) (hG _ wd_139) (fun _ h9 => h9) rfl d_x_delete_42 ?_
        refine lv_iload_n hx hb d_x_delete_45 rfl (lv_at hl 1 rfl) ?_
        refine lv_iload_n hx hb d_x_delete_46 rfl (lv_at hl 2 rfl) ?_
        refine va_iast hx hb hK hP hD hS 29 0 rfl rfl (rl_in (n := 300) (by omega) (by omega)) d_x_delete_47 (fun H locs hP hD hS => ?_)
        obtain ⟨F8, eF8⟩ : ∃ G, G = rl_st F4 24 jn.toNatClampNeg jt := ⟨_, rfl⟩
        have hP : va_P D rl_cl (rl_w a kI kZ F8) H := by rw [eF8]; exact hP
        have hD : va_D A (rl_w a kI kZ F8) := by rw [eF8]; exact hD
        obtain ⟨tF8, hRF8⟩ := rl_keep eF8 (by decide) (by decide) hRF4
        refine lv_aload_n hx hb d_x_delete_48 rfl (lv_at hl 0 rfl) ?_
        refine va_get (D := D) (ci := 0) (v := .ref (a 4)) (C := "RightsLimit") (T := fT_x) (N := 8) hx hb hG fi_x hown hK hP 0 rfl rfl 3 (by decide) (hG _ wd_171) (fun _ h9 => h9) rfl d_x_delete_49 ?_
        refine lv_iload_n hx hb d_x_delete_52 rfl (lv_at hl 1 rfl) ?_
        refine lv_iload_n hx hb d_x_delete_53 rfl (lv_at hl 2 rfl) ?_
        have hpre := rl_BR.pre (av := .ref (a 4) :: [.int jn, .int jt]) rl_nw_ok hP hK hN
        refine rl_callr hS (va_runV (As := [.int jn, .int jt]) (rest := []) ⟨hx, hb, hml, hown, hG⟩ (k_q_hasEnded l D a kI kZ F8 jn jt ⟨by omega, hRF8⟩ (by omega) (by omega) _) (cwV 2 hG (rl_gV wd_357 wd_345 wd_346 wd_18 wd_347) rfl rfl rfl (by decide +kernel) ⟨Nat.le_of_ble_eq_true rfl, Nat.le_of_ble_eq_true rfl⟩) ⟨hpre.1, (va_recv hK hP (ci := 4) (q0 := 4) rfl rfl), hpre.2⟩ rfl rfl hl.1 rfl (lv_room (Nat.le_of_ble_eq_true rfl)) d_x_delete_54 ⟨Nat.le_of_ble_eq_true rfl, Nat.le_of_ble_eq_true rfl⟩) (fun r9 locs hw hS => ?_)
        rcases hw with ⟨rfl, h10⟩ | ⟨rfl, h10⟩
        · refine lv_if_eq (tgt := 64) hx hb d_x_delete_57 (by decide) (fun c9 => absurd c9 (by decide)) (fun _ => ?_)
          refine lv_iconst (v := 0) hx hb d_x_delete_60 (by decide) ?_
          refine lv_goto (tgt := 65) hx hb d_x_delete_61 (by decide) ?_
          exact W.iret (v := 0) hx hb hr (fun t ht hW => ⟨⟨0, F8, rfl, ⟨hRF8, (show (F8 27 0).toInt = (F 27 0).toInt ∧ (F8 27 1).toInt = (F 27 1).toInt ∧ (F8 27 2).toInt = (F 27 2).toInt ∧ 0 ≤ (F8 27 3).toInt ∧ (F8 27 3).toInt ≤ 300 by have q9 := rl_n0; omega)⟩, ⟨by rw [ht]; exact hP, hD⟩⟩, hS.F ht⟩) hS.2.2 d_x_delete_65
        · refine lv_if_eq (tgt := 64) hx hb d_x_delete_57 (by decide) (fun _ => ?_) (fun c9 => absurd c9 (by decide))
          refine lv_iconst (v := 1) hx hb d_x_delete_64 (by decide) ?_
          exact W.iret (v := 1) hx hb hr (fun t ht hW => ⟨⟨1, F8, rfl, ⟨hRF8, (show (F8 27 0).toInt = (F 27 0).toInt ∧ (F8 27 1).toInt = (F 27 1).toInt ∧ (F8 27 2).toInt = (F 27 2).toInt ∧ 0 ≤ (F8 27 3).toInt ∧ (F8 27 3).toInt ≤ 300 by have q9 := rl_n1; omega)⟩, ⟨by rw [ht]; exact hP, hD⟩⟩, hS.F ht⟩) hS.2.2 d_x_delete_65
      · refine lv_if_ne (tgt := 38) hx hb d_x_delete_32 (by decide) (fun c9 => absurd c9 (by decide)) (fun _ => ?_)
        refine lv_bipush (v := (-3)) hx hb d_x_delete_35 (by decide) ?_
        exact W.iret (v := (-3)) hx hb hr (fun t ht hW => ⟨⟨(-3), F4, rfl, ⟨hRF4, (show (F4 27 0).toInt = (F 27 0).toInt ∧ (F4 27 1).toInt = (F 27 1).toInt ∧ (F4 27 2).toInt = (F 27 2).toInt ∧ 0 ≤ (F4 27 3).toInt ∧ (F4 27 3).toInt ≤ 300 by have q9 := rl_nm3; omega)⟩, ⟨by rw [ht]; exact hP, hD⟩⟩, hS.F ht⟩) hS.2.2 d_x_delete_37
    · refine lv_if_ne (tgt := 24) hx hb d_x_delete_18 (by decide) (fun c9 => absurd c9 (by decide)) (fun _ => ?_)
      refine lv_bipush (v := (-2)) hx hb d_x_delete_21 (by decide) ?_
      exact W.iret (v := (-2)) hx hb hr (fun t ht hW => ⟨⟨(-2), F4, rfl, ⟨hRF4, (show (F4 27 0).toInt = (F 27 0).toInt ∧ (F4 27 1).toInt = (F 27 1).toInt ∧ (F4 27 2).toInt = (F 27 2).toInt ∧ 0 ≤ (F4 27 3).toInt ∧ (F4 27 3).toInt ≤ 300 by have q9 := rl_nm2; omega)⟩, ⟨by rw [ht]; exact hP, hD⟩⟩, hS.F ht⟩) hS.2.2 d_x_delete_23
  · refine lv_if_ne (tgt := 13) hx hb d_x_delete_8 (by decide) (fun c9 => absurd c9 (by decide)) (fun _ => ?_)
    refine lv_iconst (v := (-1)) hx hb d_x_delete_11 (by decide) ?_
    exact W.iret (v := (-1)) hx hb hr (fun t ht hW => ⟨⟨(-1), F, rfl, ⟨hR, (show (F 27 0).toInt = (F 27 0).toInt ∧ (F 27 1).toInt = (F 27 1).toInt ∧ (F 27 2).toInt = (F 27 2).toInt ∧ 0 ≤ (F 27 3).toInt ∧ (F 27 3).toInt ≤ 300 by have q9 := rl_nm1; omega)⟩, ⟨by rw [ht]; exact hP, hD⟩⟩, hS.F ht⟩) hS.2.2 d_x_delete_12
set_option maxHeartbeats 4000000 in
set_option maxRecDepth 100000 in
theorem k_x_counted (l : Launch) (D : va_G) (a : Nat → Nat) (kI kZ : ClassId) (F : Nat → Nat → Int32) (jt jk jd ju : Int32) (hI : rl_I F) (H0 : Heap) : rl_Ri l ⟨"RightsLimit", "counted", "(IIII)I"⟩ (Cond.code ⟨"RightsLimit", "counted", "(IIII)I"⟩ prog_1_method_14_code 5 (some .int) :: rl_G) { frames := 2, cells := 0, slots := 0, locals := 49 } D rl_cl (rl_tys kI kZ) rl_nw [.ref (a 0), .int jt, .int jk, .int jd, .int ju] (rl_w a kI kZ F) H0 (fun (r : Int32) => True) := by
  refine rl_metr (cc := prog_1_method_14_code) (maxL := 5) (ret := (some .int)) (by decide) rfl (Nat.le_of_ble_eq_true rfl) ?_
  intro p e s m below meth c ls hx hb hr hml hown hts hlocks hP hK hS hN hl
  have hown : s.vm.findClass "RightsLimit" = some m.cls := hown
  have hG : ∀ x ∈ rl_G, x.before _ s = true := fun x h => hts x (List.mem_cons_of_mem _ h)
  have hl : lv_has ls 5 [(0, .ref (a 0)), (1, .int jt), (2, .int jk), (3, .int jd), (4, .int ju)] := hl
  obtain ⟨hcnt, hR⟩ := id hI
  refine lv_aload_n hx hb d_x_counted_0 rfl (lv_at hl 0 rfl) ?_
  refine va_get (D := D) (ci := 0) (v := .ref (a 1)) (C := "RightsLimit") (T := fT_x) (N := 8) hx hb hG fi_x hown hK hP 0 rfl rfl 0 (by decide) (hG _ wd_168) (fun _ h9 => h9) rfl d_x_counted_1 ?_
  refine lv_iload_n hx hb d_x_counted_4 rfl (lv_at hl 1 rfl) ?_
  have hpre := rl_BR.pre (av := .ref (a 1) :: [.int jt]) rl_nw_ok hP hK hN
  refine rl_callr hS (va_runV (As := [.int jt]) (rest := []) ⟨hx, hb, hml, hown, hG⟩ (k_t_has l D a kI kZ F jt ⟨by omega, hR⟩ _) (cwV 1 hG (rl_gV wd_211 wd_212 wd_213 wd_15 wd_214) rfl rfl rfl (by decide +kernel) ⟨Nat.le_of_ble_eq_true rfl, Nat.le_of_ble_eq_true rfl⟩) ⟨hpre.1, (va_recv hK hP (ci := 1) (q0 := 1) rfl rfl), hpre.2⟩ rfl rfl hl.1 rfl (lv_room (Nat.le_of_ble_eq_true rfl)) d_x_counted_5 ⟨Nat.le_of_ble_eq_true rfl, Nat.le_of_ble_eq_true rfl⟩) (fun r1 locs hw hS => ?_)
  rcases hw with ⟨rfl, h2⟩ | ⟨rfl, h2⟩
  · refine lv_if_ne (tgt := 13) hx hb d_x_counted_8 (by decide) (fun _ => ?_) (fun c9 => absurd c9 (by decide))
    refine lv_iload_n hx hb d_x_counted_13 rfl (lv_at hl 2 rfl) ?_
    refine rl_callr hS (va_runS (As := [.int jk]) (rest := []) ⟨hx, hb, hml, hown, hG⟩ (k_x_isKind l D a kI kZ jk _) (cwS 1 hG (rl_gS wd_219 wd_220 wd_14 wd_221) rfl rfl rfl (by decide +kernel) ⟨Nat.le_of_ble_eq_true rfl, Nat.le_of_ble_eq_true rfl⟩) (rl_BR.pre rl_nw_ok rl_P0 hK hN) rfl rfl hl.1 rfl (lv_room (Nat.le_of_ble_eq_true rfl)) d_x_counted_14 ⟨Nat.le_of_ble_eq_true rfl, Nat.le_of_ble_eq_true rfl⟩) (fun r3 locs hw hS => ?_)
    rcases hw with ⟨rfl, h4⟩ | ⟨rfl, h4⟩
    · refine lv_if_eq (tgt := 35) hx hb d_x_counted_17 (by decide) (fun c9 => absurd c9 (by decide)) (fun _ => ?_)
      refine lv_iload_n hx hb d_x_counted_20 rfl (lv_at hl 3 rfl) ?_
      refine rl_callr hS (va_runS (As := [.int jd]) (rest := []) ⟨hx, hb, hml, hown, hG⟩ (k_x_isDays l D a kI kZ jd _) (cwS 1 hG (rl_gS wd_222 wd_223 wd_14 wd_224) rfl rfl rfl (by decide +kernel) ⟨Nat.le_of_ble_eq_true rfl, Nat.le_of_ble_eq_true rfl⟩) (rl_BR.pre rl_nw_ok rl_P0 hK hN) rfl rfl hl.1 rfl (lv_room (Nat.le_of_ble_eq_true rfl)) d_x_counted_21 ⟨Nat.le_of_ble_eq_true rfl, Nat.le_of_ble_eq_true rfl⟩) (fun r5 locs hw hS => ?_)
      rcases hw with ⟨rfl, h6⟩ | ⟨rfl, h6⟩
      · refine lv_if_eq (tgt := 35) hx hb d_x_counted_24 (by decide) (fun c9 => absurd c9 (by decide)) (fun _ => ?_)
        refine lv_iload hx hb d_x_counted_27 (lv_at hl 4 rfl) ?_
        refine rl_callr hS (va_runS (As := [.int ju]) (rest := []) ⟨hx, hb, hml, hown, hG⟩ (k_x_isTime l D a kI kZ ju _) (cwS 1 hG (rl_gS wd_236 wd_237 wd_14 wd_238) rfl rfl rfl (by decide +kernel) ⟨Nat.le_of_ble_eq_true rfl, Nat.le_of_ble_eq_true rfl⟩) (rl_BR.pre rl_nw_ok rl_P0 hK hN) rfl rfl hl.1 rfl (lv_room (Nat.le_of_ble_eq_true rfl)) d_x_counted_29 ⟨Nat.le_of_ble_eq_true rfl, Nat.le_of_ble_eq_true rfl⟩) (fun r7 locs hw hS => ?_)
        rcases hw with ⟨rfl, h8⟩ | ⟨rfl, h8⟩
        · refine lv_if_ne (tgt := 38) hx hb d_x_counted_32 (by decide) (fun _ => ?_) (fun c9 => absurd c9 (by decide))
          refine lv_aload_n hx hb d_x_counted_38 rfl (lv_at hl 0 rfl) ?_
          refine va_get (D := D) (ci := 0) (v := .ref (a 4)) (C := "RightsLimit") (T := fT_x) (N := 8) hx hb hG fi_x hown hK hP 0 rfl rfl 3 (by decide) (hG _ wd_171) (fun _ h9 => h9) rfl d_x_counted_39 ?_
          refine lv_iload_n hx hb d_x_counted_42 rfl (lv_at hl 1 rfl) ?_
          refine lv_iload_n hx hb d_x_counted_43 rfl (lv_at hl 2 rfl) ?_
          refine lv_iload_n hx hb d_x_counted_44 rfl (lv_at hl 3 rfl) ?_
          refine lv_iload hx hb d_x_counted_45 (lv_at hl 4 rfl) ?_
          have hpre := rl_BR.pre (av := .ref (a 4) :: [.int jt, .int jk, .int jd, .int ju]) rl_nw_ok hP hK hN
          refine rl_callr hS (va_runV (As := [.int jt, .int jk, .int jd, .int ju]) (rest := []) ⟨hx, hb, hml, hown, hG⟩ (k_q_countInSpan l D a kI kZ F jt jk jd ju ⟨by omega, hR⟩ _) (cwV 4 hG (rl_gV wd_285 wd_286 wd_287 wd_18 wd_288) rfl rfl rfl (by decide +kernel) ⟨Nat.le_of_ble_eq_true rfl, Nat.le_of_ble_eq_true rfl⟩) ⟨hpre.1, (va_recv hK hP (ci := 4) (q0 := 4) rfl rfl), hpre.2⟩ rfl rfl hl.1 rfl (lv_room (Nat.le_of_ble_eq_true rfl)) d_x_counted_47 ⟨Nat.le_of_ble_eq_true rfl, Nat.le_of_ble_eq_true rfl⟩) (fun r9 locs hw hS => ?_)
          have hwr9 := hw
          exact W.iret (v := r9) hx hb hr (fun t ht hW => ⟨⟨r9, (), rfl, trivial, ht⟩, hS.F ht⟩) hS.2.2 d_x_counted_50
        · refine lv_if_ne (tgt := 38) hx hb d_x_counted_32 (by decide) (fun c9 => absurd c9 (by decide)) (fun _ => ?_)
          refine lv_bipush (v := (-2)) hx hb d_x_counted_35 (by decide) ?_
          exact W.iret (v := (-2)) hx hb hr (fun t ht hW => ⟨⟨(-2), (), rfl, trivial, ht⟩, hS.F ht⟩) hS.2.2 d_x_counted_37
      · refine lv_if_eq (tgt := 35) hx hb d_x_counted_24 (by decide) (fun _ => ?_) (fun c9 => absurd c9 (by decide))
        refine lv_bipush (v := (-2)) hx hb d_x_counted_35 (by decide) ?_
        exact W.iret (v := (-2)) hx hb hr (fun t ht hW => ⟨⟨(-2), (), rfl, trivial, ht⟩, hS.F ht⟩) hS.2.2 d_x_counted_37
    · refine lv_if_eq (tgt := 35) hx hb d_x_counted_17 (by decide) (fun _ => ?_) (fun c9 => absurd c9 (by decide))
      refine lv_bipush (v := (-2)) hx hb d_x_counted_35 (by decide) ?_
      exact W.iret (v := (-2)) hx hb hr (fun t ht hW => ⟨⟨(-2), (), rfl, trivial, ht⟩, hS.F ht⟩) hS.2.2 d_x_counted_37
  · refine lv_if_ne (tgt := 13) hx hb d_x_counted_8 (by decide) (fun c9 => absurd c9 (by decide)) (fun _ => ?_)
    refine lv_iconst (v := (-1)) hx hb d_x_counted_11 (by decide) ?_
    exact W.iret (v := (-1)) hx hb hr (fun t ht hW => ⟨⟨(-1), (), rfl, trivial, ht⟩, hS.F ht⟩) hS.2.2 d_x_counted_12
set_option maxHeartbeats 4000000 in
set_option maxRecDepth 100000 in
theorem k_x_left (l : Launch) (D : va_G) (a : Nat → Nat) (kI kZ : ClassId) (F : Nat → Nat → Int32) (jn : Int32) (hI : rl_I F) (H0 : Heap) : rl_Ri l ⟨"RightsLimit", "left", "(I)I"⟩ (Cond.code ⟨"RightsLimit", "left", "(I)I"⟩ prog_1_method_16_code 2 (some .int) :: rl_G) { frames := 1, cells := 0, slots := 0, locals := 21 } D rl_cl (rl_tys kI kZ) rl_nw [.ref (a 0), .int jn] (rl_w a kI kZ F) H0 (fun (r : Int32) => True) := by
  refine rl_metr (cc := prog_1_method_16_code) (maxL := 2) (ret := (some .int)) (by decide) rfl (Nat.le_of_ble_eq_true rfl) ?_
  intro p e s m below meth c ls hx hb hr hml hown hts hlocks hP hK hS hN hl
  have hown : s.vm.findClass "RightsLimit" = some m.cls := hown
  have hG : ∀ x ∈ rl_G, x.before _ s = true := fun x h => hts x (List.mem_cons_of_mem _ h)
  have hl : lv_has ls 2 [(0, .ref (a 0)), (1, .int jn)] := hl
  obtain ⟨hcnt, hR⟩ := id hI
  refine lv_aload_n hx hb d_x_left_0 rfl (lv_at hl 0 rfl) ?_
  refine va_get (D := D) (ci := 0) (v := .ref (a 3)) (C := "RightsLimit") (T := fT_x) (N := 8) hx hb hG fi_x hown hK hP 0 rfl rfl 2 (by decide) (hG _ wd_170) (fun _ h9 => h9) rfl d_x_left_1 ?_
  refine lv_iload_n hx hb d_x_left_4 rfl (lv_at hl 1 rfl) ?_
  have hpre := rl_BR.pre (av := .ref (a 3) :: [.int jn]) rl_nw_ok hP hK hN
  refine rl_callr hS (va_runV (As := [.int jn]) (rest := []) ⟨hx, hb, hml, hown, hG⟩ (k_c_has l D a kI kZ F jn ⟨by omega, hR⟩ _) (cwV 1 hG (rl_gV wd_366 wd_367 wd_368 wd_17 wd_369) rfl rfl rfl (by decide +kernel) ⟨Nat.le_of_ble_eq_true rfl, Nat.le_of_ble_eq_true rfl⟩) ⟨hpre.1, (va_recv hK hP (ci := 3) (q0 := 3) rfl rfl), hpre.2⟩ rfl rfl hl.1 rfl (lv_room (Nat.le_of_ble_eq_true rfl)) d_x_left_5 ⟨Nat.le_of_ble_eq_true rfl, Nat.le_of_ble_eq_true rfl⟩) (fun r1 locs hw hS => ?_)
  rcases hw with ⟨rfl, h2⟩ | ⟨rfl, h2⟩
  · refine lv_if_eq (tgt := 23) hx hb d_x_left_8 (by decide) (fun c9 => absurd c9 (by decide)) (fun _ => ?_)
    refine lv_aload_n hx hb d_x_left_11 rfl (lv_at hl 0 rfl) ?_
    refine va_get (D := D) (ci := 0) (v := .ref (a 3)) (C := "RightsLimit") (T := fT_x) (N := 8) hx hb hG fi_x hown hK hP 0 rfl rfl 2 (by decide) (hG _ wd_170) (fun _ h9 => h9) rfl d_x_left_12 ?_
    refine va_get (D := D) (ci := 3) (v := .ref (a 15)) (C := "RightsLimit$Licences") (T := fT_c) (N := 6) hx hb hG fi_c hown hK hP 3 rfl rfl 2 (by decide) (hG _ wd_94) (fun _ h9 => h9) rfl d_x_left_15 ?_
    refine lv_iload_n hx hb d_x_left_18 rfl (lv_at hl 1 rfl) ?_
    refine va_iald hx hb hK hP 15 0 rfl rfl (rl_in (n := 50) (by omega) (by omega)) d_x_left_19 ?_
    refine lv_topi (fun v3 ev3 => ?_)
    refine lv_goto (tgt := 24) hx hb d_x_left_20 (by decide) ?_
    exact W.iret (v := v3) hx hb hr (fun t ht hW => ⟨⟨v3, (), rfl, trivial, ht⟩, hS.F ht⟩) hS.2.2 d_x_left_24
  · refine lv_if_eq (tgt := 23) hx hb d_x_left_8 (by decide) (fun _ => ?_) (fun c9 => absurd c9 (by decide))
    refine lv_iconst (v := (-1)) hx hb d_x_left_23 (by decide) ?_
    exact W.iret (v := (-1)) hx hb hr (fun t ht hW => ⟨⟨(-1), (), rfl, trivial, ht⟩, hS.F ht⟩) hS.2.2 d_x_left_24
set_option maxHeartbeats 4000000 in
set_option maxRecDepth 100000 in
theorem k_x_statistics (l : Launch) (D : va_G) (a : Nat → Nat) (kI kZ : ClassId) (F : Nat → Nat → Int32) (jn jw : Int32) (hI : rl_I F) (H0 : Heap) : rl_Ri l ⟨"RightsLimit", "statistics", "(II)I"⟩ (Cond.code ⟨"RightsLimit", "statistics", "(II)I"⟩ prog_1_method_17_code 3 (some .int) :: rl_G) { frames := 2, cells := 0, slots := 0, locals := 44 } D rl_cl (rl_tys kI kZ) rl_nw [.ref (a 0), .int jn, .int jw] (rl_w a kI kZ F) H0 (fun (r : Int32) => True) := by
  refine rl_metr (cc := prog_1_method_17_code) (maxL := 3) (ret := (some .int)) (by decide) rfl (Nat.le_of_ble_eq_true rfl) ?_
  intro p e s m below meth c ls hx hb hr hml hown hts hlocks hP hK hS hN hl
  have hown : s.vm.findClass "RightsLimit" = some m.cls := hown
  have hG : ∀ x ∈ rl_G, x.before _ s = true := fun x h => hts x (List.mem_cons_of_mem _ h)
  have hl : lv_has ls 3 [(0, .ref (a 0)), (1, .int jn), (2, .int jw)] := hl
  obtain ⟨hcnt, hR⟩ := id hI
  refine lv_iload_n hx hb d_x_statistics_0 rfl (lv_at hl 1 rfl) ?_
  refine rl_callr hS (va_runS (As := [.int jn]) (rest := []) ⟨hx, hb, hml, hown, hG⟩ (k_x_isPerson l D a kI kZ jn _) (cwS 1 hG (rl_gS wd_252 wd_253 wd_14 wd_254) rfl rfl rfl (by decide +kernel) ⟨Nat.le_of_ble_eq_true rfl, Nat.le_of_ble_eq_true rfl⟩) (rl_BR.pre rl_nw_ok rl_P0 hK hN) rfl rfl hl.1 rfl (lv_room (Nat.le_of_ble_eq_true rfl)) d_x_statistics_1 ⟨Nat.le_of_ble_eq_true rfl, Nat.le_of_ble_eq_true rfl⟩) (fun r1 locs hw hS => ?_)
  rcases hw with ⟨rfl, h2⟩ | ⟨rfl, h2⟩
  · refine lv_if_ne (tgt := 9) hx hb d_x_statistics_4 (by decide) (fun _ => ?_) (fun c9 => absurd c9 (by decide))
    refine lv_iload_n hx hb d_x_statistics_9 rfl (lv_at hl 2 rfl) ?_
    by_cases hsw : jw.toInt < 0 ∨ 3 < jw.toInt
    · refine lv_tableOut (tgt := 76) hx hb d_x_statistics_10 hsw (by decide) ?_
      refine lv_iconst (v := (-1)) hx hb d_x_statistics_76 (by decide) ?_
      exact W.iret (v := (-1)) hx hb hr (fun t ht hW => ⟨⟨(-1), (), rfl, trivial, ht⟩, hS.F ht⟩) hS.2.2 d_x_statistics_77
    · have hsk : jw.toInt = 0 ∨ jw.toInt = 1 ∨ jw.toInt = 2 ∨ jw.toInt = 3 := by omega
      rcases hsk with hsk | hsk | hsk | hsk
      · refine lv_tableIn (off := 30) (tgt := 40) hx hb d_x_statistics_10 (by omega) (by omega) (by rw [hsk]; rfl) (by decide) ?_
        refine lv_aload_n hx hb d_x_statistics_40 rfl (lv_at hl 0 rfl) ?_
        refine va_get (D := D) (ci := 0) (v := .ref (a 4)) (C := "RightsLimit") (T := fT_x) (N := 8) hx hb hG fi_x hown hK hP 0 rfl rfl 3 (by decide) (hG _ wd_171) (fun _ h9 => h9) rfl d_x_statistics_41 ?_
        refine lv_iload_n hx hb d_x_statistics_44 rfl (lv_at hl 1 rfl) ?_
        have hpre := rl_BR.pre (av := .ref (a 4) :: [.int jn]) rl_nw_ok hP hK hN
        refine rl_callr hS (va_runV (As := [.int jn]) (rest := []) ⟨hx, hb, hml, hown, hG⟩ (k_q_countOf l D a kI kZ F jn ⟨by omega, hR⟩ _) (cwV 1 hG (rl_gV wd_374 wd_375 wd_376 wd_18 wd_377) rfl rfl rfl (by decide +kernel) ⟨Nat.le_of_ble_eq_true rfl, Nat.le_of_ble_eq_true rfl⟩) ⟨hpre.1, (va_recv hK hP (ci := 4) (q0 := 4) rfl rfl), hpre.2⟩ rfl rfl hl.1 rfl (lv_room (Nat.le_of_ble_eq_true rfl)) d_x_statistics_45 ⟨Nat.le_of_ble_eq_true rfl, Nat.le_of_ble_eq_true rfl⟩) (fun r3 locs hw hS => ?_)
        have hwr3 := hw
        exact W.iret (v := r3) hx hb hr (fun t ht hW => ⟨⟨r3, (), rfl, trivial, ht⟩, hS.F ht⟩) hS.2.2 d_x_statistics_48
      · refine lv_tableIn (off := 39) (tgt := 49) hx hb d_x_statistics_10 (by omega) (by omega) (by rw [hsk]; rfl) (by decide) ?_
        refine lv_aload_n hx hb d_x_statistics_49 rfl (lv_at hl 0 rfl) ?_
        refine va_get (D := D) (ci := 0) (v := .ref (a 4)) (C := "RightsLimit") (T := fT_x) (N := 8) hx hb hG fi_x hown hK hP 0 rfl rfl 3 (by decide) (hG _ wd_171) (fun _ h9 => h9) rfl d_x_statistics_50 ?_
        refine lv_iload_n hx hb d_x_statistics_53 rfl (lv_at hl 1 rfl) ?_
        have hpre := rl_BR.pre (av := .ref (a 4) :: [.int jn]) rl_nw_ok hP hK hN
        refine rl_callr hS (va_runV (As := [.int jn]) (rest := []) ⟨hx, hb, hml, hown, hG⟩ (k_q_countRefusedOf l D a kI kZ F jn ⟨by omega, hR⟩ _) (cwV 1 hG (rl_gV wd_378 wd_379 wd_380 wd_18 wd_381) rfl rfl rfl (by decide +kernel) ⟨Nat.le_of_ble_eq_true rfl, Nat.le_of_ble_eq_true rfl⟩) ⟨hpre.1, (va_recv hK hP (ci := 4) (q0 := 4) rfl rfl), hpre.2⟩ rfl rfl hl.1 rfl (lv_room (Nat.le_of_ble_eq_true rfl)) d_x_statistics_54 ⟨Nat.le_of_ble_eq_true rfl, Nat.le_of_ble_eq_true rfl⟩) (fun r4 locs hw hS => ?_)
        have hwr4 := hw
        exact W.iret (v := r4) hx hb hr (fun t ht hW => ⟨⟨r4, (), rfl, trivial, ht⟩, hS.F ht⟩) hS.2.2 d_x_statistics_57
      · refine lv_tableIn (off := 48) (tgt := 58) hx hb d_x_statistics_10 (by omega) (by omega) (by rw [hsk]; rfl) (by decide) ?_
        refine lv_aload_n hx hb d_x_statistics_58 rfl (lv_at hl 0 rfl) ?_
        refine va_get (D := D) (ci := 0) (v := .ref (a 4)) (C := "RightsLimit") (T := fT_x) (N := 8) hx hb hG fi_x hown hK hP 0 rfl rfl 3 (by decide) (hG _ wd_171) (fun _ h9 => h9) rfl d_x_statistics_59 ?_
        refine lv_iload_n hx hb d_x_statistics_62 rfl (lv_at hl 1 rfl) ?_
        have hpre := rl_BR.pre (av := .ref (a 4) :: [.int jn]) rl_nw_ok hP hK hN
        refine rl_callr hS (va_runV (As := [.int jn]) (rest := []) ⟨hx, hb, hml, hown, hG⟩ (k_q_pagesAllowedTo l D a kI kZ F jn ⟨by omega, hR⟩ _) (cwV 1 hG (rl_gV wd_382 wd_383 wd_384 wd_18 wd_385) rfl rfl rfl (by decide +kernel) ⟨Nat.le_of_ble_eq_true rfl, Nat.le_of_ble_eq_true rfl⟩) ⟨hpre.1, (va_recv hK hP (ci := 4) (q0 := 4) rfl rfl), hpre.2⟩ rfl rfl hl.1 rfl (lv_room (Nat.le_of_ble_eq_true rfl)) d_x_statistics_63 ⟨Nat.le_of_ble_eq_true rfl, Nat.le_of_ble_eq_true rfl⟩) (fun r5 locs hw hS => ?_)
        have hwr5 := hw
        exact W.iret (v := r5) hx hb hr (fun t ht hW => ⟨⟨r5, (), rfl, trivial, ht⟩, hS.F ht⟩) hS.2.2 d_x_statistics_66
      · refine lv_tableIn (off := 57) (tgt := 67) hx hb d_x_statistics_10 (by omega) (by omega) (by rw [hsk]; rfl) (by decide) ?_
        refine lv_aload_n hx hb d_x_statistics_67 rfl (lv_at hl 0 rfl) ?_
        refine va_get (D := D) (ci := 0) (v := .ref (a 4)) (C := "RightsLimit") (T := fT_x) (N := 8) hx hb hG fi_x hown hK hP 0 rfl rfl 3 (by decide) (hG _ wd_171) (fun _ h9 => h9) rfl d_x_statistics_68 ?_
        refine lv_iload_n hx hb d_x_statistics_71 rfl (lv_at hl 1 rfl) ?_
        have hpre := rl_BR.pre (av := .ref (a 4) :: [.int jn]) rl_nw_ok hP hK hN
        refine rl_callr hS (va_runV (As := [.int jn]) (rest := []) ⟨hx, hb, hml, hown, hG⟩ (k_q_centsOf l D a kI kZ F jn ⟨by omega, hR⟩ _) (cwV 1 hG (rl_gV wd_386 wd_387 wd_388 wd_18 wd_389) rfl rfl rfl (by decide +kernel) ⟨Nat.le_of_ble_eq_true rfl, Nat.le_of_ble_eq_true rfl⟩) ⟨hpre.1, (va_recv hK hP (ci := 4) (q0 := 4) rfl rfl), hpre.2⟩ rfl rfl hl.1 rfl (lv_room (Nat.le_of_ble_eq_true rfl)) d_x_statistics_72 ⟨Nat.le_of_ble_eq_true rfl, Nat.le_of_ble_eq_true rfl⟩) (fun r6 locs hw hS => ?_)
        have hwr6 := hw
        exact W.iret (v := r6) hx hb hr (fun t ht hW => ⟨⟨r6, (), rfl, trivial, ht⟩, hS.F ht⟩) hS.2.2 d_x_statistics_75
  · refine lv_if_ne (tgt := 9) hx hb d_x_statistics_4 (by decide) (fun c9 => absurd c9 (by decide)) (fun _ => ?_)
    refine lv_iconst (v := (-1)) hx hb d_x_statistics_7 (by decide) ?_
    exact W.iret (v := (-1)) hx hb hr (fun t ht hW => ⟨⟨(-1), (), rfl, trivial, ht⟩, hS.F ht⟩) hS.2.2 d_x_statistics_8
