set_option maxHeartbeats 4000000 in
set_option maxRecDepth 100000 in
theorem k_m_in (l : Launch) (D : va_G) (a : Nat → Nat) (kI kZ : ClassId) (jn jlo jhi : Int32) (H0 : Heap) : rl_Ri l ⟨"RightsLimitModel", "in", "(III)Z"⟩ (Cond.code ⟨"RightsLimitModel", "in", "(III)Z"⟩ prog_7_method_3_code 3 (some .boolean) :: rl_G) { frames := 0, cells := 0, slots := 0, locals := 0 } D rl_cl (rl_tys kI kZ) [] [.int jn, .int jlo, .int jhi] [] H0 (fun (r : Int32) => (r = 1 ∧ (jlo.toInt ≤ jn.toInt ∧ jn.toInt ≤ jhi.toInt)) ∨ (r = 0 ∧ ¬ (jlo.toInt ≤ jn.toInt ∧ jn.toInt ≤ jhi.toInt))) := by
  refine rl_metr (cc := prog_7_method_3_code) (maxL := 3) (ret := (some .boolean)) (by decide) rfl (Nat.le_of_ble_eq_true rfl) ?_
  intro p e s m below meth c ls hx hb hr hml hown hts hlocks hP hK hS hN hl
  have hown : s.vm.findClass "RightsLimitModel" = some m.cls := hown
  have hG : ∀ x ∈ rl_G, x.before _ s = true := fun x h => hts x (List.mem_cons_of_mem _ h)
  have hl : lv_has ls 3 [(0, .int jn), (1, .int jlo), (2, .int jhi)] := hl
  refine lv_iload_n hx hb d_m_in_0 rfl (lv_at hl 0 rfl) ?_
  refine lv_iload_n hx hb d_m_in_1 rfl (lv_at hl 1 rfl) ?_
  refine lv_icmp_lt (tgt := 14) hx hb d_m_in_2 (by decide) (fun c1 => ?_) (fun c1 => ?_)
  · have ic1 := rl_ilt c1
    refine lv_iconst (v := 0) hx hb d_m_in_14 (by decide) ?_
    exact W.zret (v := 0) hx hb hr rfl (fun t ht hW => ⟨⟨0, (), rfl, Or.inr ⟨rfl, by omega⟩, ht⟩, hS.F ht⟩) hS.2.2 d_m_in_15
  · have ic1 := rl_inlt c1
    refine lv_iload_n hx hb d_m_in_5 rfl (lv_at hl 0 rfl) ?_
    refine lv_iload_n hx hb d_m_in_6 rfl (lv_at hl 2 rfl) ?_
    refine lv_icmp_gt (tgt := 14) hx hb d_m_in_7 (by decide) (fun c2 => ?_) (fun c2 => ?_)
    · have ic2 := rl_ilt c2
      refine lv_iconst (v := 0) hx hb d_m_in_14 (by decide) ?_
      exact W.zret (v := 0) hx hb hr rfl (fun t ht hW => ⟨⟨0, (), rfl, Or.inr ⟨rfl, by omega⟩, ht⟩, hS.F ht⟩) hS.2.2 d_m_in_15
    · have ic2 := rl_inlt c2
      refine lv_iconst (v := 1) hx hb d_m_in_10 (by decide) ?_
      refine lv_goto (tgt := 15) hx hb d_m_in_11 (by decide) ?_
      exact W.zret (v := 1) hx hb hr rfl (fun t ht hW => ⟨⟨1, (), rfl, Or.inl ⟨rfl, by omega⟩, ht⟩, hS.F ht⟩) hS.2.2 d_m_in_15
set_option maxHeartbeats 4000000 in
set_option maxRecDepth 100000 in
theorem k_m_isTitle (l : Launch) (D : va_G) (a : Nat → Nat) (kI kZ : ClassId) (F : Nat → Nat → Int32) (jn : Int32) (hI : rm_I F) (H0 : Heap) : rl_Ri l ⟨"RightsLimitModel", "isTitle", "(I)Z"⟩ (Cond.code ⟨"RightsLimitModel", "isTitle", "(I)Z"⟩ prog_7_method_4_code 2 (some .boolean) :: rl_G) { frames := 1, cells := 0, slots := 0, locals := 22 } D rl_cl (rl_tys kI kZ) [] [.ref (a 0), .int jn] (rm_w a kI kZ F) H0 (fun (r : Int32) => (r = 1 ∧ (0 ≤ jn.toInt ∧ jn.toInt < (F 27 2).toInt)) ∨ (r = 0 ∧ ¬ (0 ≤ jn.toInt ∧ jn.toInt < (F 27 2).toInt))) := by
  refine rl_metr (cc := prog_7_method_4_code) (maxL := 2) (ret := (some .boolean)) (by decide) rfl (Nat.le_of_ble_eq_true rfl) ?_
  intro p e s m below meth c ls hx hb hr hml hown hts hlocks hP hK hS hN hl
  have hown : s.vm.findClass "RightsLimitModel" = some m.cls := hown
  have hG : ∀ x ∈ rl_G, x.before _ s = true := fun x h => hts x (List.mem_cons_of_mem _ h)
  have hl : lv_has ls 2 [(0, .ref (a 0)), (1, .int jn)] := hl
  obtain ⟨hcnt, hR⟩ := id hI
  refine lv_iload_n hx hb d_m_isTitle_0 rfl (lv_at hl 1 rfl) ?_
  refine lv_iconst (v := 0) hx hb d_m_isTitle_1 (by decide) ?_
  refine lv_aload_n hx hb d_m_isTitle_2 rfl (lv_at hl 0 rfl) ?_
  refine va_get (D := D) (ci := 5) (v := .int (F 27 2)) (C := "RightsLimitModel") (T := fT_m) (N := 33) hx hb hG fi_m hown hK hP 0 rfl rfl 2 (by decide) (hG _ wd_485) (fun _ h9 => h9) rfl d_m_isTitle_3 ?_
  refine lv_iconst (v := 1) hx hb d_m_isTitle_6 (by decide) ?_
  refine lv_isub hx hb d_m_isTitle_7 ?_
  refine lv_topi (fun v1 ev1 => ?_)
  have iv1 : v1.toInt = (F 27 2).toInt - 1 := by rw [ev1]; exact rl_subk (by decide) (by omega) (by omega)
  refine rl_callr hS (va_runS (As := [.int jn, .int 0, .int v1]) (rest := []) ⟨hx, hb, hml, hown, hG⟩ (k_m_in l D a kI kZ jn 0 v1 _) (cwS 3 hG (rl_gS wd_587 wd_588 wd_19 wd_589) rfl rfl rfl (by decide +kernel) ⟨Nat.le_of_ble_eq_true rfl, Nat.le_of_ble_eq_true rfl⟩) (rl_BR.pre rl_nw0 rl_P0 hK hN) rfl rfl hl.1 rfl (lv_room (Nat.le_of_ble_eq_true rfl)) d_m_isTitle_8 ⟨Nat.le_of_ble_eq_true rfl, Nat.le_of_ble_eq_true rfl⟩) (fun r2 locs hw hS => ?_)
  try simp only [rl_n0] at hw
  rcases hw with ⟨rfl, h3⟩ | ⟨rfl, h3⟩
  · exact W.zret (v := 1) hx hb hr rfl (fun t ht hW => ⟨⟨1, (), rfl, Or.inl ⟨rfl, by omega⟩, ht⟩, hS.F ht⟩) hS.2.2 d_m_isTitle_11
  · exact W.zret (v := 0) hx hb hr rfl (fun t ht hW => ⟨⟨0, (), rfl, Or.inr ⟨rfl, by omega⟩, ht⟩, hS.F ht⟩) hS.2.2 d_m_isTitle_11
set_option maxHeartbeats 4000000 in
set_option maxRecDepth 100000 in
theorem k_m_isNow (l : Launch) (D : va_G) (a : Nat → Nat) (kI kZ : ClassId) (F : Nat → Nat → Int32) (jn : Int32) (hI : rm_I F) (H0 : Heap) : rl_Ri l ⟨"RightsLimitModel", "isNow", "(I)Z"⟩ (Cond.code ⟨"RightsLimitModel", "isNow", "(I)Z"⟩ prog_7_method_5_code 2 (some .boolean) :: rl_G) { frames := 1, cells := 0, slots := 0, locals := 22 } D rl_cl (rl_tys kI kZ) [] [.ref (a 0), .int jn] (rm_w a kI kZ F) H0 (fun (r : Int32) => (r = 1 ∧ True) ∨ (r = 0 ∧ True)) := by
  refine rl_metr (cc := prog_7_method_5_code) (maxL := 2) (ret := (some .boolean)) (by decide) rfl (Nat.le_of_ble_eq_true rfl) ?_
  intro p e s m below meth c ls hx hb hr hml hown hts hlocks hP hK hS hN hl
  have hown : s.vm.findClass "RightsLimitModel" = some m.cls := hown
  have hG : ∀ x ∈ rl_G, x.before _ s = true := fun x h => hts x (List.mem_cons_of_mem _ h)
  have hl : lv_has ls 2 [(0, .ref (a 0)), (1, .int jn)] := hl
  obtain ⟨hcnt, hR⟩ := id hI
  refine lv_iload_n hx hb d_m_isNow_0 rfl (lv_at hl 1 rfl) ?_
  refine lv_aload_n hx hb d_m_isNow_1 rfl (lv_at hl 0 rfl) ?_
  refine va_get (D := D) (ci := 5) (v := .int (F 27 1)) (C := "RightsLimitModel") (T := fT_m) (N := 33) hx hb hG fi_m hown hK hP 0 rfl rfl 1 (by decide) (hG _ wd_484) (fun _ h9 => h9) rfl d_m_isNow_2 ?_
  refine lv_ldc (v := 1000000000) hx hb hown (hG _ wd_606) d_m_isNow_5 ?_
  refine rl_callr hS (va_runS (As := [.int jn, .int (F 27 1), .int 1000000000]) (rest := []) ⟨hx, hb, hml, hown, hG⟩ (k_m_in l D a kI kZ jn (F 27 1) 1000000000 _) (cwS 3 hG (rl_gS wd_587 wd_588 wd_19 wd_589) rfl rfl rfl (by decide +kernel) ⟨Nat.le_of_ble_eq_true rfl, Nat.le_of_ble_eq_true rfl⟩) (rl_BR.pre rl_nw0 rl_P0 hK hN) rfl rfl hl.1 rfl (lv_room (Nat.le_of_ble_eq_true rfl)) d_m_isNow_7 ⟨Nat.le_of_ble_eq_true rfl, Nat.le_of_ble_eq_true rfl⟩) (fun r1 locs hw hS => ?_)
  try simp only [rl_n1000000000] at hw
  rcases hw with ⟨rfl, h2⟩ | ⟨rfl, h2⟩
  · exact W.zret (v := 1) hx hb hr rfl (fun t ht hW => ⟨⟨1, (), rfl, Or.inl ⟨rfl, trivial⟩, ht⟩, hS.F ht⟩) hS.2.2 d_m_isNow_10
  · exact W.zret (v := 0) hx hb hr rfl (fun t ht hW => ⟨⟨0, (), rfl, Or.inr ⟨rfl, trivial⟩, ht⟩, hS.F ht⟩) hS.2.2 d_m_isNow_10
set_option maxHeartbeats 4000000 in
set_option maxRecDepth 100000 in
theorem k_m_count (l : Launch) (D : va_G) (a : Nat → Nat) (kI kZ : ClassId) (F : Nat → Nat → Int32) (jt jk jd ju : Int32) (hI : rm_I F) (H0 : Heap) : rl_Ri l ⟨"RightsLimitModel", "count", "(IIII)I"⟩ (Cond.code ⟨"RightsLimitModel", "count", "(IIII)I"⟩ prog_7_method_11_code 7 (some .int) :: rl_G) { frames := 0, cells := 0, slots := 0, locals := 0 } D rl_cl (rl_tys kI kZ) [] [.ref (a 0), .int jt, .int jk, .int jd, .int ju] (rm_w a kI kZ F) H0 (fun (r : Int32) => True) := by
  refine rl_metr (cc := prog_7_method_11_code) (maxL := 7) (ret := (some .int)) (by decide) rfl (Nat.le_of_ble_eq_true rfl) ?_
  intro p e s m below meth c ls hx hb hr hml hown hts hlocks hP hK hS hN hl
  have hown : s.vm.findClass "RightsLimitModel" = some m.cls := hown
  have hG : ∀ x ∈ rl_G, x.before _ s = true := fun x h => hts x (List.mem_cons_of_mem _ h)
  have hl : lv_has ls 7 [(0, .ref (a 0)), (1, .int jt), (2, .int jk), (3, .int jd), (4, .int ju)] := hl
  obtain ⟨hcnt, hR⟩ := id hI
  refine lv_iconst (v := 0) hx hb d_m_count_0 (by decide) ?_
  refine lv_istore (lv' := [(5, .int 0), (0, .ref (a 0)), (1, .int jt), (2, .int jk), (3, .int jd), (4, .int ju)]) hx hb d_m_count_1 hl (by decide) rfl (fun ls hl => ?_)
  refine lv_iconst (v := 0) hx hb d_m_count_3 (by decide) ?_
  refine lv_istore (lv' := [(6, .int 0), (5, .int 0), (0, .ref (a 0)), (1, .int jt), (2, .int jk), (3, .int jd), (4, .int ju)]) hx hb d_m_count_4 hl (by decide) rfl (fun ls hl => ?_)
  have loop : ∀ (n : Nat) (fo i : Int32), 0 ≤ i.toInt → i.toInt ≤ (F 27 5).toInt → (F 27 5).toInt - i.toInt < n → ∀ (locs : List Loc) (ls : Array Slot), va_S (fun _ => False) s.heap s.heap locs → lv_has ls 7 [(0, .ref (a 0)), (1, .int jt), (2, .int jk), (3, .int jd), (4, .int ju), (5, .int fo), (6, .int i)] → W p l e ({ frames := 0, cells := 0, slots := 0, locals := 0 } : Room) s m ([.ref (a 0), .int jt, .int jk, .int jd, .int ju] : List Value).toArray below meth c s.heap locs 0 0 (MQ below (va_Qi (S := Unit) (fun (r : Int32) _ => True) (fun _ t => t.heap = s.heap) (fun _ => False)) ([.ref (a 0), .int jt, .int jk, .int jd, .int ju] : List Value).toArray s 0 0 (fun _ => False)) (F0 m 6 ls []) := by
    intro n
    induction n with
    | zero => intro fo i h1 h2 h3; exact absurd h3 (by omega)
    | succ n ih =>
      intro fo i h1 h2 h3 locs ls hS hl
      refine lv_iload hx hb d_m_count_6 (lv_at hl 6 rfl) ?_
      refine lv_aload_n hx hb d_m_count_8 rfl (lv_at hl 0 rfl) ?_
      refine va_get (D := D) (ci := 5) (v := .int (F 27 5)) (C := "RightsLimitModel") (T := fT_m) (N := 33) hx hb hG fi_m hown hK hP 0 rfl rfl 20 (by decide) (hG _ wd_503) (fun _ h9 => h9) rfl d_m_count_9 ?_
      refine lv_icmp_ge (tgt := 101) hx hb d_m_count_12 (by decide) (fun c1 => ?_) (fun c1 => ?_)
      · have ic1 := rl_ile c1
        refine lv_iload hx hb d_m_count_101 (lv_at hl 5 rfl) ?_
        exact W.iret (v := fo) hx hb hr (fun t ht hW => ⟨⟨fo, (), rfl, trivial, ht⟩, hS.F ht⟩) hS.2.2 d_m_count_103
      · have ic1 := rl_inle c1
        refine lv_aload_n hx hb d_m_count_15 rfl (lv_at hl 0 rfl) ?_
        refine va_get (D := D) (ci := 5) (v := .ref (a 17)) (C := "RightsLimitModel") (T := fT_m) (N := 33) hx hb hG fi_m hown hK hP 0 rfl rfl 22 (by decide) (hG _ wd_505) (fun _ h9 => h9) rfl d_m_count_16 ?_
        refine lv_iload hx hb d_m_count_19 (lv_at hl 6 rfl) ?_
        refine va_iald hx hb hK hP 17 0 rfl rfl (rl_in (n := 300) (by omega) (by omega)) d_m_count_21 ?_
        refine lv_topi (fun v2 ev2 => ?_)
        refine lv_iload_n hx hb d_m_count_22 rfl (lv_at hl 1 rfl) ?_
        refine lv_icmp_ne (tgt := 95) hx hb d_m_count_23 (by decide) (fun c3 => ?_) (fun c3 => ?_)
        · have ic3 := rl_ine c3
          obtain ⟨x4, ex4⟩ : ∃ y : Int32, y = i + 1 := ⟨_, rfl⟩
          refine lv_iinc (v := x4) (lv' := [(6, .int x4), (0, .ref (a 0)), (1, .int jt), (2, .int jk), (3, .int jd), (4, .int ju), (5, .int fo)]) hx hb d_m_count_95 hl (k := 6) rfl (by rw [ex4]; rfl) (by decide) rfl (fun ls hl => ?_)
          have ix4 : x4.toInt = i.toInt + 1 := by rw [ex4]; exact rl_inc (by omega)
          refine lv_goto (tgt := 6) hx hb d_m_count_98 (by decide) ?_
          exact ih fo x4 (by omega) (by omega) (by omega) _ _ hS (lv_sub hl [1, 2, 3, 4, 5, 6, 0] rfl)
        · have ic3 := rl_ieq c3
          refine lv_aload_n hx hb d_m_count_26 rfl (lv_at hl 0 rfl) ?_
          refine va_get (D := D) (ci := 5) (v := .ref (a 18)) (C := "RightsLimitModel") (T := fT_m) (N := 33) hx hb hG fi_m hown hK hP 0 rfl rfl 23 (by decide) (hG _ wd_506) (fun _ h9 => h9) rfl d_m_count_27 ?_
          refine lv_iload hx hb d_m_count_30 (lv_at hl 6 rfl) ?_
          refine va_iald hx hb hK hP 18 0 rfl rfl (rl_in (n := 300) (by omega) (by omega)) d_m_count_32 ?_
          refine lv_topi (fun v5 ev5 => ?_)
          refine lv_iload_n hx hb d_m_count_33 rfl (lv_at hl 2 rfl) ?_
          refine lv_icmp_ne (tgt := 95) hx hb d_m_count_34 (by decide) (fun c6 => ?_) (fun c6 => ?_)
          · have ic6 := rl_ine c6
            obtain ⟨x7, ex7⟩ : ∃ y : Int32, y = i + 1 := ⟨_, rfl⟩
            refine lv_iinc (v := x7) (lv' := [(6, .int x7), (0, .ref (a 0)), (1, .int jt), (2, .int jk), (3, .int jd), (4, .int ju), (5, .int fo)]) hx hb d_m_count_95 hl (k := 6) rfl (by rw [ex7]; rfl) (by decide) rfl (fun ls hl => ?_)
            have ix7 : x7.toInt = i.toInt + 1 := by rw [ex7]; exact rl_inc (by omega)
            refine lv_goto (tgt := 6) hx hb d_m_count_98 (by decide) ?_
            exact ih fo x7 (by omega) (by omega) (by omega) _ _ hS (lv_sub hl [1, 2, 3, 4, 5, 6, 0] rfl)
          · have ic6 := rl_ieq c6
            refine lv_aload_n hx hb d_m_count_37 rfl (lv_at hl 0 rfl) ?_
            refine va_get (D := D) (ci := 5) (v := .ref (a 21)) (C := "RightsLimitModel") (T := fT_m) (N := 33) hx hb hG fi_m hown hK hP 0 rfl rfl 26 (by decide) (hG _ wd_509) (fun _ h9 => h9) rfl d_m_count_38 ?_
            refine lv_iload hx hb d_m_count_41 (lv_at hl 6 rfl) ?_
            refine va_iald hx hb hK hP 21 0 rfl rfl (rl_in (n := 300) (by omega) (by omega)) d_m_count_43 ?_
            refine lv_topi (fun v8 ev8 => ?_)
            refine lv_iconst (v := 3) hx hb d_m_count_44 (by decide) ?_
            refine lv_icmp_ge (tgt := 51) hx hb d_m_count_45 (by decide) (fun c9 => ?_) (fun c9 => ?_)
            · have ic9 := rl_ile c9
              simp only [rl_n3] at ic9
              refine lv_iload hx hb d_m_count_51 (lv_at hl 5 rfl) ?_
              refine lv_aload_n hx hb d_m_count_53 rfl (lv_at hl 0 rfl) ?_
              refine va_get (D := D) (ci := 5) (v := .ref (a 20)) (C := "RightsLimitModel") (T := fT_m) (N := 33) hx hb hG fi_m hown hK hP 0 rfl rfl 25 (by decide) (hG _ wd_508) (fun _ h9 => h9) rfl d_m_count_54 ?_
              refine lv_iload hx hb d_m_count_57 (lv_at hl 6 rfl) ?_
              refine va_iald hx hb hK hP 20 0 rfl rfl (rl_in (n := 300) (by omega) (by omega)) d_m_count_59 ?_
              refine lv_topi (fun v10 ev10 => ?_)
              refine lv_iload hx hb d_m_count_60 (lv_at hl 4 rfl) ?_
              refine lv_icmp_gt (tgt := 91) hx hb d_m_count_62 (by decide) (fun c11 => ?_) (fun c11 => ?_)
              · have ic11 := rl_ilt c11
                refine lv_iconst (v := 0) hx hb d_m_count_91 (by decide) ?_
                refine lv_iadd hx hb d_m_count_92 ?_
                refine lv_topi (fun v12 ev12 => ?_)
                refine lv_istore (lv' := [(5, .int v12), (0, .ref (a 0)), (1, .int jt), (2, .int jk), (3, .int jd), (4, .int ju), (6, .int i)]) hx hb d_m_count_93 hl (by decide) rfl (fun ls hl => ?_)
                obtain ⟨x13, ex13⟩ : ∃ y : Int32, y = i + 1 := ⟨_, rfl⟩
                refine lv_iinc (v := x13) (lv' := [(6, .int x13), (5, .int v12), (0, .ref (a 0)), (1, .int jt), (2, .int jk), (3, .int jd), (4, .int ju)]) hx hb d_m_count_95 hl (k := 6) rfl (by rw [ex13]; rfl) (by decide) rfl (fun ls hl => ?_)
                have ix13 : x13.toInt = i.toInt + 1 := by rw [ex13]; exact rl_inc (by omega)
                refine lv_goto (tgt := 6) hx hb d_m_count_98 (by decide) ?_
                exact ih v12 x13 (by omega) (by omega) (by omega) _ _ hS (lv_sub hl [2, 3, 4, 5, 6, 1, 0] rfl)
              · have ic11 := rl_inlt c11
                refine lv_aload_n hx hb d_m_count_65 rfl (lv_at hl 0 rfl) ?_
                refine va_get (D := D) (ci := 5) (v := .ref (a 20)) (C := "RightsLimitModel") (T := fT_m) (N := 33) hx hb hG fi_m hown hK hP 0 rfl rfl 25 (by decide) (hG _ wd_508) (fun _ h9 => h9) rfl d_m_count_66 ?_
                refine lv_iload hx hb d_m_count_69 (lv_at hl 6 rfl) ?_
                refine va_iald hx hb hK hP 20 0 rfl rfl (rl_in (n := 300) (by omega) (by omega)) d_m_count_71 ?_
                refine lv_topi (fun v14 ev14 => ?_)
                refine lv_i2l hx hb d_m_count_72 rfl ?_
                refine lv_topl (fun y15 ey15 => ?_)
                refine lv_iload hx hb d_m_count_73 (lv_at hl 4 rfl) ?_
                refine lv_i2l hx hb d_m_count_75 rfl ?_
                refine lv_topl (fun y16 ey16 => ?_)
                refine lv_iload_n hx hb d_m_count_76 rfl (lv_at hl 3 rfl) ?_
                refine lv_i2l hx hb d_m_count_77 rfl ?_
                refine lv_topl (fun y17 ey17 => ?_)
                refine lv_ldc2 (v := 86400) hx hb hown (hG _ wd_635) d_m_count_78 ?_
                refine lv_lmul hx hb d_m_count_81 ?_
                refine lv_topl (fun y18 ey18 => ?_)
                refine lv_lsub hx hb d_m_count_82 ?_
                refine lv_topl (fun y19 ey19 => ?_)
                refine W.lcmp hx hb d_m_count_83 ?_
                refine lv_topi (fun v20 ev20 => ?_)
                refine lv_if_lt (tgt := 91) hx hb d_m_count_84 (by decide) (fun c21 => ?_) (fun c21 => ?_)
                · have ic21 := rl_ilt c21
                  simp only [rl_n0] at ic21
                  refine lv_iconst (v := 0) hx hb d_m_count_91 (by decide) ?_
                  refine lv_iadd hx hb d_m_count_92 ?_
                  refine lv_topi (fun v22 ev22 => ?_)
                  refine lv_istore (lv' := [(5, .int v22), (0, .ref (a 0)), (1, .int jt), (2, .int jk), (3, .int jd), (4, .int ju), (6, .int i)]) hx hb d_m_count_93 hl (by decide) rfl (fun ls hl => ?_)
                  obtain ⟨x23, ex23⟩ : ∃ y : Int32, y = i + 1 := ⟨_, rfl⟩
                  refine lv_iinc (v := x23) (lv' := [(6, .int x23), (5, .int v22), (0, .ref (a 0)), (1, .int jt), (2, .int jk), (3, .int jd), (4, .int ju)]) hx hb d_m_count_95 hl (k := 6) rfl (by rw [ex23]; rfl) (by decide) rfl (fun ls hl => ?_)
                  have ix23 : x23.toInt = i.toInt + 1 := by rw [ex23]; exact rl_inc (by omega)
                  refine lv_goto (tgt := 6) hx hb d_m_count_98 (by decide) ?_
                  exact ih v22 x23 (by omega) (by omega) (by omega) _ _ hS (lv_sub hl [2, 3, 4, 5, 6, 1, 0] rfl)
                · have ic21 := rl_inlt c21
                  simp only [rl_n0] at ic21
                  refine lv_iconst (v := 1) hx hb d_m_count_87 (by decide) ?_
                  refine lv_goto (tgt := 92) hx hb d_m_count_88 (by decide) ?_
                  refine lv_iadd hx hb d_m_count_92 ?_
                  refine lv_topi (fun v24 ev24 => ?_)
                  refine lv_istore (lv' := [(5, .int v24), (0, .ref (a 0)), (1, .int jt), (2, .int jk), (3, .int jd), (4, .int ju), (6, .int i)]) hx hb d_m_count_93 hl (by decide) rfl (fun ls hl => ?_)
                  obtain ⟨x25, ex25⟩ : ∃ y : Int32, y = i + 1 := ⟨_, rfl⟩
                  refine lv_iinc (v := x25) (lv' := [(6, .int x25), (5, .int v24), (0, .ref (a 0)), (1, .int jt), (2, .int jk), (3, .int jd), (4, .int ju)]) hx hb d_m_count_95 hl (k := 6) rfl (by rw [ex25]; rfl) (by decide) rfl (fun ls hl => ?_)
                  have ix25 : x25.toInt = i.toInt + 1 := by rw [ex25]; exact rl_inc (by omega)
                  refine lv_goto (tgt := 6) hx hb d_m_count_98 (by decide) ?_
                  exact ih v24 x25 (by omega) (by omega) (by omega) _ _ hS (lv_sub hl [2, 3, 4, 5, 6, 1, 0] rfl)
            · have ic9 := rl_inle c9
              simp only [rl_n3] at ic9
              refine lv_goto (tgt := 95) hx hb d_m_count_48 (by decide) ?_
              obtain ⟨x26, ex26⟩ : ∃ y : Int32, y = i + 1 := ⟨_, rfl⟩
              refine lv_iinc (v := x26) (lv' := [(6, .int x26), (0, .ref (a 0)), (1, .int jt), (2, .int jk), (3, .int jd), (4, .int ju), (5, .int fo)]) hx hb d_m_count_95 hl (k := 6) rfl (by rw [ex26]; rfl) (by decide) rfl (fun ls hl => ?_)
              have ix26 : x26.toInt = i.toInt + 1 := by rw [ex26]; exact rl_inc (by omega)
              refine lv_goto (tgt := 6) hx hb d_m_count_98 (by decide) ?_
              exact ih fo x26 (by omega) (by omega) (by omega) _ _ hS (lv_sub hl [1, 2, 3, 4, 5, 6, 0] rfl)
  exact loop 400 0 0 (by decide) (by simp only [rl_n0]; omega) (by simp only [rl_n0]; omega) _ _ hS (lv_sub hl [2, 3, 4, 5, 6, 1, 0] rfl)
set_option maxHeartbeats 4000000 in
set_option maxRecDepth 100000 in
theorem k_m_barrier (l : Launch) (D : va_G) (a : Nat → Nat) (kI kZ : ClassId) (F : Nat → Nat → Int32) (jt jk ju : Int32) (hI : rm_I F) (H0 : Heap) : rl_Ri l ⟨"RightsLimitModel", "barrier", "(III)I"⟩ (Cond.code ⟨"RightsLimitModel", "barrier", "(III)I"⟩ prog_7_method_12_code 5 (some .int) :: rl_G) { frames := 1, cells := 0, slots := 0, locals := 26 } D rl_cl (rl_tys kI kZ) [] [.ref (a 0), .int jt, .int jk, .int ju] (rm_w a kI kZ F) H0 (fun (r : Int32) => True) := by
  refine rl_metr (cc := prog_7_method_12_code) (maxL := 5) (ret := (some .int)) (by decide) rfl (Nat.le_of_ble_eq_true rfl) ?_
  intro p e s m below meth c ls hx hb hr hml hown hts hlocks hP hK hS hN hl
  have hown : s.vm.findClass "RightsLimitModel" = some m.cls := hown
  have hG : ∀ x ∈ rl_G, x.before _ s = true := fun x h => hts x (List.mem_cons_of_mem _ h)
  have hl : lv_has ls 5 [(0, .ref (a 0)), (1, .int jt), (2, .int jk), (3, .int ju)] := hl
  obtain ⟨hcnt, hR⟩ := id hI
  refine lv_iconst (v := 0) hx hb d_m_barrier_0 (by decide) ?_
  refine lv_istore (lv' := [(4, .int 0), (0, .ref (a 0)), (1, .int jt), (2, .int jk), (3, .int ju)]) hx hb d_m_barrier_1 hl (by decide) rfl (fun ls hl => ?_)
  have loop : ∀ (n : Nat) (i : Int32), 0 ≤ i.toInt → i.toInt ≤ (F 27 3).toInt → (F 27 3).toInt - i.toInt < n → ∀ (locs : List Loc) (ls : Array Slot), va_S (fun _ => False) s.heap s.heap locs → lv_has ls 5 [(0, .ref (a 0)), (1, .int jt), (2, .int jk), (3, .int ju), (4, .int i)] → W p l e ({ frames := 1, cells := 0, slots := 0, locals := 26 } : Room) s m ([.ref (a 0), .int jt, .int jk, .int ju] : List Value).toArray below meth c s.heap locs 0 0 (MQ below (va_Qi (S := Unit) (fun (r : Int32) _ => True) (fun _ t => t.heap = s.heap) (fun _ => False)) ([.ref (a 0), .int jt, .int jk, .int ju] : List Value).toArray s 0 0 (fun _ => False)) (F0 m 3 ls []) := by
    intro n
    induction n with
    | zero => intro i h1 h2 h3; exact absurd h3 (by omega)
    | succ n ih =>
      intro i h1 h2 h3 locs ls hS hl
      refine lv_iload hx hb d_m_barrier_3 (lv_at hl 4 rfl) ?_
      refine lv_aload_n hx hb d_m_barrier_5 rfl (lv_at hl 0 rfl) ?_
      refine va_get (D := D) (ci := 5) (v := .int (F 27 3)) (C := "RightsLimitModel") (T := fT_m) (N := 33) hx hb hG fi_m hown hK hP 0 rfl rfl 9 (by decide) (hG _ wd_492) (fun _ h9 => h9) rfl d_m_barrier_6 ?_
      refine lv_icmp_ge (tgt := 70) hx hb d_m_barrier_9 (by decide) (fun c1 => ?_) (fun c1 => ?_)
      · have ic1 := rl_ile c1
        refine lv_iconst (v := (-1)) hx hb d_m_barrier_70 (by decide) ?_
        exact W.iret (v := (-1)) hx hb hr (fun t ht hW => ⟨⟨(-1), (), rfl, trivial, ht⟩, hS.F ht⟩) hS.2.2 d_m_barrier_71
      · have ic1 := rl_inle c1
        refine lv_aload_n hx hb d_m_barrier_12 rfl (lv_at hl 0 rfl) ?_
        refine va_get (D := D) (ci := 5) (v := .ref (a 7)) (C := "RightsLimitModel") (T := fT_m) (N := 33) hx hb hG fi_m hown hK hP 0 rfl rfl 10 (by decide) (hG _ wd_493) (fun _ h9 => h9) rfl d_m_barrier_13 ?_
        refine lv_iload hx hb d_m_barrier_16 (lv_at hl 4 rfl) ?_
        refine va_iald hx hb hK hP 7 0 rfl rfl (rl_in (n := 100) (by omega) (by omega)) d_m_barrier_18 ?_
        refine lv_topi (fun v2 ev2 => ?_)
        refine lv_iload_n hx hb d_m_barrier_19 rfl (lv_at hl 1 rfl) ?_
        refine lv_icmp_ne (tgt := 64) hx hb d_m_barrier_20 (by decide) (fun c3 => ?_) (fun c3 => ?_)
        · have ic3 := rl_ine c3
          obtain ⟨x4, ex4⟩ : ∃ y : Int32, y = i + 1 := ⟨_, rfl⟩
          refine lv_iinc (v := x4) (lv' := [(4, .int x4), (0, .ref (a 0)), (1, .int jt), (2, .int jk), (3, .int ju)]) hx hb d_m_barrier_64 hl (k := 4) rfl (by rw [ex4]; rfl) (by decide) rfl (fun ls hl => ?_)
          have ix4 : x4.toInt = i.toInt + 1 := by rw [ex4]; exact rl_inc (by omega)
          refine lv_goto (tgt := 3) hx hb d_m_barrier_67 (by decide) ?_
          exact ih x4 (by omega) (by omega) (by omega) _ _ hS (lv_sub hl [1, 2, 3, 4, 0] rfl)
        · have ic3 := rl_ieq c3
          refine lv_aload_n hx hb d_m_barrier_23 rfl (lv_at hl 0 rfl) ?_
          refine va_get (D := D) (ci := 5) (v := .ref (a 8)) (C := "RightsLimitModel") (T := fT_m) (N := 33) hx hb hG fi_m hown hK hP 0 rfl rfl 11 (by decide) (hG _ wd_494) (fun _ h9 => h9) rfl d_m_barrier_24 ?_
          refine lv_iload hx hb d_m_barrier_27 (lv_at hl 4 rfl) ?_
          refine va_iald hx hb hK hP 8 0 rfl rfl (rl_in (n := 100) (by omega) (by omega)) d_m_barrier_29 ?_
          refine lv_topi (fun v5 ev5 => ?_)
          refine lv_iload_n hx hb d_m_barrier_30 rfl (lv_at hl 2 rfl) ?_
          refine lv_icmp_eq (tgt := 37) hx hb d_m_barrier_31 (by decide) (fun c6 => ?_) (fun c6 => ?_)
          · have ic6 := rl_ieq c6
            refine lv_aload_n hx hb d_m_barrier_37 rfl (lv_at hl 0 rfl) ?_
            refine lv_iload_n hx hb d_m_barrier_38 rfl (lv_at hl 1 rfl) ?_
            refine lv_iload_n hx hb d_m_barrier_39 rfl (lv_at hl 2 rfl) ?_
            refine lv_aload_n hx hb d_m_barrier_40 rfl (lv_at hl 0 rfl) ?_
            refine va_get (D := D) (ci := 5) (v := .ref (a 9)) (C := "RightsLimitModel") (T := fT_m) (N := 33) hx hb hG fi_m hown hK hP 0 rfl rfl 12 (by decide) (hG _ wd_495) (fun _ h9 => h9) rfl d_m_barrier_41 ?_
            refine lv_iload hx hb d_m_barrier_44 (lv_at hl 4 rfl) ?_
            refine va_iald hx hb hK hP 9 0 rfl rfl (rl_in (n := 100) (by omega) (by omega)) d_m_barrier_46 ?_
            refine lv_topi (fun v7 ev7 => ?_)
            refine lv_iload_n hx hb d_m_barrier_47 rfl (lv_at hl 3 rfl) ?_
            have hpre := rl_BR.pre (av := .ref (a 0) :: [.int jt, .int jk, .int v7, .int ju]) rl_nw0 hP hK hN
            refine rl_callr hS (va_runV (As := [.int jt, .int jk, .int v7, .int ju]) (rest := []) ⟨hx, hb, hml, hown, hG⟩ (k_m_count l D a kI kZ F jt jk v7 ju ⟨by omega, hR⟩ _) (cwV 4 hG (rl_gV wd_631 wd_633 wd_11 wd_19 wd_634) rfl rfl rfl (by decide +kernel) ⟨Nat.le_of_ble_eq_true rfl, Nat.le_of_ble_eq_true rfl⟩) ⟨hpre.1, (va_recv hK hP (ci := 5) (q0 := 0) rfl rfl), hpre.2⟩ rfl rfl hl.1 rfl (lv_room (Nat.le_of_ble_eq_true rfl)) d_m_barrier_48 ⟨Nat.le_of_ble_eq_true rfl, Nat.le_of_ble_eq_true rfl⟩) (fun r8 locs hw hS => ?_)
            have hwr8 := hw
            refine lv_aload_n hx hb d_m_barrier_51 rfl (lv_at hl 0 rfl) ?_
            refine va_get (D := D) (ci := 5) (v := .ref (a 10)) (C := "RightsLimitModel") (T := fT_m) (N := 33) hx hb hG fi_m hown hK hP 0 rfl rfl 13 (by decide) (hG _ wd_496) (fun _ h9 => h9) rfl d_m_barrier_52 ?_
            refine lv_iload hx hb d_m_barrier_55 (lv_at hl 4 rfl) ?_
            refine va_iald hx hb hK hP 10 0 rfl rfl (rl_in (n := 100) (by omega) (by omega)) d_m_barrier_57 ?_
            refine lv_topi (fun v9 ev9 => ?_)
            refine lv_icmp_lt (tgt := 64) hx hb d_m_barrier_58 (by decide) (fun c10 => ?_) (fun c10 => ?_)
            · have ic10 := rl_ilt c10
              obtain ⟨x11, ex11⟩ : ∃ y : Int32, y = i + 1 := ⟨_, rfl⟩
              refine lv_iinc (v := x11) (lv' := [(4, .int x11), (0, .ref (a 0)), (1, .int jt), (2, .int jk), (3, .int ju)]) hx hb d_m_barrier_64 hl (k := 4) rfl (by rw [ex11]; rfl) (by decide) rfl (fun ls hl => ?_)
              have ix11 : x11.toInt = i.toInt + 1 := by rw [ex11]; exact rl_inc (by omega)
              refine lv_goto (tgt := 3) hx hb d_m_barrier_67 (by decide) ?_
              exact ih x11 (by omega) (by omega) (by omega) _ _ hS (lv_sub hl [1, 2, 3, 4, 0] rfl)
            · have ic10 := rl_inlt c10
              refine lv_iload hx hb d_m_barrier_61 (lv_at hl 4 rfl) ?_
              exact W.iret (v := i) hx hb hr (fun t ht hW => ⟨⟨i, (), rfl, trivial, ht⟩, hS.F ht⟩) hS.2.2 d_m_barrier_63
          · have ic6 := rl_ine c6
            refine lv_goto (tgt := 64) hx hb d_m_barrier_34 (by decide) ?_
            obtain ⟨x12, ex12⟩ : ∃ y : Int32, y = i + 1 := ⟨_, rfl⟩
            refine lv_iinc (v := x12) (lv' := [(4, .int x12), (0, .ref (a 0)), (1, .int jt), (2, .int jk), (3, .int ju)]) hx hb d_m_barrier_64 hl (k := 4) rfl (by rw [ex12]; rfl) (by decide) rfl (fun ls hl => ?_)
            have ix12 : x12.toInt = i.toInt + 1 := by rw [ex12]; exact rl_inc (by omega)
            refine lv_goto (tgt := 3) hx hb d_m_barrier_67 (by decide) ?_
            exact ih x12 (by omega) (by omega) (by omega) _ _ hS (lv_sub hl [1, 2, 3, 4, 0] rfl)
  exact loop 400 0 (by decide) (by simp only [rl_n0]; omega) (by simp only [rl_n0]; omega) _ _ hS (lv_sub hl [1, 2, 3, 4, 0] rfl)
set_option maxHeartbeats 4000000 in
set_option maxRecDepth 100000 in
theorem k_m_licenceFor (l : Launch) (D : va_G) (a : Nat → Nat) (kI kZ : ClassId) (F : Nat → Nat → Int32) (jt jk ju : Int32) (hI : rm_I F) (H0 : Heap) : rl_Ri l ⟨"RightsLimitModel", "licenceFor", "(III)I"⟩ (Cond.code ⟨"RightsLimitModel", "licenceFor", "(III)I"⟩ prog_7_method_13_code 5 (some .int) :: rl_G) { frames := 1, cells := 0, slots := 0, locals := 22 } D rl_cl (rl_tys kI kZ) [] [.ref (a 0), .int jt, .int jk, .int ju] (rm_w a kI kZ F) H0 (fun (r : Int32) => (r.toInt = -1 ∧ ¬ rm_Ex F jt jk ju) ∨ ((0 ≤ r.toInt ∧ r.toInt < (F 27 4).toInt) ∧ rm_Ex F jt jk ju)) := by
  refine rl_metr (cc := prog_7_method_13_code) (maxL := 5) (ret := (some .int)) (by decide) rfl (Nat.le_of_ble_eq_true rfl) ?_
  intro p e s m below meth c ls hx hb hr hml hown hts hlocks hP hK hS hN hl
  have hown : s.vm.findClass "RightsLimitModel" = some m.cls := hown
  have hG : ∀ x ∈ rl_G, x.before _ s = true := fun x h => hts x (List.mem_cons_of_mem _ h)
  have hl : lv_has ls 5 [(0, .ref (a 0)), (1, .int jt), (2, .int jk), (3, .int ju)] := hl
  obtain ⟨hcnt, hR⟩ := id hI
  refine lv_iconst (v := 0) hx hb d_m_licenceFor_0 (by decide) ?_
  refine lv_istore (lv' := [(4, .int 0), (0, .ref (a 0)), (1, .int jt), (2, .int jk), (3, .int ju)]) hx hb d_m_licenceFor_1 hl (by decide) rfl (fun ls hl => ?_)
  have loop : ∀ (n : Nat) (i : Int32), 0 ≤ i.toInt → i.toInt ≤ (F 27 4).toInt → (F 27 4).toInt - i.toInt < n → ∀ (locs : List Loc) (ls : Array Slot), va_S (fun _ => False) s.heap s.heap locs → lv_has ls 5 [(0, .ref (a 0)), (1, .int jt), (2, .int jk), (3, .int ju), (4, .int i)] → (∀ j : Int32, 0 ≤ j.toInt → j.toInt < i.toInt → ¬ rm_C F jt jk ju j) → W p l e ({ frames := 1, cells := 0, slots := 0, locals := 22 } : Room) s m ([.ref (a 0), .int jt, .int jk, .int ju] : List Value).toArray below meth c s.heap locs 0 0 (MQ below (va_Qi (S := Unit) (fun (r : Int32) _ => (r.toInt = -1 ∧ ¬ rm_Ex F jt jk ju) ∨ ((0 ≤ r.toInt ∧ r.toInt < (F 27 4).toInt) ∧ rm_Ex F jt jk ju)) (fun _ t => t.heap = s.heap) (fun _ => False)) ([.ref (a 0), .int jt, .int jk, .int ju] : List Value).toArray s 0 0 (fun _ => False)) (F0 m 3 ls []) := by
    intro n
    induction n with
    | zero => intro i h1 h2 h3; exact absurd h3 (by omega)
    | succ n ih =>
      intro i h1 h2 h3 locs ls hS hl hj0
      refine lv_iload hx hb d_m_licenceFor_3 (lv_at hl 4 rfl) ?_
      refine lv_aload_n hx hb d_m_licenceFor_5 rfl (lv_at hl 0 rfl) ?_
      refine va_get (D := D) (ci := 5) (v := .int (F 27 4)) (C := "RightsLimitModel") (T := fT_m) (N := 33) hx hb hG fi_m hown hK hP 0 rfl rfl 14 (by decide) (hG _ wd_497) (fun _ h9 => h9) rfl d_m_licenceFor_6 ?_
      refine lv_icmp_ge (tgt := 74) hx hb d_m_licenceFor_9 (by decide) (fun c1 => ?_) (fun c1 => ?_)
      · have ic1 := rl_ile c1
        refine lv_iconst (v := (-1)) hx hb d_m_licenceFor_74 (by decide) ?_
        exact W.iret (v := (-1)) hx hb hr (fun t ht hW => ⟨⟨(-1), (), rfl, Or.inl ⟨by decide, fun ⟨j, h1, h2, h3⟩ => hj0 j h1 (by omega) h3⟩, ht⟩, hS.F ht⟩) hS.2.2 d_m_licenceFor_75
      · have ic1 := rl_inle c1
        refine lv_aload_n hx hb d_m_licenceFor_12 rfl (lv_at hl 0 rfl) ?_
        refine va_get (D := D) (ci := 5) (v := .ref (a 11)) (C := "RightsLimitModel") (T := fT_m) (N := 33) hx hb hG fi_m hown hK hP 0 rfl rfl 15 (by decide) (hG _ wd_498) (fun _ h9 => h9) rfl d_m_licenceFor_13 ?_
        refine lv_iload hx hb d_m_licenceFor_16 (lv_at hl 4 rfl) ?_
        refine va_iald hx hb hK hP 11 0 rfl rfl (rl_in (n := 50) (by omega) (by omega)) d_m_licenceFor_18 ?_
        refine lv_topi (fun v2 ev2 => ?_)
        have jv2 : v2.toInt = (F 10 i.toNatClampNeg).toInt := by rw [ev2]
        refine lv_iload_n hx hb d_m_licenceFor_19 rfl (lv_at hl 1 rfl) ?_
        refine lv_icmp_ne (tgt := 68) hx hb d_m_licenceFor_20 (by decide) (fun c3 => ?_) (fun c3 => ?_)
        · have ic3 := rl_ine c3
          obtain ⟨x4, ex4⟩ : ∃ y : Int32, y = i + 1 := ⟨_, rfl⟩
          refine lv_iinc (v := x4) (lv' := [(4, .int x4), (0, .ref (a 0)), (1, .int jt), (2, .int jk), (3, .int ju)]) hx hb d_m_licenceFor_68 hl (k := 4) rfl (by rw [ex4]; rfl) (by decide) rfl (fun ls hl => ?_)
          have ix4 : x4.toInt = i.toInt + 1 := by rw [ex4]; exact rl_inc (by omega)
          refine lv_goto (tgt := 3) hx hb d_m_licenceFor_71 (by decide) ?_
          exact ih x4 (by omega) (by omega) (by omega) _ _ hS (lv_sub hl [1, 2, 3, 4, 0] rfl) (fun j g1 g2 g3 => by
            rcases Classical.em (j.toInt < i.toInt) with g | g
            · exact hj0 j g1 g g3
            · have e9 : j = i := Int32.toInt_inj.mp (by omega)
              rw [e9] at g3
              obtain ⟨a1, a2, a3, a4, a5⟩ := g3
              omega)
        · have ic3 := rl_ieq c3
          refine lv_aload_n hx hb d_m_licenceFor_23 rfl (lv_at hl 0 rfl) ?_
          refine va_get (D := D) (ci := 5) (v := .ref (a 12)) (C := "RightsLimitModel") (T := fT_m) (N := 33) hx hb hG fi_m hown hK hP 0 rfl rfl 16 (by decide) (hG _ wd_499) (fun _ h9 => h9) rfl d_m_licenceFor_24 ?_
          refine lv_iload hx hb d_m_licenceFor_27 (lv_at hl 4 rfl) ?_
          refine va_iald hx hb hK hP 12 0 rfl rfl (rl_in (n := 50) (by omega) (by omega)) d_m_licenceFor_29 ?_
          refine lv_topi (fun v5 ev5 => ?_)
          have jv5 : v5.toInt = (F 11 i.toNatClampNeg).toInt := by rw [ev5]
          refine lv_iload_n hx hb d_m_licenceFor_30 rfl (lv_at hl 2 rfl) ?_
          refine lv_icmp_ne (tgt := 68) hx hb d_m_licenceFor_31 (by decide) (fun c6 => ?_) (fun c6 => ?_)
          · have ic6 := rl_ine c6
            obtain ⟨x7, ex7⟩ : ∃ y : Int32, y = i + 1 := ⟨_, rfl⟩
            refine lv_iinc (v := x7) (lv' := [(4, .int x7), (0, .ref (a 0)), (1, .int jt), (2, .int jk), (3, .int ju)]) hx hb d_m_licenceFor_68 hl (k := 4) rfl (by rw [ex7]; rfl) (by decide) rfl (fun ls hl => ?_)
            have ix7 : x7.toInt = i.toInt + 1 := by rw [ex7]; exact rl_inc (by omega)
            refine lv_goto (tgt := 3) hx hb d_m_licenceFor_71 (by decide) ?_
            exact ih x7 (by omega) (by omega) (by omega) _ _ hS (lv_sub hl [1, 2, 3, 4, 0] rfl) (fun j g1 g2 g3 => by
            rcases Classical.em (j.toInt < i.toInt) with g | g
            · exact hj0 j g1 g g3
            · have e9 : j = i := Int32.toInt_inj.mp (by omega)
              rw [e9] at g3
              obtain ⟨a1, a2, a3, a4, a5⟩ := g3
              omega)
          · have ic6 := rl_ieq c6
            refine lv_iload_n hx hb d_m_licenceFor_34 rfl (lv_at hl 3 rfl) ?_
            refine lv_aload_n hx hb d_m_licenceFor_35 rfl (lv_at hl 0 rfl) ?_
            refine va_get (D := D) (ci := 5) (v := .ref (a 14)) (C := "RightsLimitModel") (T := fT_m) (N := 33) hx hb hG fi_m hown hK hP 0 rfl rfl 18 (by decide) (hG _ wd_501) (fun _ h9 => h9) rfl d_m_licenceFor_36 ?_
            refine lv_iload hx hb d_m_licenceFor_39 (lv_at hl 4 rfl) ?_
            refine va_iald hx hb hK hP 14 0 rfl rfl (rl_in (n := 50) (by omega) (by omega)) d_m_licenceFor_41 ?_
            refine lv_topi (fun v8 ev8 => ?_)
            have jv8 : v8.toInt = (F 13 i.toNatClampNeg).toInt := by rw [ev8]
            refine lv_aload_n hx hb d_m_licenceFor_42 rfl (lv_at hl 0 rfl) ?_
            refine va_get (D := D) (ci := 5) (v := .ref (a 15)) (C := "RightsLimitModel") (T := fT_m) (N := 33) hx hb hG fi_m hown hK hP 0 rfl rfl 19 (by decide) (hG _ wd_502) (fun _ h9 => h9) rfl d_m_licenceFor_43 ?_
            refine lv_iload hx hb d_m_licenceFor_46 (lv_at hl 4 rfl) ?_
            refine va_iald hx hb hK hP 15 0 rfl rfl (rl_in (n := 50) (by omega) (by omega)) d_m_licenceFor_48 ?_
            refine lv_topi (fun v9 ev9 => ?_)
            have jv9 : v9.toInt = (F 14 i.toNatClampNeg).toInt := by rw [ev9]
            refine rl_callr hS (va_runS (As := [.int ju, .int v8, .int v9]) (rest := []) ⟨hx, hb, hml, hown, hG⟩ (k_m_in l D a kI kZ ju v8 v9 _) (cwS 3 hG (rl_gS wd_587 wd_588 wd_19 wd_589) rfl rfl rfl (by decide +kernel) ⟨Nat.le_of_ble_eq_true rfl, Nat.le_of_ble_eq_true rfl⟩) (rl_BR.pre rl_nw0 rl_P0 hK hN) rfl rfl hl.1 rfl (lv_room (Nat.le_of_ble_eq_true rfl)) d_m_licenceFor_49 ⟨Nat.le_of_ble_eq_true rfl, Nat.le_of_ble_eq_true rfl⟩) (fun r10 locs hw hS => ?_)
            rcases hw with ⟨rfl, h11⟩ | ⟨rfl, h11⟩
            · refine lv_if_eq (tgt := 68) hx hb d_m_licenceFor_52 (by decide) (fun c9 => absurd c9 (by decide)) (fun _ => ?_)
              refine lv_aload_n hx hb d_m_licenceFor_55 rfl (lv_at hl 0 rfl) ?_
              refine va_get (D := D) (ci := 5) (v := .ref (a 13)) (C := "RightsLimitModel") (T := fT_m) (N := 33) hx hb hG fi_m hown hK hP 0 rfl rfl 17 (by decide) (hG _ wd_500) (fun _ h9 => h9) rfl d_m_licenceFor_56 ?_
              refine lv_iload hx hb d_m_licenceFor_59 (lv_at hl 4 rfl) ?_
              refine va_iald hx hb hK hP 13 0 rfl rfl (rl_in (n := 50) (by omega) (by omega)) d_m_licenceFor_61 ?_
              refine lv_topi (fun v12 ev12 => ?_)
              have jv12 : v12.toInt = (F 12 i.toNatClampNeg).toInt := by rw [ev12]
              refine lv_if_le (tgt := 68) hx hb d_m_licenceFor_62 (by decide) (fun c13 => ?_) (fun c13 => ?_)
              · have ic13 := rl_ile c13
                simp only [rl_n0] at ic13
                obtain ⟨x14, ex14⟩ : ∃ y : Int32, y = i + 1 := ⟨_, rfl⟩
                refine lv_iinc (v := x14) (lv' := [(4, .int x14), (0, .ref (a 0)), (1, .int jt), (2, .int jk), (3, .int ju)]) hx hb d_m_licenceFor_68 hl (k := 4) rfl (by rw [ex14]; rfl) (by decide) rfl (fun ls hl => ?_)
                have ix14 : x14.toInt = i.toInt + 1 := by rw [ex14]; exact rl_inc (by omega)
                refine lv_goto (tgt := 3) hx hb d_m_licenceFor_71 (by decide) ?_
                exact ih x14 (by omega) (by omega) (by omega) _ _ hS (lv_sub hl [1, 2, 3, 4, 0] rfl) (fun j g1 g2 g3 => by
            rcases Classical.em (j.toInt < i.toInt) with g | g
            · exact hj0 j g1 g g3
            · have e9 : j = i := Int32.toInt_inj.mp (by omega)
              rw [e9] at g3
              obtain ⟨a1, a2, a3, a4, a5⟩ := g3
              omega)
              · have ic13 := rl_inle c13
                simp only [rl_n0] at ic13
                refine lv_iload hx hb d_m_licenceFor_65 (lv_at hl 4 rfl) ?_
                exact W.iret (v := i) hx hb hr (fun t ht hW => ⟨⟨i, (), rfl, Or.inr ⟨⟨by omega, by omega⟩, i, by omega, by omega, (show rm_C F jt jk ju i from ⟨by omega, by omega, by omega, by omega, by omega⟩)⟩, ht⟩, hS.F ht⟩) hS.2.2 d_m_licenceFor_67
            · refine lv_if_eq (tgt := 68) hx hb d_m_licenceFor_52 (by decide) (fun _ => ?_) (fun c9 => absurd c9 (by decide))
              obtain ⟨x15, ex15⟩ : ∃ y : Int32, y = i + 1 := ⟨_, rfl⟩
              refine lv_iinc (v := x15) (lv' := [(4, .int x15), (0, .ref (a 0)), (1, .int jt), (2, .int jk), (3, .int ju)]) hx hb d_m_licenceFor_68 hl (k := 4) rfl (by rw [ex15]; rfl) (by decide) rfl (fun ls hl => ?_)
              have ix15 : x15.toInt = i.toInt + 1 := by rw [ex15]; exact rl_inc (by omega)
              refine lv_goto (tgt := 3) hx hb d_m_licenceFor_71 (by decide) ?_
              exact ih x15 (by omega) (by omega) (by omega) _ _ hS (lv_sub hl [1, 2, 3, 4, 0] rfl) (fun j g1 g2 g3 => by
            rcases Classical.em (j.toInt < i.toInt) with g | g
            · exact hj0 j g1 g g3
            · have e9 : j = i := Int32.toInt_inj.mp (by omega)
              rw [e9] at g3
              obtain ⟨a1, a2, a3, a4, a5⟩ := g3
              omega)
  exact loop 400 0 (by decide) (by simp only [rl_n0]; omega) (by simp only [rl_n0]; omega) _ _ hS (lv_sub hl [1, 2, 3, 4, 0] rfl) (fun j h1 h2 _ => by simp only [rl_n0] at h2; omega)
set_option maxHeartbeats 4000000 in
set_option maxRecDepth 100000 in
theorem k_m_decide (l : Launch) (D : va_G) (a : Nat → Nat) (kI kZ : ClassId) (F : Nat → Nat → Int32) (jt jk ju : Int32) (hI : rm_I F) (ht0 : 0 ≤ jt.toInt) (ht1 : jt.toInt < 50) (H0 : Heap) : rl_Ri l ⟨"RightsLimitModel", "decide", "(III)I"⟩ (Cond.code ⟨"RightsLimitModel", "decide", "(III)I"⟩ prog_7_method_14_code 4 (some .int) :: rl_G) { frames := 2, cells := 0, slots := 0, locals := 50 } D rl_cl (rl_tys kI kZ) [] [.ref (a 0), .int jt, .int jk, .int ju] (rm_w a kI kZ F) H0 (fun (r : Int32) => (0 ≤ r.toInt ∧ r.toInt ≤ 5) ∧ rm_Ix r F jt jk ju) := by
  refine rl_metr (cc := prog_7_method_14_code) (maxL := 4) (ret := (some .int)) (by decide) rfl (Nat.le_of_ble_eq_true rfl) ?_
  intro p e s m below meth c ls hx hb hr hml hown hts hlocks hP hK hS hN hl
  have hown : s.vm.findClass "RightsLimitModel" = some m.cls := hown
  have hG : ∀ x ∈ rl_G, x.before _ s = true := fun x h => hts x (List.mem_cons_of_mem _ h)
  have hl : lv_has ls 4 [(0, .ref (a 0)), (1, .int jt), (2, .int jk), (3, .int ju)] := hl
  obtain ⟨hcnt, hR⟩ := id hI
  refine lv_aload_n hx hb d_m_decide_0 rfl (lv_at hl 0 rfl) ?_
  refine va_get (D := D) (ci := 5) (v := .ref (a 2)) (C := "RightsLimitModel") (T := fT_m) (N := 33) hx hb hG fi_m hown hK hP 0 rfl rfl 4 (by decide) (hG _ wd_487) (fun _ h9 => h9) rfl d_m_decide_1 ?_
  refine lv_iload_n hx hb d_m_decide_4 rfl (lv_at hl 1 rfl) ?_
  refine va_zald hx hb hK hP 2 1 rfl rfl (rl_in (n := 50) (by omega) (by omega)) d_m_decide_5 ?_
  refine lv_topi (fun v1 ev1 => ?_)
  refine lv_if_eq (tgt := 11) hx hb d_m_decide_6 (by decide) (fun c2 => ?_) (fun c2 => ?_)
  · have ic2 := rl_ieq c2
    simp only [rl_n0] at ic2
    refine lv_aload_n hx hb d_m_decide_11 rfl (lv_at hl 0 rfl) ?_
    refine lv_iload_n hx hb d_m_decide_12 rfl (lv_at hl 1 rfl) ?_
    refine lv_iload_n hx hb d_m_decide_13 rfl (lv_at hl 2 rfl) ?_
    refine lv_iload_n hx hb d_m_decide_14 rfl (lv_at hl 3 rfl) ?_
    have hpre := rl_BR.pre (av := .ref (a 0) :: [.int jt, .int jk, .int ju]) rl_nw0 hP hK hN
    refine rl_callr hS (va_runV (As := [.int jt, .int jk, .int ju]) (rest := []) ⟨hx, hb, hml, hown, hG⟩ (k_m_licenceFor l D a kI kZ F jt jk ju ⟨by omega, hR⟩ _) (cwV 3 hG (rl_gV wd_623 wd_625 wd_9 wd_19 wd_626) rfl rfl rfl (by decide +kernel) ⟨Nat.le_of_ble_eq_true rfl, Nat.le_of_ble_eq_true rfl⟩) ⟨hpre.1, (va_recv hK hP (ci := 5) (q0 := 0) rfl rfl), hpre.2⟩ rfl rfl hl.1 rfl (lv_room (Nat.le_of_ble_eq_true rfl)) d_m_decide_15 ⟨Nat.le_of_ble_eq_true rfl, Nat.le_of_ble_eq_true rfl⟩) (fun r3 locs hw hS => ?_)
    have hwr3 := hw
    refine lv_if_lt (tgt := 23) hx hb d_m_decide_18 (by decide) (fun c4 => ?_) (fun c4 => ?_)
    · have ic4 := rl_ilt c4
      simp only [rl_n0] at ic4
      refine lv_aload_n hx hb d_m_decide_23 rfl (lv_at hl 0 rfl) ?_
      refine lv_iload_n hx hb d_m_decide_24 rfl (lv_at hl 1 rfl) ?_
      refine lv_iload_n hx hb d_m_decide_25 rfl (lv_at hl 2 rfl) ?_
      refine lv_iload_n hx hb d_m_decide_26 rfl (lv_at hl 3 rfl) ?_
      have hpre := rl_BR.pre (av := .ref (a 0) :: [.int jt, .int jk, .int ju]) rl_nw0 hP hK hN
      refine rl_callr hS (va_runV (As := [.int jt, .int jk, .int ju]) (rest := []) ⟨hx, hb, hml, hown, hG⟩ (k_m_barrier l D a kI kZ F jt jk ju ⟨by omega, hR⟩ _) (cwV 3 hG (rl_gV wd_627 wd_629 wd_10 wd_19 wd_630) rfl rfl rfl (by decide +kernel) ⟨Nat.le_of_ble_eq_true rfl, Nat.le_of_ble_eq_true rfl⟩) ⟨hpre.1, (va_recv hK hP (ci := 5) (q0 := 0) rfl rfl), hpre.2⟩ rfl rfl hl.1 rfl (lv_room (Nat.le_of_ble_eq_true rfl)) d_m_decide_27 ⟨Nat.le_of_ble_eq_true rfl, Nat.le_of_ble_eq_true rfl⟩) (fun r5 locs hw hS => ?_)
      have hwr5 := hw
      refine lv_if_ge (tgt := 35) hx hb d_m_decide_30 (by decide) (fun c6 => ?_) (fun c6 => ?_)
      · have ic6 := rl_ile c6
        simp only [rl_n0] at ic6
        refine lv_aload_n hx hb d_m_decide_35 rfl (lv_at hl 0 rfl) ?_
        refine va_get (D := D) (ci := 5) (v := .ref (a 4)) (C := "RightsLimitModel") (T := fT_m) (N := 33) hx hb hG fi_m hown hK hP 0 rfl rfl 6 (by decide) (hG _ wd_489) (fun _ h9 => h9) rfl d_m_decide_36 ?_
        refine lv_iload_n hx hb d_m_decide_39 rfl (lv_at hl 1 rfl) ?_
        refine va_iald hx hb hK hP 4 0 rfl rfl (rl_in (n := 50) (by omega) (by omega)) d_m_decide_40 ?_
        refine lv_topi (fun v7 ev7 => ?_)
        refine lv_if_le (tgt := 46) hx hb d_m_decide_41 (by decide) (fun c8 => ?_) (fun c8 => ?_)
        · have ic8 := rl_ile c8
          simp only [rl_n0] at ic8
          refine lv_aload_n hx hb d_m_decide_46 rfl (lv_at hl 0 rfl) ?_
          refine va_get (D := D) (ci := 5) (v := .ref (a 5)) (C := "RightsLimitModel") (T := fT_m) (N := 33) hx hb hG fi_m hown hK hP 0 rfl rfl 7 (by decide) (hG _ wd_490) (fun _ h9 => h9) rfl d_m_decide_47 ?_
          refine lv_aload_n hx hb d_m_decide_50 rfl (lv_at hl 0 rfl) ?_
          refine va_get (D := D) (ci := 5) (v := .ref (a 1)) (C := "RightsLimitModel") (T := fT_m) (N := 33) hx hb hG fi_m hown hK hP 0 rfl rfl 3 (by decide) (hG _ wd_486) (fun _ h9 => h9) rfl d_m_decide_51 ?_
          refine lv_iload_n hx hb d_m_decide_54 rfl (lv_at hl 1 rfl) ?_
          refine va_iald hx hb hK hP 1 0 rfl rfl (rl_in (n := 50) (by omega) (by omega)) d_m_decide_55 ?_
          refine lv_topi (fun v9 ev9 => ?_)
          have iv9 : 0 ≤ v9.toInt ∧ v9.toInt < 100 := by rw [ev9]; exact hR.1 _
          refine va_iald hx hb hK hP 5 0 rfl rfl (rl_in (n := 100) (by omega) (by omega)) d_m_decide_56 ?_
          refine lv_topi (fun v10 ev10 => ?_)
          refine lv_if_le (tgt := 64) hx hb d_m_decide_57 (by decide) (fun c11 => ?_) (fun c11 => ?_)
          · have ic11 := rl_ile c11
            simp only [rl_n0] at ic11
            refine lv_iconst (v := 0) hx hb d_m_decide_64 (by decide) ?_
            exact W.iret (v := 0) hx hb hr (fun t ht hW => ⟨⟨0, (), rfl, ⟨by have q9 := rl_n0; omega, fun h => absurd h (by decide)⟩, ht⟩, hS.F ht⟩) hS.2.2 d_m_decide_65
          · have ic11 := rl_inle c11
            simp only [rl_n0] at ic11
            refine lv_iconst (v := 5) hx hb d_m_decide_60 (by decide) ?_
            refine lv_goto (tgt := 65) hx hb d_m_decide_61 (by decide) ?_
            exact W.iret (v := 5) hx hb hr (fun t ht hW => ⟨⟨5, (), rfl, ⟨by have q9 := rl_n5; omega, fun h => absurd h (by decide)⟩, ht⟩, hS.F ht⟩) hS.2.2 d_m_decide_65
        · have ic8 := rl_inle c8
          simp only [rl_n0] at ic8
          refine lv_iconst (v := 4) hx hb d_m_decide_44 (by decide) ?_
          exact W.iret (v := 4) hx hb hr (fun t ht hW => ⟨⟨4, (), rfl, ⟨by have q9 := rl_n4; omega, fun h => absurd h (by decide)⟩, ht⟩, hS.F ht⟩) hS.2.2 d_m_decide_45
      · have ic6 := rl_inle c6
        simp only [rl_n0] at ic6
        refine lv_iconst (v := 3) hx hb d_m_decide_33 (by decide) ?_
        exact W.iret (v := 3) hx hb hr (fun t ht hW => ⟨⟨3, (), rfl, ⟨by have q9 := rl_n3; omega, fun h => absurd h (by decide)⟩, ht⟩, hS.F ht⟩) hS.2.2 d_m_decide_34
    · have ic4 := rl_inlt c4
      simp only [rl_n0] at ic4
      refine lv_iconst (v := 2) hx hb d_m_decide_21 (by decide) ?_
      exact W.iret (v := 2) hx hb hr (fun t ht hW => ⟨⟨2, (), rfl, ⟨by have q9 := rl_n2; omega, fun h => (by rcases hwr3 with ⟨h1, _⟩ | h1 <;> first | exact h1.2 | (exfalso; omega))⟩, ht⟩, hS.F ht⟩) hS.2.2 d_m_decide_22
  · have ic2 := rl_ine c2
    simp only [rl_n0] at ic2
    refine lv_iconst (v := 1) hx hb d_m_decide_9 (by decide) ?_
    exact W.iret (v := 1) hx hb hr (fun t ht hW => ⟨⟨1, (), rfl, ⟨by have q9 := rl_n1; omega, fun h => absurd h (by decide)⟩, ht⟩, hS.F ht⟩) hS.2.2 d_m_decide_10
set_option maxHeartbeats 4000000 in
set_option maxRecDepth 100000 in
theorem k_m_cents (l : Launch) (D : va_G) (a : Nat → Nat) (kI kZ : ClassId) (F : Nat → Nat → Int32) (jn : Int32) (hI : rm_I F) (hn0 : 0 ≤ jn.toInt) (hn1 : jn.toInt < 300) (H0 : Heap) : rl_Ri l ⟨"RightsLimitModel", "cents", "(I)I"⟩ (Cond.code ⟨"RightsLimitModel", "cents", "(I)I"⟩ prog_7_method_23_code 2 (some .int) :: rl_G) { frames := 0, cells := 0, slots := 0, locals := 0 } D rl_cl (rl_tys kI kZ) [] [.ref (a 0), .int jn] (rm_w a kI kZ F) H0 (fun (r : Int32) => True) := by
  refine rl_metr (cc := prog_7_method_23_code) (maxL := 2) (ret := (some .int)) (by decide) rfl (Nat.le_of_ble_eq_true rfl) ?_
  intro p e s m below meth c ls hx hb hr hml hown hts hlocks hP hK hS hN hl
  have hown : s.vm.findClass "RightsLimitModel" = some m.cls := hown
  have hG : ∀ x ∈ rl_G, x.before _ s = true := fun x h => hts x (List.mem_cons_of_mem _ h)
  have hl : lv_has ls 2 [(0, .ref (a 0)), (1, .int jn)] := hl
  obtain ⟨hcnt, hR⟩ := id hI
  refine lv_aload_n hx hb d_m_cents_0 rfl (lv_at hl 0 rfl) ?_
  refine va_get (D := D) (ci := 5) (v := .ref (a 23)) (C := "RightsLimitModel") (T := fT_m) (N := 33) hx hb hG fi_m hown hK hP 0 rfl rfl 28 (by decide) (hG _ wd_511) (fun _ h9 => h9) rfl d_m_cents_1 ?_
  refine lv_iload_n hx hb d_m_cents_4 rfl (lv_at hl 1 rfl) ?_
  refine va_iald hx hb hK hP 23 0 rfl rfl (rl_in (n := 300) (by omega) (by omega)) d_m_cents_5 ?_
  refine lv_topi (fun v1 ev1 => ?_)
  refine lv_iconst (v := 1) hx hb d_m_cents_6 (by decide) ?_
  refine lv_aload_n hx hb d_m_cents_7 rfl (lv_at hl 0 rfl) ?_
  refine va_get (D := D) (ci := 5) (v := .ref (a 25)) (C := "RightsLimitModel") (T := fT_m) (N := 33) hx hb hG fi_m hown hK hP 0 rfl rfl 30 (by decide) (hG _ wd_513) (fun _ h9 => h9) rfl d_m_cents_8 ?_
  refine lv_iload_n hx hb d_m_cents_11 rfl (lv_at hl 1 rfl) ?_
  refine va_iald hx hb hK hP 25 0 rfl rfl (rl_in (n := 300) (by omega) (by omega)) d_m_cents_12 ?_
  refine lv_topi (fun v2 ev2 => ?_)
  refine lv_iadd hx hb d_m_cents_13 ?_
  refine lv_topi (fun v3 ev3 => ?_)
  refine lv_imul hx hb d_m_cents_14 ?_
  refine lv_topi (fun v4 ev4 => ?_)
  exact W.iret (v := v4) hx hb hr (fun t ht hW => ⟨⟨v4, (), rfl, trivial, ht⟩, hS.F ht⟩) hS.2.2 d_m_cents_15
