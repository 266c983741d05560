set_option maxHeartbeats 4000000 in
set_option maxRecDepth 100000 in
theorem k_m_statistics (l : Launch) (D : va_G) (a : Nat → Nat) (kI kZ : ClassId) (F : Nat → Nat → Int32) (jn jw : Int32) (hI : rm_I F) (sz : Nat) : rl_Ci (S := Nat → Nat → Int32) l ⟨"RightsLimitModel", "statistics", "(II)I"⟩ (Cond.code ⟨"RightsLimitModel", "statistics", "(II)I"⟩ prog_7_method_26_code 5 (some .int) :: rl_G) { frames := 1, cells := 0, slots := 0, locals := 22 } D rl_cl (rl_tys kI kZ) [] [.ref (a 0), .int jn, .int jw] (rm_w a kI kZ F) sz (fun (r : Int32) (F' : Nat → Nat → Int32) => rm_R F' ∧ ((F' 27 2).toInt = (F 27 2).toInt ∧ (F' 27 3).toInt = (F 27 3).toInt ∧ (F' 27 4).toInt = (F 27 4).toInt ∧ (F' 27 5).toInt = (F 27 5).toInt)) (fun F' => rm_w a kI kZ F') 0 0 := by
  refine rl_meti (cc := prog_7_method_26_code) (maxL := 5) (ret := (some .int)) (by decide) rfl (Nat.le_of_ble_eq_true rfl) ?_
  intro p e s m below meth c A ls hx hb hr hml hown hts hlocks hnm hP hK hD hS hA hN hl
  have hown : s.vm.findClass "RightsLimitModel" = some m.cls := hown
  have hG : ∀ x ∈ rl_G, x.before _ s = true := fun x h => hts x (List.mem_cons_of_mem _ h)
  have hl : lv_has ls 5 [(0, .ref (a 0)), (1, .int jn), (2, .int jw)] := hl
  obtain ⟨hcnt, hR⟩ := id hI
  refine lv_aload_n hx hb d_m_statistics_0 rfl (lv_at hl 0 rfl) ?_
  refine lv_iconst (v := 0) hx hb d_m_statistics_1 (by decide) ?_
  refine va_put (D := D) (ci := 5) (v := .int 0) (ty := .int) (C := "RightsLimitModel") (T := fT_m) (N := 33) hx hb hG fi_m fy_m fo_m fn_m hown hK hP hD hS 0 rfl rfl 0 (by decide) (hG _ wd_483) (fun _ h9 => h9) rfl (by decide +kernel) rfl rfl (Nat.le_of_ble_eq_true rfl) d_m_statistics_2 (fun H locs hP hD hS => ?_)
  obtain ⟨F1, eF1⟩ : ∃ G, G = rl_st F 27 0 0 := ⟨_, rfl⟩
  have hP : va_P D rl_cl (rm_w a kI kZ F1) H := by rw [eF1]; exact hP
  have hD : va_D A (rm_w a kI kZ F1) := by rw [eF1]; exact hD
  obtain ⟨tF1, hRF1⟩ := rm_putS eF1 (by decide) (by decide) (by decide) (by decide) hR
  refine lv_iload_n hx hb d_m_statistics_5 rfl (lv_at hl 1 rfl) ?_
  refine lv_iconst (v := 0) hx hb d_m_statistics_6 (by decide) ?_
  refine lv_bipush (v := 99) hx hb d_m_statistics_7 (by decide) ?_
  refine rl_callr hS (va_runS (As := [.int jn, .int 0, .int 99]) (rest := []) ⟨hx, hb, hml, hown, hG⟩ (k_m_in l D a kI kZ jn 0 99 _) (cwS 3 hG (rl_gS wd_587 wd_588 wd_19 wd_589) rfl rfl rfl (by decide +kernel) ⟨Nat.le_of_ble_eq_true rfl, Nat.le_of_ble_eq_true rfl⟩) (rl_BR.pre rl_nw0 rl_P0 hK hN) rfl rfl hl.1 rfl (lv_room (Nat.le_of_ble_eq_true rfl)) d_m_statistics_9 ⟨Nat.le_of_ble_eq_true rfl, Nat.le_of_ble_eq_true rfl⟩) (fun r2 locs hw hS => ?_)
  try simp only [rl_n0, rl_n99] at hw
  rcases hw with ⟨rfl, h3⟩ | ⟨rfl, h3⟩
  · refine lv_if_eq (tgt := 24) hx hb d_m_statistics_12 (by decide) (fun c9 => absurd c9 (by decide)) (fun _ => ?_)
    refine lv_iload_n hx hb d_m_statistics_15 rfl (lv_at hl 2 rfl) ?_
    refine lv_iconst (v := 0) hx hb d_m_statistics_16 (by decide) ?_
    refine lv_iconst (v := 3) hx hb d_m_statistics_17 (by decide) ?_
    refine rl_callr hS (va_runS (As := [.int jw, .int 0, .int 3]) (rest := []) ⟨hx, hb, hml, hown, hG⟩ (k_m_in l D a kI kZ jw 0 3 _) (cwS 3 hG (rl_gS wd_587 wd_588 wd_19 wd_589) rfl rfl rfl (by decide +kernel) ⟨Nat.le_of_ble_eq_true rfl, Nat.le_of_ble_eq_true rfl⟩) (rl_BR.pre rl_nw0 rl_P0 hK hN) rfl rfl hl.1 rfl (lv_room (Nat.le_of_ble_eq_true rfl)) d_m_statistics_18 ⟨Nat.le_of_ble_eq_true rfl, Nat.le_of_ble_eq_true rfl⟩) (fun r4 locs hw hS => ?_)
    try simp only [rl_n0, rl_n3] at hw
    rcases hw with ⟨rfl, h5⟩ | ⟨rfl, h5⟩
    · refine lv_if_ne (tgt := 26) hx hb d_m_statistics_21 (by decide) (fun _ => ?_) (fun c9 => absurd c9 (by decide))
      refine lv_iconst (v := 0) hx hb d_m_statistics_26 (by decide) ?_
      refine lv_istore_n (lv' := [(3, .int 0), (0, .ref (a 0)), (1, .int jn), (2, .int jw)]) hx hb d_m_statistics_27 rfl hl (by decide) rfl (fun ls hl => ?_)
      refine lv_iconst (v := 0) hx hb d_m_statistics_28 (by decide) ?_
      refine lv_istore (lv' := [(4, .int 0), (3, .int 0), (0, .ref (a 0)), (1, .int jn), (2, .int jw)]) hx hb d_m_statistics_29 hl (by decide) rfl (fun ls hl => ?_)
      have loop : ∀ (n : Nat) (fo i : Int32), 0 ≤ i.toInt → i.toInt ≤ (F1 27 5).toInt → (F1 27 5).toInt - i.toInt < n → ∀ (H : Heap) (locs : List Loc) (ls : Array Slot), va_P D rl_cl (rm_w a kI kZ F1) H → va_D A (rm_w a kI kZ F1) → va_S A s.heap H locs → lv_has ls 5 [(0, .ref (a 0)), (1, .int jn), (2, .int jw), (3, .int fo), (4, .int i)] → W p l e ({ frames := 1, cells := 0, slots := 0, locals := 22 } : Room) s m ([.ref (a 0), .int jn, .int jw] : List Value).toArray below meth c H locs 0 0 (MQ below (va_Qi (S := Nat → Nat → Int32) (fun (r : Int32) (F' : Nat → Nat → Int32) => rm_R F' ∧ ((F' 27 2).toInt = (F 27 2).toInt ∧ (F' 27 3).toInt = (F 27 3).toInt ∧ (F' 27 4).toInt = (F 27 4).toInt ∧ (F' 27 5).toInt = (F 27 5).toInt)) (fun u t => va_P D rl_cl (rm_w a kI kZ u) t.heap ∧ va_D A (rm_w a kI kZ u)) A) ([.ref (a 0), .int jn, .int jw] : List Value).toArray s 0 0 A) (F0 m 31 ls []) := by
        intro n
        induction n with
        | zero => intro fo i h1 h2 h3; exact absurd h3 (by omega)
        | succ n ih =>
          intro fo i h1 h2 h3 H locs ls hP hD hS hl
          refine lv_iload hx hb d_m_statistics_31 (lv_at hl 4 rfl) ?_
          refine lv_aload_n hx hb d_m_statistics_33 rfl (lv_at hl 0 rfl) ?_
          refine va_get (D := D) (ci := 5) (v := .int (F1 27 5)) (C := "RightsLimitModel") (T := fT_m) (N := 33) hx hb hG fi_m hown hK hP 0 rfl rfl 20 (by decide) (hG _ wd_503) (fun _ h9 => h9) rfl d_m_statistics_34 ?_
          refine lv_icmp_ge (tgt := 129) hx hb d_m_statistics_37 (by decide) (fun c6 => ?_) (fun c6 => ?_)
          · have ic6 := rl_ile c6
            refine lv_iload_n hx hb d_m_statistics_129 rfl (lv_at hl 3 rfl) ?_
            exact W.iret (v := fo) hx hb hr (fun t ht hW => ⟨⟨fo, F1, rfl, ⟨hRF1, (show (F1 27 2).toInt = (F 27 2).toInt ∧ (F1 27 3).toInt = (F 27 3).toInt ∧ (F1 27 4).toInt = (F 27 4).toInt ∧ (F1 27 5).toInt = (F 27 5).toInt by omega)⟩, ⟨by rw [ht]; exact hP, hD⟩⟩, hS.F ht⟩) hS.2.2 d_m_statistics_130
          · have ic6 := rl_inle c6
            refine lv_aload_n hx hb d_m_statistics_40 rfl (lv_at hl 0 rfl) ?_
            refine va_get (D := D) (ci := 5) (v := .ref (a 16)) (C := "RightsLimitModel") (T := fT_m) (N := 33) hx hb hG fi_m hown hK hP 0 rfl rfl 21 (by decide) (hG _ wd_504) (fun _ h9 => h9) rfl d_m_statistics_41 ?_
            refine lv_iload hx hb d_m_statistics_44 (lv_at hl 4 rfl) ?_
            refine va_iald hx hb hK hP 16 0 rfl rfl (rl_in (n := 300) (by omega) (by omega)) d_m_statistics_46 ?_
            refine lv_topi (fun v7 ev7 => ?_)
            refine lv_iload_n hx hb d_m_statistics_47 rfl (lv_at hl 1 rfl) ?_
            refine lv_icmp_eq (tgt := 54) hx hb d_m_statistics_48 (by decide) (fun c8 => ?_) (fun c8 => ?_)
            · have ic8 := rl_ieq c8
              refine lv_iload_n hx hb d_m_statistics_54 rfl (lv_at hl 3 rfl) ?_
              refine lv_iload_n hx hb d_m_statistics_55 rfl (lv_at hl 2 rfl) ?_
              refine lv_if_ne (tgt := 63) hx hb d_m_statistics_56 (by decide) (fun c9 => ?_) (fun c9 => ?_)
              · have ic9 := rl_ine c9
                simp only [rl_n0] at ic9
                refine lv_iload_n hx hb d_m_statistics_63 rfl (lv_at hl 2 rfl) ?_
                refine lv_iconst (v := 1) hx hb d_m_statistics_64 (by decide) ?_
                refine lv_icmp_ne (tgt := 86) hx hb d_m_statistics_65 (by decide) (fun c10 => ?_) (fun c10 => ?_)
                · have ic10 := rl_ine c10
                  simp only [rl_n1] at ic10
                  refine lv_iload_n hx hb d_m_statistics_86 rfl (lv_at hl 2 rfl) ?_
                  refine lv_iconst (v := 2) hx hb d_m_statistics_87 (by decide) ?_
                  refine lv_icmp_ne (tgt := 115) hx hb d_m_statistics_88 (by decide) (fun c11 => ?_) (fun c11 => ?_)
                  · have ic11 := rl_ine c11
                    simp only [rl_n2] at ic11
                    refine lv_aload_n hx hb d_m_statistics_115 rfl (lv_at hl 0 rfl) ?_
                    refine lv_iload hx hb d_m_statistics_116 (lv_at hl 4 rfl) ?_
                    have hpre := rl_BR.pre (av := .ref (a 0) :: [.int i]) rl_nw0 hP hK hN
                    refine rl_callr hS (va_runV (As := [.int i]) (rest := [.int fo]) ⟨hx, hb, hml, hown, hG⟩ (k_m_cents l D a kI kZ F1 i ⟨by omega, hRF1⟩ (by omega) (by omega) _) (cwV 1 hG (rl_gV wd_669 wd_671 wd_12 wd_19 wd_672) rfl rfl rfl (by decide +kernel) ⟨Nat.le_of_ble_eq_true rfl, Nat.le_of_ble_eq_true rfl⟩) ⟨hpre.1, (va_recv hK hP (ci := 5) (q0 := 0) rfl rfl), hpre.2⟩ rfl rfl hl.1 rfl (lv_room (Nat.le_of_ble_eq_true rfl)) d_m_statistics_118 ⟨Nat.le_of_ble_eq_true rfl, Nat.le_of_ble_eq_true rfl⟩) (fun r12 locs hw hS => ?_)
                    have hwr12 := hw
                    refine lv_iadd hx hb d_m_statistics_121 ?_
                    refine lv_topi (fun v13 ev13 => ?_)
                    refine lv_istore_n (lv' := [(3, .int v13), (0, .ref (a 0)), (1, .int jn), (2, .int jw), (4, .int i)]) hx hb d_m_statistics_122 rfl hl (by decide) rfl (fun ls hl => ?_)
                    obtain ⟨x14, ex14⟩ : ∃ y : Int32, y = i + 1 := ⟨_, rfl⟩
                    refine lv_iinc (v := x14) (lv' := [(4, .int x14), (3, .int v13), (0, .ref (a 0)), (1, .int jn), (2, .int jw)]) hx hb d_m_statistics_123 hl (k := 4) rfl (by rw [ex14]; rfl) (by decide) rfl (fun ls hl => ?_)
                    have ix14 : x14.toInt = i.toInt + 1 := by rw [ex14]; exact rl_inc (by omega)
                    refine lv_goto (tgt := 31) hx hb d_m_statistics_126 (by decide) ?_
                    exact ih v13 x14 (by omega) (by omega) (by omega) _ _ _ hP hD hS (lv_sub hl [2, 3, 4, 1, 0] rfl)
                  · have ic11 := rl_ieq c11
                    simp only [rl_n2] at ic11
                    refine lv_aload_n hx hb d_m_statistics_91 rfl (lv_at hl 0 rfl) ?_
                    refine va_get (D := D) (ci := 5) (v := .ref (a 21)) (C := "RightsLimitModel") (T := fT_m) (N := 33) hx hb hG fi_m hown hK hP 0 rfl rfl 26 (by decide) (hG _ wd_509) (fun _ h9 => h9) rfl d_m_statistics_92 ?_
                    refine lv_iload hx hb d_m_statistics_95 (lv_at hl 4 rfl) ?_
                    refine va_iald hx hb hK hP 21 0 rfl rfl (rl_in (n := 300) (by omega) (by omega)) d_m_statistics_97 ?_
                    refine lv_topi (fun v15 ev15 => ?_)
                    refine lv_if_ne (tgt := 105) hx hb d_m_statistics_98 (by decide) (fun c16 => ?_) (fun c16 => ?_)
                    · have ic16 := rl_ine c16
                      simp only [rl_n0] at ic16
                      refine lv_aload_n hx hb d_m_statistics_105 rfl (lv_at hl 0 rfl) ?_
                      refine va_get (D := D) (ci := 5) (v := .ref (a 19)) (C := "RightsLimitModel") (T := fT_m) (N := 33) hx hb hG fi_m hown hK hP 0 rfl rfl 24 (by decide) (hG _ wd_507) (fun _ h9 => h9) rfl d_m_statistics_106 ?_
                      refine lv_iload hx hb d_m_statistics_109 (lv_at hl 4 rfl) ?_
                      refine va_iald hx hb hK hP 19 0 rfl rfl (rl_in (n := 300) (by omega) (by omega)) d_m_statistics_111 ?_
                      refine lv_topi (fun v17 ev17 => ?_)
                      refine lv_goto (tgt := 121) hx hb d_m_statistics_112 (by decide) ?_
                      refine lv_iadd hx hb d_m_statistics_121 ?_
                      refine lv_topi (fun v18 ev18 => ?_)
                      refine lv_istore_n (lv' := [(3, .int v18), (0, .ref (a 0)), (1, .int jn), (2, .int jw), (4, .int i)]) hx hb d_m_statistics_122 rfl hl (by decide) rfl (fun ls hl => ?_)
                      obtain ⟨x19, ex19⟩ : ∃ y : Int32, y = i + 1 := ⟨_, rfl⟩
                      refine lv_iinc (v := x19) (lv' := [(4, .int x19), (3, .int v18), (0, .ref (a 0)), (1, .int jn), (2, .int jw)]) hx hb d_m_statistics_123 hl (k := 4) rfl (by rw [ex19]; rfl) (by decide) rfl (fun ls hl => ?_)
                      have ix19 : x19.toInt = i.toInt + 1 := by rw [ex19]; exact rl_inc (by omega)
                      refine lv_goto (tgt := 31) hx hb d_m_statistics_126 (by decide) ?_
                      exact ih v18 x19 (by omega) (by omega) (by omega) _ _ _ hP hD hS (lv_sub hl [2, 3, 4, 1, 0] rfl)
                    · have ic16 := rl_ieq c16
                      simp only [rl_n0] at ic16
                      refine lv_iconst (v := 0) hx hb d_m_statistics_101 (by decide) ?_
                      refine lv_goto (tgt := 121) hx hb d_m_statistics_102 (by decide) ?_
                      refine lv_iadd hx hb d_m_statistics_121 ?_
                      refine lv_topi (fun v20 ev20 => ?_)
                      refine lv_istore_n (lv' := [(3, .int v20), (0, .ref (a 0)), (1, .int jn), (2, .int jw), (4, .int i)]) hx hb d_m_statistics_122 rfl hl (by decide) rfl (fun ls hl => ?_)
                      obtain ⟨x21, ex21⟩ : ∃ y : Int32, y = i + 1 := ⟨_, rfl⟩
                      refine lv_iinc (v := x21) (lv' := [(4, .int x21), (3, .int v20), (0, .ref (a 0)), (1, .int jn), (2, .int jw)]) hx hb d_m_statistics_123 hl (k := 4) rfl (by rw [ex21]; rfl) (by decide) rfl (fun ls hl => ?_)
                      have ix21 : x21.toInt = i.toInt + 1 := by rw [ex21]; exact rl_inc (by omega)
                      refine lv_goto (tgt := 31) hx hb d_m_statistics_126 (by decide) ?_
                      exact ih v20 x21 (by omega) (by omega) (by omega) _ _ _ hP hD hS (lv_sub hl [2, 3, 4, 1, 0] rfl)
                · have ic10 := rl_ieq c10
                  simp only [rl_n1] at ic10
                  refine lv_aload_n hx hb d_m_statistics_68 rfl (lv_at hl 0 rfl) ?_
                  refine va_get (D := D) (ci := 5) (v := .ref (a 21)) (C := "RightsLimitModel") (T := fT_m) (N := 33) hx hb hG fi_m hown hK hP 0 rfl rfl 26 (by decide) (hG _ wd_509) (fun _ h9 => h9) rfl d_m_statistics_69 ?_
                  refine lv_iload hx hb d_m_statistics_72 (lv_at hl 4 rfl) ?_
                  refine va_iald hx hb hK hP 21 0 rfl rfl (rl_in (n := 300) (by omega) (by omega)) d_m_statistics_74 ?_
                  refine lv_topi (fun v22 ev22 => ?_)
                  refine lv_if_ne (tgt := 82) hx hb d_m_statistics_75 (by decide) (fun c23 => ?_) (fun c23 => ?_)
                  · have ic23 := rl_ine c23
                    simp only [rl_n0] at ic23
                    refine lv_iconst (v := 0) hx hb d_m_statistics_82 (by decide) ?_
                    refine lv_goto (tgt := 121) hx hb d_m_statistics_83 (by decide) ?_
                    refine lv_iadd hx hb d_m_statistics_121 ?_
                    refine lv_topi (fun v24 ev24 => ?_)
                    refine lv_istore_n (lv' := [(3, .int v24), (0, .ref (a 0)), (1, .int jn), (2, .int jw), (4, .int i)]) hx hb d_m_statistics_122 rfl hl (by decide) rfl (fun ls hl => ?_)
                    obtain ⟨x25, ex25⟩ : ∃ y : Int32, y = i + 1 := ⟨_, rfl⟩
                    refine lv_iinc (v := x25) (lv' := [(4, .int x25), (3, .int v24), (0, .ref (a 0)), (1, .int jn), (2, .int jw)]) hx hb d_m_statistics_123 hl (k := 4) rfl (by rw [ex25]; rfl) (by decide) rfl (fun ls hl => ?_)
                    have ix25 : x25.toInt = i.toInt + 1 := by rw [ex25]; exact rl_inc (by omega)
                    refine lv_goto (tgt := 31) hx hb d_m_statistics_126 (by decide) ?_
                    exact ih v24 x25 (by omega) (by omega) (by omega) _ _ _ hP hD hS (lv_sub hl [2, 3, 4, 1, 0] rfl)
                  · have ic23 := rl_ieq c23
                    simp only [rl_n0] at ic23
                    refine lv_iconst (v := 1) hx hb d_m_statistics_78 (by decide) ?_
                    refine lv_goto (tgt := 121) hx hb d_m_statistics_79 (by decide) ?_
                    refine lv_iadd hx hb d_m_statistics_121 ?_
                    refine lv_topi (fun v26 ev26 => ?_)
                    refine lv_istore_n (lv' := [(3, .int v26), (0, .ref (a 0)), (1, .int jn), (2, .int jw), (4, .int i)]) hx hb d_m_statistics_122 rfl hl (by decide) rfl (fun ls hl => ?_)
                    obtain ⟨x27, ex27⟩ : ∃ y : Int32, y = i + 1 := ⟨_, rfl⟩
                    refine lv_iinc (v := x27) (lv' := [(4, .int x27), (3, .int v26), (0, .ref (a 0)), (1, .int jn), (2, .int jw)]) hx hb d_m_statistics_123 hl (k := 4) rfl (by rw [ex27]; rfl) (by decide) rfl (fun ls hl => ?_)
                    have ix27 : x27.toInt = i.toInt + 1 := by rw [ex27]; exact rl_inc (by omega)
                    refine lv_goto (tgt := 31) hx hb d_m_statistics_126 (by decide) ?_
                    exact ih v26 x27 (by omega) (by omega) (by omega) _ _ _ hP hD hS (lv_sub hl [2, 3, 4, 1, 0] rfl)
              · have ic9 := rl_ieq c9
                simp only [rl_n0] at ic9
                refine lv_iconst (v := 1) hx hb d_m_statistics_59 (by decide) ?_
                refine lv_goto (tgt := 121) hx hb d_m_statistics_60 (by decide) ?_
                refine lv_iadd hx hb d_m_statistics_121 ?_
                refine lv_topi (fun v28 ev28 => ?_)
                refine lv_istore_n (lv' := [(3, .int v28), (0, .ref (a 0)), (1, .int jn), (2, .int jw), (4, .int i)]) hx hb d_m_statistics_122 rfl hl (by decide) rfl (fun ls hl => ?_)
                obtain ⟨x29, ex29⟩ : ∃ y : Int32, y = i + 1 := ⟨_, rfl⟩
                refine lv_iinc (v := x29) (lv' := [(4, .int x29), (3, .int v28), (0, .ref (a 0)), (1, .int jn), (2, .int jw)]) hx hb d_m_statistics_123 hl (k := 4) rfl (by rw [ex29]; rfl) (by decide) rfl (fun ls hl => ?_)
                have ix29 : x29.toInt = i.toInt + 1 := by rw [ex29]; exact rl_inc (by omega)
                refine lv_goto (tgt := 31) hx hb d_m_statistics_126 (by decide) ?_
                exact ih v28 x29 (by omega) (by omega) (by omega) _ _ _ hP hD hS (lv_sub hl [2, 3, 4, 1, 0] rfl)
            · have ic8 := rl_ine c8
              refine lv_goto (tgt := 123) hx hb d_m_statistics_51 (by decide) ?_
              obtain ⟨x30, ex30⟩ : ∃ y : Int32, y = i + 1 := ⟨_, rfl⟩
              refine lv_iinc (v := x30) (lv' := [(4, .int x30), (0, .ref (a 0)), (1, .int jn), (2, .int jw), (3, .int fo)]) hx hb d_m_statistics_123 hl (k := 4) rfl (by rw [ex30]; rfl) (by decide) rfl (fun ls hl => ?_)
              have ix30 : x30.toInt = i.toInt + 1 := by rw [ex30]; exact rl_inc (by omega)
              refine lv_goto (tgt := 31) hx hb d_m_statistics_126 (by decide) ?_
              exact ih fo x30 (by omega) (by omega) (by omega) _ _ _ hP hD hS (lv_sub hl [1, 2, 3, 4, 0] rfl)
      exact loop 400 0 0 (by decide) (by simp only [rl_n0]; omega) (by simp only [rl_n0]; omega) _ _ _ hP hD hS (lv_sub hl [2, 3, 4, 1, 0] rfl)
    · refine lv_if_ne (tgt := 26) hx hb d_m_statistics_21 (by decide) (fun c9 => absurd c9 (by decide)) (fun _ => ?_)
      refine lv_iconst (v := (-1)) hx hb d_m_statistics_24 (by decide) ?_
      exact W.iret (v := (-1)) hx hb hr (fun t ht hW => ⟨⟨(-1), F1, rfl, ⟨hRF1, (show (F1 27 2).toInt = (F 27 2).toInt ∧ (F1 27 3).toInt = (F 27 3).toInt ∧ (F1 27 4).toInt = (F 27 4).toInt ∧ (F1 27 5).toInt = (F 27 5).toInt by have q9 := rl_nm1; omega)⟩, ⟨by rw [ht]; exact hP, hD⟩⟩, hS.F ht⟩) hS.2.2 d_m_statistics_25
  · refine lv_if_eq (tgt := 24) hx hb d_m_statistics_12 (by decide) (fun _ => ?_) (fun c9 => absurd c9 (by decide))
    refine lv_iconst (v := (-1)) hx hb d_m_statistics_24 (by decide) ?_
    exact W.iret (v := (-1)) hx hb hr (fun t ht hW => ⟨⟨(-1), F1, rfl, ⟨hRF1, (show (F1 27 2).toInt = (F 27 2).toInt ∧ (F1 27 3).toInt = (F 27 3).toInt ∧ (F1 27 4).toInt = (F 27 4).toInt ∧ (F1 27 5).toInt = (F 27 5).toInt by have q9 := rl_nm1; omega)⟩, ⟨by rw [ht]; exact hP, hD⟩⟩, hS.F ht⟩) hS.2.2 d_m_statistics_25
set_option maxHeartbeats 4000000 in
set_option maxRecDepth 100000 in
theorem k_m_request (l : Launch) (D : va_G) (a : Nat → Nat) (kI kZ : ClassId) (F : Nat → Nat → Int32) (jn jw : Int32) (hI : rm_I F) (sz : Nat) : rl_Ci (S := Nat → Nat → Int32) l ⟨"RightsLimitModel", "request", "(II)I"⟩ (Cond.code ⟨"RightsLimitModel", "request", "(II)I"⟩ prog_7_method_24_code 3 (some .int) :: rl_G) { frames := 1, cells := 0, slots := 0, locals := 22 } D rl_cl (rl_tys kI kZ) [] [.ref (a 0), .int jn, .int jw] (rm_w a kI kZ F) sz (fun (r : Int32) (F' : Nat → Nat → Int32) => rm_R F' ∧ ((F' 27 2).toInt = (F 27 2).toInt ∧ (F' 27 3).toInt = (F 27 3).toInt ∧ (F' 27 4).toInt = (F 27 4).toInt ∧ (F' 27 5).toInt = (F 27 5).toInt)) (fun F' => rm_w a kI kZ F') 0 0 := by
  refine rl_meti (cc := prog_7_method_24_code) (maxL := 3) (ret := (some .int)) (by decide) rfl (Nat.le_of_ble_eq_true rfl) ?_
  intro p e s m below meth c A ls hx hb hr hml hown hts hlocks hnm hP hK hD hS hA hN hl
  have hown : s.vm.findClass "RightsLimitModel" = some m.cls := hown
  have hG : ∀ x ∈ rl_G, x.before _ s = true := fun x h => hts x (List.mem_cons_of_mem _ h)
  have hl : lv_has ls 3 [(0, .ref (a 0)), (1, .int jn), (2, .int jw)] := hl
  obtain ⟨hcnt, hR⟩ := id hI
  refine lv_aload_n hx hb d_m_request_0 rfl (lv_at hl 0 rfl) ?_
  refine lv_iload_n hx hb d_m_request_1 rfl (lv_at hl 1 rfl) ?_
  refine lv_iconst (v := 0) hx hb d_m_request_2 (by decide) ?_
  refine lv_aload_n hx hb d_m_request_3 rfl (lv_at hl 0 rfl) ?_
  refine va_get (D := D) (ci := 5) (v := .int (F 27 5)) (C := "RightsLimitModel") (T := fT_m) (N := 33) hx hb hG fi_m hown hK hP 0 rfl rfl 20 (by decide) (hG _ wd_503) (fun _ h9 => h9) rfl d_m_request_4 ?_
  refine lv_iconst (v := 1) hx hb d_m_request_7 (by decide) ?_
  refine lv_isub hx hb d_m_request_8 ?_
  refine lv_topi (fun v1 ev1 => ?_)
  have iv1 : v1.toInt = (F 27 5).toInt - 1 := by rw [ev1]; exact rl_subk (by decide) (by omega) (by omega)
  refine rl_callr hS (va_runS (As := [.int jn, .int 0, .int v1]) (rest := [.ref (a 0)]) ⟨hx, hb, hml, hown, hG⟩ (k_m_in l D a kI kZ jn 0 v1 _) (cwS 3 hG (rl_gS wd_587 wd_588 wd_19 wd_589) rfl rfl rfl (by decide +kernel) ⟨Nat.le_of_ble_eq_true rfl, Nat.le_of_ble_eq_true rfl⟩) (rl_BR.pre rl_nw0 rl_P0 hK hN) rfl rfl hl.1 rfl (lv_room (Nat.le_of_ble_eq_true rfl)) d_m_request_9 ⟨Nat.le_of_ble_eq_true rfl, Nat.le_of_ble_eq_true rfl⟩) (fun r2 locs hw hS => ?_)
  try simp only [rl_n0] at hw
  rcases hw with ⟨rfl, h3⟩ | ⟨rfl, h3⟩
  · refine lv_if_eq (tgt := 25) hx hb d_m_request_12 (by decide) (fun c9 => absurd c9 (by decide)) (fun _ => ?_)
    refine lv_iload_n hx hb d_m_request_15 rfl (lv_at hl 2 rfl) ?_
    refine lv_iconst (v := 0) hx hb d_m_request_16 (by decide) ?_
    refine lv_bipush (v := 10) hx hb d_m_request_17 (by decide) ?_
    refine rl_callr hS (va_runS (As := [.int jw, .int 0, .int 10]) (rest := [.ref (a 0)]) ⟨hx, hb, hml, hown, hG⟩ (k_m_in l D a kI kZ jw 0 10 _) (cwS 3 hG (rl_gS wd_587 wd_588 wd_19 wd_589) rfl rfl rfl (by decide +kernel) ⟨Nat.le_of_ble_eq_true rfl, Nat.le_of_ble_eq_true rfl⟩) (rl_BR.pre rl_nw0 rl_P0 hK hN) rfl rfl hl.1 rfl (lv_room (Nat.le_of_ble_eq_true rfl)) d_m_request_19 ⟨Nat.le_of_ble_eq_true rfl, Nat.le_of_ble_eq_true rfl⟩) (fun r4 locs hw hS => ?_)
    try simp only [rl_n0, rl_n10] at hw
    rcases hw with ⟨rfl, h5⟩ | ⟨rfl, h5⟩
    · refine lv_if_ne (tgt := 29) hx hb d_m_request_22 (by decide) (fun _ => ?_) (fun c9 => absurd c9 (by decide))
      refine lv_iconst (v := 0) hx hb d_m_request_29 (by decide) ?_
      refine va_put (D := D) (ci := 5) (v := .int 0) (ty := .int) (C := "RightsLimitModel") (T := fT_m) (N := 33) hx hb hG fi_m fy_m fo_m fn_m hown hK hP hD hS 0 rfl rfl 0 (by decide) (hG _ wd_483) (fun _ h9 => h9) rfl (by decide +kernel) rfl rfl (Nat.le_of_ble_eq_true rfl) d_m_request_30 (fun H locs hP hD hS => ?_)
      obtain ⟨F6, eF6⟩ : ∃ G, G = rl_st F 27 0 0 := ⟨_, rfl⟩
      have hP : va_P D rl_cl (rm_w a kI kZ F6) H := by rw [eF6]; exact hP
      have hD : va_D A (rm_w a kI kZ F6) := by rw [eF6]; exact hD
      obtain ⟨tF6, hRF6⟩ := rm_putS eF6 (by decide) (by decide) (by decide) (by decide) hR
      have sF6 : (F6 27 0).toInt = 0 := by rw [eF6, rl_steq]; decide
      refine lv_aload_n hx hb d_m_request_33 rfl (lv_at hl 0 rfl) ?_
      refine va_get (D := D) (ci := 5) (v := .int (F6 27 0)) (C := "RightsLimitModel") (T := fT_m) (N := 33) hx hb hG fi_m hown hK hP 0 rfl rfl 0 (by decide) (hG _ wd_483) (fun _ h9 => h9) rfl d_m_request_34 ?_
      refine lv_if_le (tgt := 42) hx hb d_m_request_37 (by decide) (fun c7 => ?_) (fun c7 => ?_)
      · have ic7 := rl_ile c7
        simp only [rl_n0] at ic7
        refine lv_iload_n hx hb d_m_request_42 rfl (lv_at hl 2 rfl) ?_
        by_cases hsw : jw.toInt < 0 ∨ 9 < jw.toInt
        · refine lv_tableOut (tgt := 165) hx hb d_m_request_43 hsw (by decide) ?_
          refine lv_aload_n hx hb d_m_request_165 rfl (lv_at hl 0 rfl) ?_
          refine va_get (D := D) (ci := 5) (v := .ref (a 26)) (C := "RightsLimitModel") (T := fT_m) (N := 33) hx hb hG fi_m hown hK hP 0 rfl rfl 31 (by decide) (hG _ wd_514) (fun _ h9 => h9) rfl d_m_request_166 ?_
          refine lv_iload_n hx hb d_m_request_169 rfl (lv_at hl 1 rfl) ?_
          refine va_iald hx hb hK hP 26 0 rfl rfl (rl_in (n := 300) (by omega) (by omega)) d_m_request_170 ?_
          refine lv_topi (fun v8 ev8 => ?_)
          exact W.iret (v := v8) hx hb hr (fun t ht hW => ⟨⟨v8, F6, rfl, ⟨hRF6, (show (F6 27 2).toInt = (F 27 2).toInt ∧ (F6 27 3).toInt = (F 27 3).toInt ∧ (F6 27 4).toInt = (F 27 4).toInt ∧ (F6 27 5).toInt = (F 27 5).toInt by omega)⟩, ⟨by rw [ht]; exact hP, hD⟩⟩, hS.F ht⟩) hS.2.2 d_m_request_171
        · have hsk : jw.toInt = 0 ∨ jw.toInt = 1 ∨ jw.toInt = 2 ∨ jw.toInt = 3 ∨ jw.toInt = 4 ∨ jw.toInt = 5 ∨ jw.toInt = 6 ∨ jw.toInt = 7 ∨ jw.toInt = 8 ∨ jw.toInt = 9 := by omega
          rcases hsk with hsk | hsk | hsk | hsk | hsk | hsk | hsk | hsk | hsk | hsk
          · refine lv_tableIn (off := 53) (tgt := 96) hx hb d_m_request_43 (by omega) (by omega) (by rw [hsk]; rfl) (by decide) ?_
            refine lv_aload_n hx hb d_m_request_96 rfl (lv_at hl 0 rfl) ?_
            refine va_get (D := D) (ci := 5) (v := .ref (a 16)) (C := "RightsLimitModel") (T := fT_m) (N := 33) hx hb hG fi_m hown hK hP 0 rfl rfl 21 (by decide) (hG _ wd_504) (fun _ h9 => h9) rfl d_m_request_97 ?_
            refine lv_iload_n hx hb d_m_request_100 rfl (lv_at hl 1 rfl) ?_
            refine va_iald hx hb hK hP 16 0 rfl rfl (rl_in (n := 300) (by omega) (by omega)) d_m_request_101 ?_
            refine lv_topi (fun v9 ev9 => ?_)
            exact W.iret (v := v9) hx hb hr (fun t ht hW => ⟨⟨v9, F6, rfl, ⟨hRF6, (show (F6 27 2).toInt = (F 27 2).toInt ∧ (F6 27 3).toInt = (F 27 3).toInt ∧ (F6 27 4).toInt = (F 27 4).toInt ∧ (F6 27 5).toInt = (F 27 5).toInt by omega)⟩, ⟨by rw [ht]; exact hP, hD⟩⟩, hS.F ht⟩) hS.2.2 d_m_request_102
          · refine lv_tableIn (off := 60) (tgt := 103) hx hb d_m_request_43 (by omega) (by omega) (by rw [hsk]; rfl) (by decide) ?_
            refine lv_aload_n hx hb d_m_request_103 rfl (lv_at hl 0 rfl) ?_
            refine va_get (D := D) (ci := 5) (v := .ref (a 17)) (C := "RightsLimitModel") (T := fT_m) (N := 33) hx hb hG fi_m hown hK hP 0 rfl rfl 22 (by decide) (hG _ wd_505) (fun _ h9 => h9) rfl d_m_request_104 ?_
            refine lv_iload_n hx hb d_m_request_107 rfl (lv_at hl 1 rfl) ?_
            refine va_iald hx hb hK hP 17 0 rfl rfl (rl_in (n := 300) (by omega) (by omega)) d_m_request_108 ?_
            refine lv_topi (fun v10 ev10 => ?_)
            exact W.iret (v := v10) hx hb hr (fun t ht hW => ⟨⟨v10, F6, rfl, ⟨hRF6, (show (F6 27 2).toInt = (F 27 2).toInt ∧ (F6 27 3).toInt = (F 27 3).toInt ∧ (F6 27 4).toInt = (F 27 4).toInt ∧ (F6 27 5).toInt = (F 27 5).toInt by omega)⟩, ⟨by rw [ht]; exact hP, hD⟩⟩, hS.F ht⟩) hS.2.2 d_m_request_109
          · refine lv_tableIn (off := 67) (tgt := 110) hx hb d_m_request_43 (by omega) (by omega) (by rw [hsk]; rfl) (by decide) ?_
            refine lv_aload_n hx hb d_m_request_110 rfl (lv_at hl 0 rfl) ?_
            refine va_get (D := D) (ci := 5) (v := .ref (a 18)) (C := "RightsLimitModel") (T := fT_m) (N := 33) hx hb hG fi_m hown hK hP 0 rfl rfl 23 (by decide) (hG _ wd_506) (fun _ h9 => h9) rfl d_m_request_111 ?_
            refine lv_iload_n hx hb d_m_request_114 rfl (lv_at hl 1 rfl) ?_
            refine va_iald hx hb hK hP 18 0 rfl rfl (rl_in (n := 300) (by omega) (by omega)) d_m_request_115 ?_
            refine lv_topi (fun v11 ev11 => ?_)
            exact W.iret (v := v11) hx hb hr (fun t ht hW => ⟨⟨v11, F6, rfl, ⟨hRF6, (show (F6 27 2).toInt = (F 27 2).toInt ∧ (F6 27 3).toInt = (F 27 3).toInt ∧ (F6 27 4).toInt = (F 27 4).toInt ∧ (F6 27 5).toInt = (F 27 5).toInt by omega)⟩, ⟨by rw [ht]; exact hP, hD⟩⟩, hS.F ht⟩) hS.2.2 d_m_request_116
          · refine lv_tableIn (off := 74) (tgt := 117) hx hb d_m_request_43 (by omega) (by omega) (by rw [hsk]; rfl) (by decide) ?_
            refine lv_aload_n hx hb d_m_request_117 rfl (lv_at hl 0 rfl) ?_
            refine va_get (D := D) (ci := 5) (v := .ref (a 19)) (C := "RightsLimitModel") (T := fT_m) (N := 33) hx hb hG fi_m hown hK hP 0 rfl rfl 24 (by decide) (hG _ wd_507) (fun _ h9 => h9) rfl d_m_request_118 ?_
            refine lv_iload_n hx hb d_m_request_121 rfl (lv_at hl 1 rfl) ?_
            refine va_iald hx hb hK hP 19 0 rfl rfl (rl_in (n := 300) (by omega) (by omega)) d_m_request_122 ?_
            refine lv_topi (fun v12 ev12 => ?_)
            exact W.iret (v := v12) hx hb hr (fun t ht hW => ⟨⟨v12, F6, rfl, ⟨hRF6, (show (F6 27 2).toInt = (F 27 2).toInt ∧ (F6 27 3).toInt = (F 27 3).toInt ∧ (F6 27 4).toInt = (F 27 4).toInt ∧ (F6 27 5).toInt = (F 27 5).toInt by omega)⟩, ⟨by rw [ht]; exact hP, hD⟩⟩, hS.F ht⟩) hS.2.2 d_m_request_123
          · refine lv_tableIn (off := 81) (tgt := 124) hx hb d_m_request_43 (by omega) (by omega) (by rw [hsk]; rfl) (by decide) ?_
            refine lv_aload_n hx hb d_m_request_124 rfl (lv_at hl 0 rfl) ?_
            refine va_get (D := D) (ci := 5) (v := .ref (a 20)) (C := "RightsLimitModel") (T := fT_m) (N := 33) hx hb hG fi_m hown hK hP 0 rfl rfl 25 (by decide) (hG _ wd_508) (fun _ h9 => h9) rfl d_m_request_125 ?_
            refine lv_iload_n hx hb d_m_request_128 rfl (lv_at hl 1 rfl) ?_
            refine va_iald hx hb hK hP 20 0 rfl rfl (rl_in (n := 300) (by omega) (by omega)) d_m_request_129 ?_
            refine lv_topi (fun v13 ev13 => ?_)
            exact W.iret (v := v13) hx hb hr (fun t ht hW => ⟨⟨v13, F6, rfl, ⟨hRF6, (show (F6 27 2).toInt = (F 27 2).toInt ∧ (F6 27 3).toInt = (F 27 3).toInt ∧ (F6 27 4).toInt = (F 27 4).toInt ∧ (F6 27 5).toInt = (F 27 5).toInt by omega)⟩, ⟨by rw [ht]; exact hP, hD⟩⟩, hS.F ht⟩) hS.2.2 d_m_request_130
          · refine lv_tableIn (off := 88) (tgt := 131) hx hb d_m_request_43 (by omega) (by omega) (by rw [hsk]; rfl) (by decide) ?_
            refine lv_aload_n hx hb d_m_request_131 rfl (lv_at hl 0 rfl) ?_
            refine va_get (D := D) (ci := 5) (v := .ref (a 21)) (C := "RightsLimitModel") (T := fT_m) (N := 33) hx hb hG fi_m hown hK hP 0 rfl rfl 26 (by decide) (hG _ wd_509) (fun _ h9 => h9) rfl d_m_request_132 ?_
            refine lv_iload_n hx hb d_m_request_135 rfl (lv_at hl 1 rfl) ?_
            refine va_iald hx hb hK hP 21 0 rfl rfl (rl_in (n := 300) (by omega) (by omega)) d_m_request_136 ?_
            refine lv_topi (fun v14 ev14 => ?_)
            exact W.iret (v := v14) hx hb hr (fun t ht hW => ⟨⟨v14, F6, rfl, ⟨hRF6, (show (F6 27 2).toInt = (F 27 2).toInt ∧ (F6 27 3).toInt = (F 27 3).toInt ∧ (F6 27 4).toInt = (F 27 4).toInt ∧ (F6 27 5).toInt = (F 27 5).toInt by omega)⟩, ⟨by rw [ht]; exact hP, hD⟩⟩, hS.F ht⟩) hS.2.2 d_m_request_137
          · refine lv_tableIn (off := 95) (tgt := 138) hx hb d_m_request_43 (by omega) (by omega) (by rw [hsk]; rfl) (by decide) ?_
            refine lv_aload_n hx hb d_m_request_138 rfl (lv_at hl 0 rfl) ?_
            refine va_get (D := D) (ci := 5) (v := .ref (a 22)) (C := "RightsLimitModel") (T := fT_m) (N := 33) hx hb hG fi_m hown hK hP 0 rfl rfl 27 (by decide) (hG _ wd_510) (fun _ h9 => h9) rfl d_m_request_139 ?_
            refine lv_iload_n hx hb d_m_request_142 rfl (lv_at hl 1 rfl) ?_
            refine va_iald hx hb hK hP 22 0 rfl rfl (rl_in (n := 300) (by omega) (by omega)) d_m_request_143 ?_
            refine lv_topi (fun v15 ev15 => ?_)
            exact W.iret (v := v15) hx hb hr (fun t ht hW => ⟨⟨v15, F6, rfl, ⟨hRF6, (show (F6 27 2).toInt = (F 27 2).toInt ∧ (F6 27 3).toInt = (F 27 3).toInt ∧ (F6 27 4).toInt = (F 27 4).toInt ∧ (F6 27 5).toInt = (F 27 5).toInt by omega)⟩, ⟨by rw [ht]; exact hP, hD⟩⟩, hS.F ht⟩) hS.2.2 d_m_request_144
          · refine lv_tableIn (off := 102) (tgt := 145) hx hb d_m_request_43 (by omega) (by omega) (by rw [hsk]; rfl) (by decide) ?_
            refine lv_aload_n hx hb d_m_request_145 rfl (lv_at hl 0 rfl) ?_
            refine lv_iload_n hx hb d_m_request_146 rfl (lv_at hl 1 rfl) ?_
            have hpre := rl_BR.pre (av := .ref (a 0) :: [.int jn]) rl_nw0 hP hK hN
            refine rl_callr hS (va_runV (As := [.int jn]) (rest := []) ⟨hx, hb, hml, hown, hG⟩ (k_m_cents l D a kI kZ F6 jn ⟨by omega, hRF6⟩ (by omega) (by omega) _) (cwV 1 hG (rl_gV wd_669 wd_671 wd_12 wd_19 wd_672) rfl rfl rfl (by decide +kernel) ⟨Nat.le_of_ble_eq_true rfl, Nat.le_of_ble_eq_true rfl⟩) ⟨hpre.1, (va_recv hK hP (ci := 5) (q0 := 0) rfl rfl), hpre.2⟩ rfl rfl hl.1 rfl (lv_room (Nat.le_of_ble_eq_true rfl)) d_m_request_147 ⟨Nat.le_of_ble_eq_true rfl, Nat.le_of_ble_eq_true rfl⟩) (fun r16 locs hw hS => ?_)
            have hwr16 := hw
            exact W.iret (v := r16) hx hb hr (fun t ht hW => ⟨⟨r16, F6, rfl, ⟨hRF6, (show (F6 27 2).toInt = (F 27 2).toInt ∧ (F6 27 3).toInt = (F 27 3).toInt ∧ (F6 27 4).toInt = (F 27 4).toInt ∧ (F6 27 5).toInt = (F 27 5).toInt by omega)⟩, ⟨by rw [ht]; exact hP, hD⟩⟩, hS.F ht⟩) hS.2.2 d_m_request_150
          · refine lv_tableIn (off := 108) (tgt := 151) hx hb d_m_request_43 (by omega) (by omega) (by rw [hsk]; rfl) (by decide) ?_
            refine lv_aload_n hx hb d_m_request_151 rfl (lv_at hl 0 rfl) ?_
            refine va_get (D := D) (ci := 5) (v := .ref (a 24)) (C := "RightsLimitModel") (T := fT_m) (N := 33) hx hb hG fi_m hown hK hP 0 rfl rfl 29 (by decide) (hG _ wd_512) (fun _ h9 => h9) rfl d_m_request_152 ?_
            refine lv_iload_n hx hb d_m_request_155 rfl (lv_at hl 1 rfl) ?_
            refine va_iald hx hb hK hP 24 0 rfl rfl (rl_in (n := 300) (by omega) (by omega)) d_m_request_156 ?_
            refine lv_topi (fun v17 ev17 => ?_)
            exact W.iret (v := v17) hx hb hr (fun t ht hW => ⟨⟨v17, F6, rfl, ⟨hRF6, (show (F6 27 2).toInt = (F 27 2).toInt ∧ (F6 27 3).toInt = (F 27 3).toInt ∧ (F6 27 4).toInt = (F 27 4).toInt ∧ (F6 27 5).toInt = (F 27 5).toInt by omega)⟩, ⟨by rw [ht]; exact hP, hD⟩⟩, hS.F ht⟩) hS.2.2 d_m_request_157
          · refine lv_tableIn (off := 115) (tgt := 158) hx hb d_m_request_43 (by omega) (by omega) (by rw [hsk]; rfl) (by decide) ?_
            refine lv_aload_n hx hb d_m_request_158 rfl (lv_at hl 0 rfl) ?_
            refine va_get (D := D) (ci := 5) (v := .ref (a 25)) (C := "RightsLimitModel") (T := fT_m) (N := 33) hx hb hG fi_m hown hK hP 0 rfl rfl 30 (by decide) (hG _ wd_513) (fun _ h9 => h9) rfl d_m_request_159 ?_
            refine lv_iload_n hx hb d_m_request_162 rfl (lv_at hl 1 rfl) ?_
            refine va_iald hx hb hK hP 25 0 rfl rfl (rl_in (n := 300) (by omega) (by omega)) d_m_request_163 ?_
            refine lv_topi (fun v18 ev18 => ?_)
            exact W.iret (v := v18) hx hb hr (fun t ht hW => ⟨⟨v18, F6, rfl, ⟨hRF6, (show (F6 27 2).toInt = (F 27 2).toInt ∧ (F6 27 3).toInt = (F 27 3).toInt ∧ (F6 27 4).toInt = (F 27 4).toInt ∧ (F6 27 5).toInt = (F 27 5).toInt by omega)⟩, ⟨by rw [ht]; exact hP, hD⟩⟩, hS.F ht⟩) hS.2.2 d_m_request_164
      · have ic7 := rl_inle c7
        simp only [rl_n0] at ic7
        exfalso; omega
    · refine lv_if_ne (tgt := 29) hx hb d_m_request_22 (by decide) (fun c9 => absurd c9 (by decide)) (fun _ => ?_)
      refine lv_iconst (v := 1) hx hb d_m_request_25 (by decide) ?_
      refine lv_goto (tgt := 30) hx hb d_m_request_26 (by decide) ?_
      refine va_put (D := D) (ci := 5) (v := .int 1) (ty := .int) (C := "RightsLimitModel") (T := fT_m) (N := 33) hx hb hG fi_m fy_m fo_m fn_m hown hK hP hD hS 0 rfl rfl 0 (by decide) (hG _ wd_483) (fun _ h9 => h9) rfl (by decide +kernel) rfl rfl (Nat.le_of_ble_eq_true rfl) d_m_request_30 (fun H locs hP hD hS => ?_)
      obtain ⟨F19, eF19⟩ : ∃ G, G = rl_st F 27 0 1 := ⟨_, rfl⟩
      have hP : va_P D rl_cl (rm_w a kI kZ F19) H := by rw [eF19]; exact hP
      have hD : va_D A (rm_w a kI kZ F19) := by rw [eF19]; exact hD
      obtain ⟨tF19, hRF19⟩ := rm_putS eF19 (by decide) (by decide) (by decide) (by decide) hR
      have sF19 : (F19 27 0).toInt = 1 := by rw [eF19, rl_steq]; decide
      refine lv_aload_n hx hb d_m_request_33 rfl (lv_at hl 0 rfl) ?_
      refine va_get (D := D) (ci := 5) (v := .int (F19 27 0)) (C := "RightsLimitModel") (T := fT_m) (N := 33) hx hb hG fi_m hown hK hP 0 rfl rfl 0 (by decide) (hG _ wd_483) (fun _ h9 => h9) rfl d_m_request_34 ?_
      refine lv_if_le (tgt := 42) hx hb d_m_request_37 (by decide) (fun c20 => ?_) (fun c20 => ?_)
      · have ic20 := rl_ile c20
        simp only [rl_n0] at ic20
        exfalso; omega
      · have ic20 := rl_inle c20
        simp only [rl_n0] at ic20
        refine lv_iconst (v := 0) hx hb d_m_request_40 (by decide) ?_
        exact W.iret (v := 0) hx hb hr (fun t ht hW => ⟨⟨0, F19, rfl, ⟨hRF19, (show (F19 27 2).toInt = (F 27 2).toInt ∧ (F19 27 3).toInt = (F 27 3).toInt ∧ (F19 27 4).toInt = (F 27 4).toInt ∧ (F19 27 5).toInt = (F 27 5).toInt by have q9 := rl_n0; omega)⟩, ⟨by rw [ht]; exact hP, hD⟩⟩, hS.F ht⟩) hS.2.2 d_m_request_41
  · refine lv_if_eq (tgt := 25) hx hb d_m_request_12 (by decide) (fun _ => ?_) (fun c9 => absurd c9 (by decide))
    refine lv_iconst (v := 1) hx hb d_m_request_25 (by decide) ?_
    refine lv_goto (tgt := 30) hx hb d_m_request_26 (by decide) ?_
    refine va_put (D := D) (ci := 5) (v := .int 1) (ty := .int) (C := "RightsLimitModel") (T := fT_m) (N := 33) hx hb hG fi_m fy_m fo_m fn_m hown hK hP hD hS 0 rfl rfl 0 (by decide) (hG _ wd_483) (fun _ h9 => h9) rfl (by decide +kernel) rfl rfl (Nat.le_of_ble_eq_true rfl) d_m_request_30 (fun H locs hP hD hS => ?_)
    obtain ⟨F21, eF21⟩ : ∃ G, G = rl_st F 27 0 1 := ⟨_, rfl⟩
    have hP : va_P D rl_cl (rm_w a kI kZ F21) H := by rw [eF21]; exact hP
    have hD : va_D A (rm_w a kI kZ F21) := by rw [eF21]; exact hD
    obtain ⟨tF21, hRF21⟩ := rm_putS eF21 (by decide) (by decide) (by decide) (by decide) hR
    have sF21 : (F21 27 0).toInt = 1 := by rw [eF21, rl_steq]; decide
    refine lv_aload_n hx hb d_m_request_33 rfl (lv_at hl 0 rfl) ?_
    refine va_get (D := D) (ci := 5) (v := .int (F21 27 0)) (C := "RightsLimitModel") (T := fT_m) (N := 33) hx hb hG fi_m hown hK hP 0 rfl rfl 0 (by decide) (hG _ wd_483) (fun _ h9 => h9) rfl d_m_request_34 ?_
    refine lv_if_le (tgt := 42) hx hb d_m_request_37 (by decide) (fun c22 => ?_) (fun c22 => ?_)
    · have ic22 := rl_ile c22
      simp only [rl_n0] at ic22
      exfalso; omega
    · have ic22 := rl_inle c22
      simp only [rl_n0] at ic22
      refine lv_iconst (v := 0) hx hb d_m_request_40 (by decide) ?_
      exact W.iret (v := 0) hx hb hr (fun t ht hW => ⟨⟨0, F21, rfl, ⟨hRF21, (show (F21 27 2).toInt = (F 27 2).toInt ∧ (F21 27 3).toInt = (F 27 3).toInt ∧ (F21 27 4).toInt = (F 27 4).toInt ∧ (F21 27 5).toInt = (F 27 5).toInt by have q9 := rl_n0; omega)⟩, ⟨by rw [ht]; exact hP, hD⟩⟩, hS.F ht⟩) hS.2.2 d_m_request_41
set_option maxHeartbeats 4000000 in
set_option maxRecDepth 100000 in
theorem k_m_past (l : Launch) (D : va_G) (a : Nat → Nat) (kI kZ : ClassId) (F : Nat → Nat → Int32) (jt jn : Int32) (hI : rm_I F) (sz : Nat) : rl_Ci (S := Nat → Nat → Int32) l ⟨"RightsLimitModel", "past", "(II)I"⟩ (Cond.code ⟨"RightsLimitModel", "past", "(II)I"⟩ prog_7_method_27_code 5 (some .int) :: rl_G) { frames := 0, cells := 0, slots := 0, locals := 0 } D rl_cl (rl_tys kI kZ) [] [.ref (a 0), .int jt, .int jn] (rm_w a kI kZ F) sz (fun (r : Int32) (F' : Nat → Nat → Int32) => rm_R F' ∧ ((F' 27 2).toInt = (F 27 2).toInt ∧ (F' 27 3).toInt = (F 27 3).toInt ∧ (F' 27 4).toInt = (F 27 4).toInt ∧ (F' 27 5).toInt = (F 27 5).toInt)) (fun F' => rm_w a kI kZ F') 0 0 := by
  refine rl_meti (cc := prog_7_method_27_code) (maxL := 5) (ret := (some .int)) (by decide) rfl (Nat.le_of_ble_eq_true rfl) ?_
  intro p e s m below meth c A ls hx hb hr hml hown hts hlocks hnm hP hK hD hS hA hN hl
  have hown : s.vm.findClass "RightsLimitModel" = some m.cls := hown
  have hG : ∀ x ∈ rl_G, x.before _ s = true := fun x h => hts x (List.mem_cons_of_mem _ h)
  have hl : lv_has ls 5 [(0, .ref (a 0)), (1, .int jt), (2, .int jn)] := hl
  obtain ⟨hcnt, hR⟩ := id hI
  refine lv_iload_n hx hb d_m_past_0 rfl (lv_at hl 2 rfl) ?_
  refine lv_istore_n (lv' := [(3, .int jn), (0, .ref (a 0)), (1, .int jt), (2, .int jn)]) hx hb d_m_past_1 rfl hl (by decide) rfl (fun ls hl => ?_)
  refine lv_iconst (v := 0) hx hb d_m_past_2 (by decide) ?_
  refine lv_istore (lv' := [(4, .int 0), (3, .int jn), (0, .ref (a 0)), (1, .int jt), (2, .int jn)]) hx hb d_m_past_3 hl (by decide) rfl (fun ls hl => ?_)
  have loop : ∀ (n : Nat) (fo i : Int32), 0 ≤ i.toInt → i.toInt ≤ (F 27 5).toInt → (F 27 5).toInt - i.toInt < n → ∀ (H : Heap) (locs : List Loc) (ls : Array Slot), va_P D rl_cl (rm_w a kI kZ F) H → va_D A (rm_w a kI kZ F) → va_S A s.heap H locs → lv_has ls 5 [(0, .ref (a 0)), (1, .int jt), (2, .int jn), (3, .int fo), (4, .int i)] → W p l e ({ frames := 0, cells := 0, slots := 0, locals := 0 } : Room) s m ([.ref (a 0), .int jt, .int jn] : List Value).toArray below meth c H locs 0 0 (MQ below (va_Qi (S := Nat → Nat → Int32) (fun (r : Int32) (F' : Nat → Nat → Int32) => rm_R F' ∧ ((F' 27 2).toInt = (F 27 2).toInt ∧ (F' 27 3).toInt = (F 27 3).toInt ∧ (F' 27 4).toInt = (F 27 4).toInt ∧ (F' 27 5).toInt = (F 27 5).toInt)) (fun u t => va_P D rl_cl (rm_w a kI kZ u) t.heap ∧ va_D A (rm_w a kI kZ u)) A) ([.ref (a 0), .int jt, .int jn] : List Value).toArray s 0 0 A) (F0 m 5 ls []) := by
    intro n
    induction n with
    | zero => intro fo i h1 h2 h3; exact absurd h3 (by omega)
    | succ n ih =>
      intro fo i h1 h2 h3 H locs ls hP hD hS hl
      refine lv_iload hx hb d_m_past_5 (lv_at hl 4 rfl) ?_
      refine lv_aload_n hx hb d_m_past_7 rfl (lv_at hl 0 rfl) ?_
      refine va_get (D := D) (ci := 5) (v := .int (F 27 5)) (C := "RightsLimitModel") (T := fT_m) (N := 33) hx hb hG fi_m hown hK hP 0 rfl rfl 20 (by decide) (hG _ wd_503) (fun _ h9 => h9) rfl d_m_past_8 ?_
      refine lv_icmp_ge (tgt := 69) hx hb d_m_past_11 (by decide) (fun c1 => ?_) (fun c1 => ?_)
      · have ic1 := rl_ile c1
        refine lv_aload_n hx hb d_m_past_69 rfl (lv_at hl 0 rfl) ?_
        refine lv_iconst (v := 1) hx hb d_m_past_70 (by decide) ?_
        refine va_put (D := D) (ci := 5) (v := .int 1) (ty := .int) (C := "RightsLimitModel") (T := fT_m) (N := 33) hx hb hG fi_m fy_m fo_m fn_m hown hK hP hD hS 0 rfl rfl 0 (by decide) (hG _ wd_483) (fun _ h9 => h9) rfl (by decide +kernel) rfl rfl (Nat.le_of_ble_eq_true rfl) d_m_past_71 (fun H locs hP hD hS => ?_)
        obtain ⟨F2, eF2⟩ : ∃ G, G = rl_st F 27 0 1 := ⟨_, rfl⟩
        have hP : va_P D rl_cl (rm_w a kI kZ F2) H := by rw [eF2]; exact hP
        have hD : va_D A (rm_w a kI kZ F2) := by rw [eF2]; exact hD
        obtain ⟨tF2, hRF2⟩ := rm_putS eF2 (by decide) (by decide) (by decide) (by decide) hR
        refine lv_iconst (v := 0) hx hb d_m_past_74 (by decide) ?_
        exact W.iret (v := 0) hx hb hr (fun t ht hW => ⟨⟨0, F2, rfl, ⟨hRF2, (show (F2 27 2).toInt = (F 27 2).toInt ∧ (F2 27 3).toInt = (F 27 3).toInt ∧ (F2 27 4).toInt = (F 27 4).toInt ∧ (F2 27 5).toInt = (F 27 5).toInt by have q9 := rl_n0; omega)⟩, ⟨by rw [ht]; exact hP, hD⟩⟩, hS.F ht⟩) hS.2.2 d_m_past_75
      · have ic1 := rl_inle c1
        refine lv_aload_n hx hb d_m_past_14 rfl (lv_at hl 0 rfl) ?_
        refine va_get (D := D) (ci := 5) (v := .ref (a 21)) (C := "RightsLimitModel") (T := fT_m) (N := 33) hx hb hG fi_m hown hK hP 0 rfl rfl 26 (by decide) (hG _ wd_509) (fun _ h9 => h9) rfl d_m_past_15 ?_
        refine lv_iload hx hb d_m_past_18 (lv_at hl 4 rfl) ?_
        refine va_iald hx hb hK hP 21 0 rfl rfl (rl_in (n := 300) (by omega) (by omega)) d_m_past_20 ?_
        refine lv_topi (fun v3 ev3 => ?_)
        refine lv_if_eq (tgt := 63) hx hb d_m_past_21 (by decide) (fun c4 => ?_) (fun c4 => ?_)
        · have ic4 := rl_ieq c4
          simp only [rl_n0] at ic4
          obtain ⟨x5, ex5⟩ : ∃ y : Int32, y = i + 1 := ⟨_, rfl⟩
          refine lv_iinc (v := x5) (lv' := [(4, .int x5), (0, .ref (a 0)), (1, .int jt), (2, .int jn), (3, .int fo)]) hx hb d_m_past_63 hl (k := 4) rfl (by rw [ex5]; rfl) (by decide) rfl (fun ls hl => ?_)
          have ix5 : x5.toInt = i.toInt + 1 := by rw [ex5]; exact rl_inc (by omega)
          refine lv_goto (tgt := 5) hx hb d_m_past_66 (by decide) ?_
          exact ih fo x5 (by omega) (by omega) (by omega) _ _ _ hP hD hS (lv_sub hl [1, 2, 3, 4, 0] rfl)
        · have ic4 := rl_ine c4
          simp only [rl_n0] at ic4
          refine lv_aload_n hx hb d_m_past_24 rfl (lv_at hl 0 rfl) ?_
          refine va_get (D := D) (ci := 5) (v := .ref (a 26)) (C := "RightsLimitModel") (T := fT_m) (N := 33) hx hb hG fi_m hown hK hP 0 rfl rfl 31 (by decide) (hG _ wd_514) (fun _ h9 => h9) rfl d_m_past_25 ?_
          refine lv_iload hx hb d_m_past_28 (lv_at hl 4 rfl) ?_
          refine va_iald hx hb hK hP 26 0 rfl rfl (rl_in (n := 300) (by omega) (by omega)) d_m_past_30 ?_
          refine lv_topi (fun v6 ev6 => ?_)
          refine lv_if_ge (tgt := 63) hx hb d_m_past_31 (by decide) (fun c7 => ?_) (fun c7 => ?_)
          · have ic7 := rl_ile c7
            simp only [rl_n0] at ic7
            obtain ⟨x8, ex8⟩ : ∃ y : Int32, y = i + 1 := ⟨_, rfl⟩
            refine lv_iinc (v := x8) (lv' := [(4, .int x8), (0, .ref (a 0)), (1, .int jt), (2, .int jn), (3, .int fo)]) hx hb d_m_past_63 hl (k := 4) rfl (by rw [ex8]; rfl) (by decide) rfl (fun ls hl => ?_)
            have ix8 : x8.toInt = i.toInt + 1 := by rw [ex8]; exact rl_inc (by omega)
            refine lv_goto (tgt := 5) hx hb d_m_past_66 (by decide) ?_
            exact ih fo x8 (by omega) (by omega) (by omega) _ _ _ hP hD hS (lv_sub hl [1, 2, 3, 4, 0] rfl)
          · have ic7 := rl_inle c7
            simp only [rl_n0] at ic7
            refine lv_aload_n hx hb d_m_past_34 rfl (lv_at hl 0 rfl) ?_
            refine va_get (D := D) (ci := 5) (v := .ref (a 24)) (C := "RightsLimitModel") (T := fT_m) (N := 33) hx hb hG fi_m hown hK hP 0 rfl rfl 29 (by decide) (hG _ wd_512) (fun _ h9 => h9) rfl d_m_past_35 ?_
            refine lv_iload hx hb d_m_past_38 (lv_at hl 4 rfl) ?_
            refine va_iald hx hb hK hP 24 0 rfl rfl (rl_in (n := 300) (by omega) (by omega)) d_m_past_40 ?_
            refine lv_topi (fun v9 ev9 => ?_)
            refine lv_iload_n hx hb d_m_past_41 rfl (lv_at hl 1 rfl) ?_
            refine lv_icmp_le (tgt := 48) hx hb d_m_past_42 (by decide) (fun c10 => ?_) (fun c10 => ?_)
            · have ic10 := rl_ile c10
              refine lv_iload_n hx hb d_m_past_48 rfl (lv_at hl 3 rfl) ?_
              refine lv_if_ne (tgt := 60) hx hb d_m_past_49 (by decide) (fun c11 => ?_) (fun c11 => ?_)
              · have ic11 := rl_ine c11
                simp only [rl_n0] at ic11
                obtain ⟨x12, ex12⟩ : ∃ y : Int32, y = fo + (-1) := ⟨_, rfl⟩
                refine lv_iinc (v := x12) (lv' := [(3, .int x12), (0, .ref (a 0)), (1, .int jt), (2, .int jn), (4, .int i)]) hx hb d_m_past_60 hl (k := 3) rfl (by rw [ex12]; rfl) (by decide) rfl (fun ls hl => ?_)
                obtain ⟨x13, ex13⟩ : ∃ y : Int32, y = i + 1 := ⟨_, rfl⟩
                refine lv_iinc (v := x13) (lv' := [(4, .int x13), (3, .int x12), (0, .ref (a 0)), (1, .int jt), (2, .int jn)]) hx hb d_m_past_63 hl (k := 4) rfl (by rw [ex13]; rfl) (by decide) rfl (fun ls hl => ?_)
                have ix13 : x13.toInt = i.toInt + 1 := by rw [ex13]; exact rl_inc (by omega)
                refine lv_goto (tgt := 5) hx hb d_m_past_66 (by decide) ?_
                exact ih x12 x13 (by omega) (by omega) (by omega) _ _ _ hP hD hS (lv_sub hl [2, 3, 4, 1, 0] rfl)
              · have ic11 := rl_ieq c11
                simp only [rl_n0] at ic11
                refine lv_aload_n hx hb d_m_past_52 rfl (lv_at hl 0 rfl) ?_
                refine lv_iconst (v := 0) hx hb d_m_past_53 (by decide) ?_
                refine va_put (D := D) (ci := 5) (v := .int 0) (ty := .int) (C := "RightsLimitModel") (T := fT_m) (N := 33) hx hb hG fi_m fy_m fo_m fn_m hown hK hP hD hS 0 rfl rfl 0 (by decide) (hG _ wd_483) (fun _ h9 => h9) rfl (by decide +kernel) rfl rfl (Nat.le_of_ble_eq_true rfl) d_m_past_54 (fun H locs hP hD hS => ?_)
                obtain ⟨F14, eF14⟩ : ∃ G, G = rl_st F 27 0 0 := ⟨_, rfl⟩
                have hP : va_P D rl_cl (rm_w a kI kZ F14) H := by rw [eF14]; exact hP
                have hD : va_D A (rm_w a kI kZ F14) := by rw [eF14]; exact hD
                obtain ⟨tF14, hRF14⟩ := rm_putS eF14 (by decide) (by decide) (by decide) (by decide) hR
                refine lv_iload hx hb d_m_past_57 (lv_at hl 4 rfl) ?_
                exact W.iret (v := i) hx hb hr (fun t ht hW => ⟨⟨i, F14, rfl, ⟨hRF14, (show (F14 27 2).toInt = (F 27 2).toInt ∧ (F14 27 3).toInt = (F 27 3).toInt ∧ (F14 27 4).toInt = (F 27 4).toInt ∧ (F14 27 5).toInt = (F 27 5).toInt by omega)⟩, ⟨by rw [ht]; exact hP, hD⟩⟩, hS.F ht⟩) hS.2.2 d_m_past_59
            · have ic10 := rl_inle c10
              refine lv_goto (tgt := 63) hx hb d_m_past_45 (by decide) ?_
              obtain ⟨x15, ex15⟩ : ∃ y : Int32, y = i + 1 := ⟨_, rfl⟩
              refine lv_iinc (v := x15) (lv' := [(4, .int x15), (0, .ref (a 0)), (1, .int jt), (2, .int jn), (3, .int fo)]) hx hb d_m_past_63 hl (k := 4) rfl (by rw [ex15]; rfl) (by decide) rfl (fun ls hl => ?_)
              have ix15 : x15.toInt = i.toInt + 1 := by rw [ex15]; exact rl_inc (by omega)
              refine lv_goto (tgt := 5) hx hb d_m_past_66 (by decide) ?_
              exact ih fo x15 (by omega) (by omega) (by omega) _ _ _ hP hD hS (lv_sub hl [1, 2, 3, 4, 0] rfl)
  exact loop 400 jn 0 (by decide) (by simp only [rl_n0]; omega) (by simp only [rl_n0]; omega) _ _ _ hP hD hS (lv_sub hl [2, 3, 4, 1, 0] rfl)
