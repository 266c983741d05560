theorem rl_ats_in : ∀ w ∈ rl_atoms "RightsLimit" 135, w ∈ rl_G ∨ w ∈ rl_Zw ∨ w ∈ rl_Zd := by decide +kernel
theorem rl_ats {s : State} {args : Array Value} (hG : ∀ x ∈ rl_G, x.before args s = true) (hZ : rl_Z s) : ∀ w ∈ rl_atoms "RightsLimit" 135, w.before args s = true := by
  intro w hw
  rcases rl_ats_in w hw with h | h | h
  · exact hG w h
  · exact hZ.1 w h args
  · have h9 := hZ.2.2 w h
    simp only [rl_Zd, List.mem_cons, List.not_mem_nil, or_false] at h
    rcases h with rfl | rfl | rfl <;> exact va_Nw.use rfl h9
set_option maxHeartbeats 4000000 in
set_option maxRecDepth 100000 in
theorem k_x_request (l : Launch) (D : va_G) (a : Nat → Nat) (kI kZ : ClassId) (F : Nat → Nat → Int32) (jn jw : Int32) (hI : rl_I F) (hlt : l.stackTraces = false) (H0 : Heap) : rl_Mt l ⟨"RightsLimit", "request", "(II)I"⟩ (Cond.code ⟨"RightsLimit", "request", "(II)I"⟩ prog_1_method_15_code 3 (some .int) :: rl_G) { frames := 6, cells := 1, slots := 6, locals := 82 } (va_Pc [.ref (a 0), .int jn, .int jw] (rl_BT D rl_cl (rl_tys kI kZ) rl_nw (rl_w a kI kZ F) H0)) rl_NSE (fun (r : Int32) => True) 1 6 := by
  refine rl_mett (cc := prog_1_method_15_code) (maxL := 3) (ret := (some .int)) (by decide) rfl (Nat.le_of_ble_eq_true rfl) ?_
  intro p e s m below meth c ls hx hb hr hml hown hts hlocks hP hK hS hN hZ hout hl
  have hown : s.vm.findClass "RightsLimit" = some m.cls := hown
  have hG : ∀ x ∈ rl_G, x.before _ s = true := fun x h => hts x (List.mem_cons_of_mem _ h)
  have hl : lv_has ls 3 [(0, .ref (a 0)), (1, .int jn), (2, .int jw)] := hl
  obtain ⟨hcnt, hR⟩ := id hI
  refine lv_aload_n hx hb d_x_request_0 rfl (lv_at hl 0 rfl) ?_
  refine va_get (D := D) (ci := 0) (v := .ref (a 4)) (C := "RightsLimit") (T := fT_x) (N := 8) hx hb hG fi_x hown hK hP 0 rfl rfl 3 (by decide) (hG _ wd_171) (fun _ h9 => h9) rfl d_x_request_1 ?_
  refine lv_iload_n hx hb d_x_request_4 rfl (lv_at hl 1 rfl) ?_
  have hpre := rl_BR.pre (av := .ref (a 4) :: [.int jn]) rl_nw_ok hP hK hN
  refine rl_callr hS (va_runV (As := [.int jn]) (rest := []) ⟨hx, hb, hml, hown, hG⟩ (k_q_has l D a kI kZ F jn ⟨by omega, hR⟩ _) (cwV 1 hG (rl_gV wd_331 wd_332 wd_333 wd_18 wd_334) rfl rfl rfl (by decide +kernel) ⟨Nat.le_of_ble_eq_true rfl, Nat.le_of_ble_eq_true rfl⟩) ⟨hpre.1, (va_recv hK hP (ci := 4) (q0 := 4) rfl rfl), hpre.2⟩ rfl rfl hl.1 rfl (lv_room (Nat.le_of_ble_eq_true rfl)) d_x_request_5 ⟨Nat.le_of_ble_eq_true rfl, Nat.le_of_ble_eq_true rfl⟩) (fun r1 locs hw hS => ?_)
  rcases hw with ⟨rfl, h2⟩ | ⟨rfl, h2⟩
  · refine lv_if_ne (tgt := 21) hx hb d_x_request_8 (by decide) (fun _ => ?_) (fun c9 => absurd c9 (by decide))
    refine lv_iload_n hx hb d_x_request_21 rfl (lv_at hl 2 rfl) ?_
    by_cases hsw : jw.toInt < 0 ∨ 10 < jw.toInt
    · refine lv_tableOut (tgt := 190) hx hb d_x_request_22 hsw (by decide) ?_
      exact rl_throw (own := "RightsLimit") (text := "a request has nothing such") (ik := 131) (is := 168) (ic := 135) hx hb hlt hown (hG _ wd_398) (hG _ wd_23) (rl_str hZ (by decide)) (rl_ats hG hZ) hS (hl.1.trans hml.symm) d_x_request_190 d_x_request_193 d_x_request_194 d_x_request_196 d_x_request_199 hout (Nat.le_of_ble_eq_true rfl) (Nat.le_of_ble_eq_true rfl) (Nat.le_of_ble_eq_true rfl) (Nat.le_of_ble_eq_true rfl) hlocks
    · have hsk : jw.toInt = 0 ∨ jw.toInt = 1 ∨ jw.toInt = 2 ∨ jw.toInt = 3 ∨ jw.toInt = 4 ∨ jw.toInt = 5 ∨ jw.toInt = 6 ∨ jw.toInt = 7 ∨ jw.toInt = 8 ∨ jw.toInt = 9 ∨ jw.toInt = 10 := by omega
      rcases hsk with hsk | hsk | hsk | hsk | hsk | hsk | hsk | hsk | hsk | hsk | hsk
      · refine lv_tableIn (off := 58) (tgt := 80) hx hb d_x_request_22 (by omega) (by omega) (by rw [hsk]; rfl) (by decide) ?_
        refine lv_aload_n hx hb d_x_request_80 rfl (lv_at hl 0 rfl) ?_
        refine va_get (D := D) (ci := 0) (v := .ref (a 4)) (C := "RightsLimit") (T := fT_x) (N := 8) hx hb hG fi_x hown hK hP 0 rfl rfl 3 (by decide) (hG _ wd_171) (fun _ h9 => h9) rfl d_x_request_81 ?_
        refine va_get (D := D) (ci := 4) (v := .ref (a 18)) (C := "RightsLimit$Requests") (T := fT_q) (N := 13) hx hb hG fi_q hown hK hP 4 rfl rfl 0 (by decide) (hG _ wd_118) (fun _ h9 => h9) rfl d_x_request_84 ?_
        refine lv_iload_n hx hb d_x_request_87 rfl (lv_at hl 1 rfl) ?_
        refine va_iald hx hb hK hP 18 0 rfl rfl (rl_in (n := 300) (by omega) (by omega)) d_x_request_88 ?_
        refine lv_topi (fun v3 ev3 => ?_)
        exact rl_tret (W.iret (v := v3) hx hb hr (fun t ht hW => ⟨⟨v3, (), rfl, trivial, ht⟩, hS.F ht⟩) hS.2.2 d_x_request_89)
      · refine lv_tableIn (off := 68) (tgt := 90) hx hb d_x_request_22 (by omega) (by omega) (by rw [hsk]; rfl) (by decide) ?_
        refine lv_aload_n hx hb d_x_request_90 rfl (lv_at hl 0 rfl) ?_
        refine va_get (D := D) (ci := 0) (v := .ref (a 4)) (C := "RightsLimit") (T := fT_x) (N := 8) hx hb hG fi_x hown hK hP 0 rfl rfl 3 (by decide) (hG _ wd_171) (fun _ h9 => h9) rfl d_x_request_91 ?_
        refine va_get (D := D) (ci := 4) (v := .ref (a 19)) (C := "RightsLimit$Requests") (T := fT_q) (N := 13) hx hb hG fi_q hown hK hP 4 rfl rfl 1 (by decide) (hG _ wd_120) (fun _ h9 => h9) rfl d_x_request_94 ?_
        refine lv_iload_n hx hb d_x_request_97 rfl (lv_at hl 1 rfl) ?_
        refine va_iald hx hb hK hP 19 0 rfl rfl (rl_in (n := 300) (by omega) (by omega)) d_x_request_98 ?_
        refine lv_topi (fun v4 ev4 => ?_)
        exact rl_tret (W.iret (v := v4) hx hb hr (fun t ht hW => ⟨⟨v4, (), rfl, trivial, ht⟩, hS.F ht⟩) hS.2.2 d_x_request_99)
      · refine lv_tableIn (off := 78) (tgt := 100) hx hb d_x_request_22 (by omega) (by omega) (by rw [hsk]; rfl) (by decide) ?_
        refine lv_aload_n hx hb d_x_request_100 rfl (lv_at hl 0 rfl) ?_
        refine va_get (D := D) (ci := 0) (v := .ref (a 4)) (C := "RightsLimit") (T := fT_x) (N := 8) hx hb hG fi_x hown hK hP 0 rfl rfl 3 (by decide) (hG _ wd_171) (fun _ h9 => h9) rfl d_x_request_101 ?_
        refine va_get (D := D) (ci := 4) (v := .ref (a 20)) (C := "RightsLimit$Requests") (T := fT_q) (N := 13) hx hb hG fi_q hown hK hP 4 rfl rfl 2 (by decide) (hG _ wd_122) (fun _ h9 => h9) rfl d_x_request_104 ?_
        refine lv_iload_n hx hb d_x_request_107 rfl (lv_at hl 1 rfl) ?_
        refine va_iald hx hb hK hP 20 0 rfl rfl (rl_in (n := 300) (by omega) (by omega)) d_x_request_108 ?_
        refine lv_topi (fun v5 ev5 => ?_)
        exact rl_tret (W.iret (v := v5) hx hb hr (fun t ht hW => ⟨⟨v5, (), rfl, trivial, ht⟩, hS.F ht⟩) hS.2.2 d_x_request_109)
      · refine lv_tableIn (off := 88) (tgt := 110) hx hb d_x_request_22 (by omega) (by omega) (by rw [hsk]; rfl) (by decide) ?_
        refine lv_aload_n hx hb d_x_request_110 rfl (lv_at hl 0 rfl) ?_
        refine va_get (D := D) (ci := 0) (v := .ref (a 4)) (C := "RightsLimit") (T := fT_x) (N := 8) hx hb hG fi_x hown hK hP 0 rfl rfl 3 (by decide) (hG _ wd_171) (fun _ h9 => h9) rfl d_x_request_111 ?_
        refine va_get (D := D) (ci := 4) (v := .ref (a 21)) (C := "RightsLimit$Requests") (T := fT_q) (N := 13) hx hb hG fi_q hown hK hP 4 rfl rfl 3 (by decide) (hG _ wd_124) (fun _ h9 => h9) rfl d_x_request_114 ?_
        refine lv_iload_n hx hb d_x_request_117 rfl (lv_at hl 1 rfl) ?_
        refine va_iald hx hb hK hP 21 0 rfl rfl (rl_in (n := 300) (by omega) (by omega)) d_x_request_118 ?_
        refine lv_topi (fun v6 ev6 => ?_)
        exact rl_tret (W.iret (v := v6) hx hb hr (fun t ht hW => ⟨⟨v6, (), rfl, trivial, ht⟩, hS.F ht⟩) hS.2.2 d_x_request_119)
      · refine lv_tableIn (off := 98) (tgt := 120) hx hb d_x_request_22 (by omega) (by omega) (by rw [hsk]; rfl) (by decide) ?_
        refine lv_aload_n hx hb d_x_request_120 rfl (lv_at hl 0 rfl) ?_
        refine va_get (D := D) (ci := 0) (v := .ref (a 4)) (C := "RightsLimit") (T := fT_x) (N := 8) hx hb hG fi_x hown hK hP 0 rfl rfl 3 (by decide) (hG _ wd_171) (fun _ h9 => h9) rfl d_x_request_121 ?_
        refine va_get (D := D) (ci := 4) (v := .ref (a 22)) (C := "RightsLimit$Requests") (T := fT_q) (N := 13) hx hb hG fi_q hown hK hP 4 rfl rfl 4 (by decide) (hG _ wd_126) (fun _ h9 => h9) rfl d_x_request_124 ?_
        refine lv_iload_n hx hb d_x_request_127 rfl (lv_at hl 1 rfl) ?_
        refine va_iald hx hb hK hP 22 0 rfl rfl (rl_in (n := 300) (by omega) (by omega)) d_x_request_128 ?_
        refine lv_topi (fun v7 ev7 => ?_)
        exact rl_tret (W.iret (v := v7) hx hb hr (fun t ht hW => ⟨⟨v7, (), rfl, trivial, ht⟩, hS.F ht⟩) hS.2.2 d_x_request_129)
      · refine lv_tableIn (off := 108) (tgt := 130) hx hb d_x_request_22 (by omega) (by omega) (by rw [hsk]; rfl) (by decide) ?_
        refine lv_aload_n hx hb d_x_request_130 rfl (lv_at hl 0 rfl) ?_
        refine va_get (D := D) (ci := 0) (v := .ref (a 4)) (C := "RightsLimit") (T := fT_x) (N := 8) hx hb hG fi_x hown hK hP 0 rfl rfl 3 (by decide) (hG _ wd_171) (fun _ h9 => h9) rfl d_x_request_131 ?_
        refine va_get (D := D) (ci := 4) (v := .ref (a 23)) (C := "RightsLimit$Requests") (T := fT_q) (N := 13) hx hb hG fi_q hown hK hP 4 rfl rfl 5 (by decide) (hG _ wd_128) (fun _ h9 => h9) rfl d_x_request_134 ?_
        refine lv_iload_n hx hb d_x_request_137 rfl (lv_at hl 1 rfl) ?_
        refine va_iald hx hb hK hP 23 0 rfl rfl (rl_in (n := 300) (by omega) (by omega)) d_x_request_138 ?_
        refine lv_topi (fun v8 ev8 => ?_)
        exact rl_tret (W.iret (v := v8) hx hb hr (fun t ht hW => ⟨⟨v8, (), rfl, trivial, ht⟩, hS.F ht⟩) hS.2.2 d_x_request_139)
      · refine lv_tableIn (off := 118) (tgt := 140) hx hb d_x_request_22 (by omega) (by omega) (by rw [hsk]; rfl) (by decide) ?_
        refine lv_aload_n hx hb d_x_request_140 rfl (lv_at hl 0 rfl) ?_
        refine va_get (D := D) (ci := 0) (v := .ref (a 4)) (C := "RightsLimit") (T := fT_x) (N := 8) hx hb hG fi_x hown hK hP 0 rfl rfl 3 (by decide) (hG _ wd_171) (fun _ h9 => h9) rfl d_x_request_141 ?_
        refine va_get (D := D) (ci := 4) (v := .ref (a 24)) (C := "RightsLimit$Requests") (T := fT_q) (N := 13) hx hb hG fi_q hown hK hP 4 rfl rfl 6 (by decide) (hG _ wd_130) (fun _ h9 => h9) rfl d_x_request_144 ?_
        refine lv_iload_n hx hb d_x_request_147 rfl (lv_at hl 1 rfl) ?_
        refine va_iald hx hb hK hP 24 0 rfl rfl (rl_in (n := 300) (by omega) (by omega)) d_x_request_148 ?_
        refine lv_topi (fun v9 ev9 => ?_)
        exact rl_tret (W.iret (v := v9) hx hb hr (fun t ht hW => ⟨⟨v9, (), rfl, trivial, ht⟩, hS.F ht⟩) hS.2.2 d_x_request_149)
      · refine lv_tableIn (off := 128) (tgt := 150) hx hb d_x_request_22 (by omega) (by omega) (by rw [hsk]; rfl) (by decide) ?_
        refine lv_aload_n hx hb d_x_request_150 rfl (lv_at hl 0 rfl) ?_
        refine va_get (D := D) (ci := 0) (v := .ref (a 4)) (C := "RightsLimit") (T := fT_x) (N := 8) hx hb hG fi_x hown hK hP 0 rfl rfl 3 (by decide) (hG _ wd_171) (fun _ h9 => h9) rfl d_x_request_151 ?_
        refine va_get (D := D) (ci := 4) (v := .ref (a 26)) (C := "RightsLimit$Requests") (T := fT_q) (N := 13) hx hb hG fi_q hown hK hP 4 rfl rfl 8 (by decide) (hG _ wd_133) (fun _ h9 => h9) rfl d_x_request_154 ?_
        refine lv_iload_n hx hb d_x_request_157 rfl (lv_at hl 1 rfl) ?_
        refine va_iald hx hb hK hP 26 0 rfl rfl (rl_in (n := 300) (by omega) (by omega)) d_x_request_158 ?_
        refine lv_topi (fun v10 ev10 => ?_)
        exact rl_tret (W.iret (v := v10) hx hb hr (fun t ht hW => ⟨⟨v10, (), rfl, trivial, ht⟩, hS.F ht⟩) hS.2.2 d_x_request_159)
      · refine lv_tableIn (off := 138) (tgt := 160) hx hb d_x_request_22 (by omega) (by omega) (by rw [hsk]; rfl) (by decide) ?_
        refine lv_aload_n hx hb d_x_request_160 rfl (lv_at hl 0 rfl) ?_
        refine va_get (D := D) (ci := 0) (v := .ref (a 4)) (C := "RightsLimit") (T := fT_x) (N := 8) hx hb hG fi_x hown hK hP 0 rfl rfl 3 (by decide) (hG _ wd_171) (fun _ h9 => h9) rfl d_x_request_161 ?_
        refine va_get (D := D) (ci := 4) (v := .ref (a 27)) (C := "RightsLimit$Requests") (T := fT_q) (N := 13) hx hb hG fi_q hown hK hP 4 rfl rfl 9 (by decide) (hG _ wd_135) (fun _ h9 => h9) rfl d_x_request_164 ?_
        refine lv_iload_n hx hb d_x_request_167 rfl (lv_at hl 1 rfl) ?_
        refine va_iald hx hb hK hP 27 0 rfl rfl (rl_in (n := 300) (by omega) (by omega)) d_x_request_168 ?_
        refine lv_topi (fun v11 ev11 => ?_)
        exact rl_tret (W.iret (v := v11) hx hb hr (fun t ht hW => ⟨⟨v11, (), rfl, trivial, ht⟩, hS.F ht⟩) hS.2.2 d_x_request_169)
      · refine lv_tableIn (off := 148) (tgt := 170) hx hb d_x_request_22 (by omega) (by omega) (by rw [hsk]; rfl) (by decide) ?_
        refine lv_aload_n hx hb d_x_request_170 rfl (lv_at hl 0 rfl) ?_
        refine va_get (D := D) (ci := 0) (v := .ref (a 4)) (C := "RightsLimit") (T := fT_x) (N := 8) hx hb hG fi_x hown hK hP 0 rfl rfl 3 (by decide) (hG _ wd_171) (fun _ h9 => h9) rfl d_x_request_171 ?_
        refine va_get (D := D) (ci := 4) (v := .ref (a 28)) (C := "RightsLimit$Requests") (T := fT_q) (N := 13) hx hb hG fi_q hown hK hP 4 rfl rfl 10 (by decide) (hG _ wd_137) (fun _ h9 => h9) rfl d_x_request_174 ?_
        refine lv_iload_n hx hb d_x_request_177 rfl (lv_at hl 1 rfl) ?_
        refine va_iald hx hb hK hP 28 0 rfl rfl (rl_in (n := 300) (by omega) (by omega)) d_x_request_178 ?_
        refine lv_topi (fun v12 ev12 => ?_)
        exact rl_tret (W.iret (v := v12) hx hb hr (fun t ht hW => ⟨⟨v12, (), rfl, trivial, ht⟩, hS.F ht⟩) hS.2.2 d_x_request_179)
      · refine lv_tableIn (off := 158) (tgt := 180) hx hb d_x_request_22 (by omega) (by omega) (by rw [hsk]; rfl) (by decide) ?_
        refine lv_aload_n hx hb d_x_request_180 rfl (lv_at hl 0 rfl) ?_
        refine va_get (D := D) (ci := 0) (v := .ref (a 4)) (C := "RightsLimit") (T := fT_x) (N := 8) hx hb hG fi_x hown hK hP 0 rfl rfl 3 (by decide) (hG _ wd_171) (fun _ h9 => h9) rfl d_x_request_181 ?_
        refine va_get (D := D) (ci := 4) (v := .ref (a 29)) (C := "RightsLimit$Requests") (T := fT_q) (N := 13) hx hb hG fi_q hown hK hP 4 rfl rfl 11 (by decide) (hG _ wd_139) (fun _ h9 => h9) rfl d_x_request_184 ?_
        refine lv_iload_n hx hb d_x_request_187 rfl (lv_at hl 1 rfl) ?_
        refine va_iald hx hb hK hP 29 0 rfl rfl (rl_in (n := 300) (by omega) (by omega)) d_x_request_188 ?_
        refine lv_topi (fun v13 ev13 => ?_)
        exact rl_tret (W.iret (v := v13) hx hb hr (fun t ht hW => ⟨⟨v13, (), rfl, trivial, ht⟩, hS.F ht⟩) hS.2.2 d_x_request_189)
  · refine lv_if_ne (tgt := 21) hx hb d_x_request_8 (by decide) (fun c9 => absurd c9 (by decide)) (fun _ => ?_)
    exact rl_throw (own := "RightsLimit") (text := "no such request") (ik := 131) (is := 133) (ic := 135) hx hb hlt hown (hG _ wd_398) (hG _ wd_23) (rl_str hZ (by decide)) (rl_ats hG hZ) hS (hl.1.trans hml.symm) d_x_request_11 d_x_request_14 d_x_request_15 d_x_request_17 d_x_request_20 hout (Nat.le_of_ble_eq_true rfl) (Nat.le_of_ble_eq_true rfl) (Nat.le_of_ble_eq_true rfl) (Nat.le_of_ble_eq_true rfl) hlocks
set_option maxHeartbeats 4000000 in
set_option maxRecDepth 100000 in
theorem k_x_past (l : Launch) (D : va_G) (a : Nat → Nat) (kI kZ : ClassId) (F : Nat → Nat → Int32) (jt jn : Int32) (hI : rl_I F) (hlt : l.stackTraces = false) (H0 : Heap) : rl_Mt l ⟨"RightsLimit", "past", "(II)I"⟩ (Cond.code ⟨"RightsLimit", "past", "(II)I"⟩ prog_1_method_18_code 4 (some .int) :: rl_G) { frames := 6, cells := 1, slots := 6, locals := 82 } (va_Pc [.ref (a 0), .int jt, .int jn] (rl_BT D rl_cl (rl_tys kI kZ) rl_nw (rl_w a kI kZ F) H0)) rl_NSE (fun (r : Int32) => True) 1 6 := by
  refine rl_mett (cc := prog_1_method_18_code) (maxL := 4) (ret := (some .int)) (by decide) rfl (Nat.le_of_ble_eq_true rfl) ?_
  intro p e s m below meth c ls hx hb hr hml hown hts hlocks hP hK hS hN hZ hout hl
  have hown : s.vm.findClass "RightsLimit" = some m.cls := hown
  have hG : ∀ x ∈ rl_G, x.before _ s = true := fun x h => hts x (List.mem_cons_of_mem _ h)
  have hl : lv_has ls 4 [(0, .ref (a 0)), (1, .int jt), (2, .int jn)] := hl
  obtain ⟨hcnt, hR⟩ := id hI
  refine lv_aload_n hx hb d_x_past_0 rfl (lv_at hl 0 rfl) ?_
  refine va_get (D := D) (ci := 0) (v := .ref (a 4)) (C := "RightsLimit") (T := fT_x) (N := 8) hx hb hG fi_x hown hK hP 0 rfl rfl 3 (by decide) (hG _ wd_171) (fun _ h9 => h9) rfl d_x_past_1 ?_
  refine lv_iload_n hx hb d_x_past_4 rfl (lv_at hl 1 rfl) ?_
  refine lv_iload_n hx hb d_x_past_5 rfl (lv_at hl 2 rfl) ?_
  have hpre := rl_BR.pre (av := .ref (a 4) :: [.int jt, .int jn]) rl_nw_ok hP hK hN
  refine rl_callr hS (va_runV (As := [.int jt, .int jn]) (rest := []) ⟨hx, hb, hml, hown, hG⟩ (k_q_endedAt l D a kI kZ F jt jn ⟨by omega, hR⟩ _) (cwV 2 hG (rl_gV wd_472 wd_473 wd_474 wd_18 wd_475) rfl rfl rfl (by decide +kernel) ⟨Nat.le_of_ble_eq_true rfl, Nat.le_of_ble_eq_true rfl⟩) ⟨hpre.1, (va_recv hK hP (ci := 4) (q0 := 4) rfl rfl), hpre.2⟩ rfl rfl hl.1 rfl (lv_room (Nat.le_of_ble_eq_true rfl)) d_x_past_6 ⟨Nat.le_of_ble_eq_true rfl, Nat.le_of_ble_eq_true rfl⟩) (fun r1 locs hw hS => ?_)
  have hwr1 := hw
  refine lv_istore_n (lv' := [(3, .int r1), (0, .ref (a 0)), (1, .int jt), (2, .int jn)]) hx hb d_x_past_9 rfl hl (by decide) rfl (fun ls hl => ?_)
  refine lv_iload_n hx hb d_x_past_10 rfl (lv_at hl 0 rfl) ?_
  refine lv_iconst (v := (-1)) hx hb d_x_past_11 (by decide) ?_
  refine lv_icmp_ne (tgt := 25) hx hb d_x_past_12 (by decide) (fun c2 => ?_) (fun c2 => ?_)
  · have ic2 := rl_ine c2
    simp only [rl_nm1] at ic2
    refine lv_iload_n hx hb d_x_past_25 rfl (lv_at hl 0 rfl) ?_
    exact rl_tret (W.iret (v := r1) hx hb hr (fun t ht hW => ⟨⟨r1, (), rfl, trivial, ht⟩, hS.F ht⟩) hS.2.2 d_x_past_26)
  · have ic2 := rl_ieq c2
    simp only [rl_nm1] at ic2
    exact rl_throw (own := "RightsLimit") (text := "no such copy") (ik := 131) (is := 190) (ic := 135) hx hb hlt hown (hG _ wd_398) (hG _ wd_23) (rl_str hZ (by decide)) (rl_ats hG hZ) hS (hl.1.trans hml.symm) d_x_past_15 d_x_past_18 d_x_past_19 d_x_past_21 d_x_past_24 hout (Nat.le_of_ble_eq_true rfl) (Nat.le_of_ble_eq_true rfl) (Nat.le_of_ble_eq_true rfl) (Nat.le_of_ble_eq_true rfl) hlocks
