set_option maxHeartbeats 4000000 in
set_option maxRecDepth 100000 in
theorem law_0 {p : Program} {l : Launch} {e : Env} {s : State} {m : MethodId} {below : List Frame} {meth : Method} {c : Code} {b L : Nat} {xs : Nat → Int32} {D : va_G} {a a2 : Nat → Nat} {kI kZ kL : ClassId} {q : Nat} {i : Int32} {F G : Nat → Nat → Int32} {g : Nat → Int64} {H : Heap} {locs : List Loc} {ls : Array Slot} {c0 s0 : Nat} (B0 : lw_B p l s m meth c b L xs D kI kZ kL) (hi0 : 0 ≤ i.toInt) (hi6 : i.toInt + 6 ≤ L) (hc : c0 + 1 ≤ 1087) (hs : s0 + 6 ≤ 18181) (J : lw_J s b D a a2 kI kZ kL q i F G g H locs ls) (kk : lw_K p l e s m below meth c b D a a2 kI kZ kL q i (c0 + 1) (s0 + 6)) : W p l e room_1 s m #[Value.ref b] below meth c H locs c0 s0 (lw_Z below #[Value.ref b] s) (F0 m 124 ls []) := by
  obtain ⟨hx, hb, hr, hml, hown, hG, hlocks, hX, hbl, hK, hZ, hC, hN, hlt, hL⟩ := B0
  obtain ⟨⟨hIc, hIR⟩, ⟨hJc, hJR⟩, ⟨hE0, hE1, hE2⟩, hP, hD, hS, hl⟩ := J
  have hA : ∀ q : Nat, s.heap.size ≤ q → (fun q : Nat => s.heap.size ≤ q) q := fun _ h => h
  have hbA : ¬ (fun q : Nat => s.heap.size ≤ q) b := Nat.not_le.mpr hbl
  have hK2 := hK.sub (tys' := rl_tys kI kZ) [0, 1] rfl
  have hi11 : (i + 1).toInt = i.toInt + 1 := rl_addk (by decide) (by omega) (by omega)
  have hi12 : (i + 2).toInt = i.toInt + 2 := rl_addk (by decide) (by omega) (by omega)
  have hi13 : (i + 3).toInt = i.toInt + 3 := rl_addk (by decide) (by omega) (by omega)
  have hi14 : (i + 4).toInt = i.toInt + 4 := rl_addk (by decide) (by omega) (by omega)
  have hi15 : (i + 5).toInt = i.toInt + 5 := rl_addk (by decide) (by omega) (by omega)
  obtain ⟨y1, ey1⟩ : ∃ y, y = xs (i + 1).toNatClampNeg := ⟨_, rfl⟩
  obtain ⟨y2, ey2⟩ : ∃ y, y = xs (i + 2).toNatClampNeg := ⟨_, rfl⟩
  obtain ⟨y3, ey3⟩ : ∃ y, y = xs (i + 3).toNatClampNeg := ⟨_, rfl⟩
  obtain ⟨y4, ey4⟩ : ∃ y, y = xs (i + 4).toNatClampNeg := ⟨_, rfl⟩
  obtain ⟨y5, ey5⟩ : ∃ y, y = xs (i + 5).toNatClampNeg := ⟨_, rfl⟩
  refine lv_aload_n hx hb d_w_law_124 rfl (lv_at hl 3 rfl) ?_
  refine lv_aload_n hx hb d_w_law_125 rfl (lv_at hl 4 rfl) ?_
  refine lv_iload hx hb d_w_law_126 (lv_at hl 0 rfl) ?_
  refine lv_iconst (v := 1) hx hb d_w_law_128 (by decide) ?_
  refine lv_iadd hx hb d_w_law_129 ?_
  refine va_sld hx hb hX hbl hbA hS (rl_in (n := L) (by omega) (by omega)) d_w_law_130 ?_
  rw [← ey1]
  have hpre := rl_B.pre (av := .ref (a 0) :: [.int y1]) rl_nw_ok (rl_P.l (rl_P.l hP)) hK2 (rl_D.l (rl_D.l hD)) hN
  refine rl_calliL hP hD hS hA (va_runV (As := [.int y1]) (rest := []) ⟨hx, hb, hml, hown, hG⟩ (k_x_title l D a kI kZ F y1 ⟨by omega, hIR⟩ _) (cwV 1 hG (rl_gV wd_193 wd_194 wd_195 wd_14 wd_196) rfl rfl rfl (by decide +kernel) ⟨Nat.le_of_ble_eq_true rfl, Nat.le_of_ble_eq_true rfl⟩) ⟨hpre.1, (va_recv hK (rl_P.l (rl_P.l hP)) (ci := 0) (q0 := 0) rfl rfl), hpre.2⟩ rfl rfl hl.1 rfl (lv_room (Nat.le_of_ble_eq_true rfl)) d_w_law_131 ⟨lw_c hc (by decide), lw_s hs (by decide)⟩) (fun r1 F3 H locs h2 hP hD hS => ?_)
  obtain ⟨hRF3, h2⟩ := h2
  have hP : va_P D rl_cl ((rl_w a kI kZ F3 ++ rl_O kL q g) ++ rm_w a2 kI kZ G) H := hP
  have hD : va_D (fun q : Nat => s.heap.size ≤ q) ((rl_w a kI kZ F3 ++ rl_O kL q g) ++ rm_w a2 kI kZ G) := hD
  refine lv_pop hx hb d_w_law_134 rfl ?_
  refine lv_aload_n hx hb d_w_law_135 rfl (lv_at hl 2 rfl) ?_
  refine lv_aload_n hx hb d_w_law_136 rfl (lv_at hl 4 rfl) ?_
  refine lv_iload hx hb d_w_law_137 (lv_at hl 0 rfl) ?_
  refine lv_iconst (v := 1) hx hb d_w_law_139 (by decide) ?_
  refine lv_iadd hx hb d_w_law_140 ?_
  refine va_sld hx hb hX hbl hbA hS (rl_in (n := L) (by omega) (by omega)) d_w_law_141 ?_
  rw [← ey1]
  have hpre := rl_B.pre (av := .ref (a2 0) :: [.int y1]) rl_nw0 (rl_P.r hP) hK2 (rl_D.r hD) rl_N0
  refine rl_calliR hP hD hS hA (va_runV (As := [.int y1]) (rest := []) ⟨hx, hb, hml, hown, hG⟩ (k_m_title l D a2 kI kZ G y1 ⟨by omega, hJR⟩ _) (cwV 1 hG (rl_gV wd_583 wd_584 wd_585 wd_19 wd_586) rfl rfl rfl (by decide +kernel) ⟨Nat.le_of_ble_eq_true rfl, Nat.le_of_ble_eq_true rfl⟩) ⟨hpre.1, (va_recv hK (rl_P.r hP) (ci := 5) (q0 := 0) rfl rfl), hpre.2⟩ rfl rfl hl.1 rfl (lv_room (Nat.le_of_ble_eq_true rfl)) d_w_law_142 ⟨lw_c hc (by decide), lw_s hs (by decide)⟩) (fun r4 F6 H locs h5 hP hD hS => ?_)
  obtain ⟨hRF6, h5⟩ := h5
  have hP : va_P D rl_cl ((rl_w a kI kZ F3 ++ rl_O kL q g) ++ rm_w a2 kI kZ F6) H := hP
  have hD : va_D (fun q : Nat => s.heap.size ≤ q) ((rl_w a kI kZ F3 ++ rl_O kL q g) ++ rm_w a2 kI kZ F6) := hD
  refine lv_pop hx hb d_w_law_145 rfl ?_
  refine lv_goto (tgt := 875) hx hb d_w_law_146 (by decide) ?_
  refine W.widen (k := c0 + 1) (n := s0 + 6) (by omega) (by omega) ?_
  exact kk F3 F6 g _ _ _ ⟨⟨by omega, hRF3⟩, ⟨by omega, hRF6⟩, ⟨by omega, by omega, by omega⟩, hP, hD, hS, lv_sub hl [0, 1, 2, 3, 4] rfl⟩
set_option maxHeartbeats 4000000 in
set_option maxRecDepth 100000 in
theorem law_1 {p : Program} {l : Launch} {e : Env} {s : State} {m : MethodId} {below : List Frame} {meth : Method} {c : Code} {b L : Nat} {xs : Nat → Int32} {D : va_G} {a a2 : Nat → Nat} {kI kZ kL : ClassId} {q : Nat} {i : Int32} {F G : Nat → Nat → Int32} {g : Nat → Int64} {H : Heap} {locs : List Loc} {ls : Array Slot} {c0 s0 : Nat} (B0 : lw_B p l s m meth c b L xs D kI kZ kL) (hi0 : 0 ≤ i.toInt) (hi6 : i.toInt + 6 ≤ L) (hc : c0 + 1 ≤ 1087) (hs : s0 + 6 ≤ 18181) (J : lw_J s b D a a2 kI kZ kL q i F G g H locs ls) (kk : lw_K p l e s m below meth c b D a a2 kI kZ kL q i (c0 + 1) (s0 + 6)) : W p l e room_1 s m #[Value.ref b] below meth c H locs c0 s0 (lw_Z below #[Value.ref b] s) (F0 m 149 ls []) := by
  obtain ⟨hx, hb, hr, hml, hown, hG, hlocks, hX, hbl, hK, hZ, hC, hN, hlt, hL⟩ := B0
  obtain ⟨⟨hIc, hIR⟩, ⟨hJc, hJR⟩, ⟨hE0, hE1, hE2⟩, hP, hD, hS, hl⟩ := J
  have hA : ∀ q : Nat, s.heap.size ≤ q → (fun q : Nat => s.heap.size ≤ q) q := fun _ h => h
  have hbA : ¬ (fun q : Nat => s.heap.size ≤ q) b := Nat.not_le.mpr hbl
  have hK2 := hK.sub (tys' := rl_tys kI kZ) [0, 1] rfl
  have hi11 : (i + 1).toInt = i.toInt + 1 := rl_addk (by decide) (by omega) (by omega)
  have hi12 : (i + 2).toInt = i.toInt + 2 := rl_addk (by decide) (by omega) (by omega)
  have hi13 : (i + 3).toInt = i.toInt + 3 := rl_addk (by decide) (by omega) (by omega)
  have hi14 : (i + 4).toInt = i.toInt + 4 := rl_addk (by decide) (by omega) (by omega)
  have hi15 : (i + 5).toInt = i.toInt + 5 := rl_addk (by decide) (by omega) (by omega)
  obtain ⟨y1, ey1⟩ : ∃ y, y = xs (i + 1).toNatClampNeg := ⟨_, rfl⟩
  obtain ⟨y2, ey2⟩ : ∃ y, y = xs (i + 2).toNatClampNeg := ⟨_, rfl⟩
  obtain ⟨y3, ey3⟩ : ∃ y, y = xs (i + 3).toNatClampNeg := ⟨_, rfl⟩
  obtain ⟨y4, ey4⟩ : ∃ y, y = xs (i + 4).toNatClampNeg := ⟨_, rfl⟩
  obtain ⟨y5, ey5⟩ : ∃ y, y = xs (i + 5).toNatClampNeg := ⟨_, rfl⟩
  refine lv_aload_n hx hb d_w_law_149 rfl (lv_at hl 3 rfl) ?_
  refine lv_aload_n hx hb d_w_law_150 rfl (lv_at hl 4 rfl) ?_
  refine lv_iload hx hb d_w_law_151 (lv_at hl 0 rfl) ?_
  refine lv_iconst (v := 1) hx hb d_w_law_153 (by decide) ?_
  refine lv_iadd hx hb d_w_law_154 ?_
  refine va_sld hx hb hX hbl hbA hS (rl_in (n := L) (by omega) (by omega)) d_w_law_155 ?_
  rw [← ey1]
  refine lv_aload_n hx hb d_w_law_156 rfl (lv_at hl 4 rfl) ?_
  refine lv_iload hx hb d_w_law_157 (lv_at hl 0 rfl) ?_
  refine lv_iconst (v := 2) hx hb d_w_law_159 (by decide) ?_
  refine lv_iadd hx hb d_w_law_160 ?_
  refine va_sld hx hb hX hbl hbA hS (rl_in (n := L) (by omega) (by omega)) d_w_law_161 ?_
  rw [← ey2]
  refine lv_if_eq (tgt := 169) hx hb d_w_law_162 (by decide) (fun _ => ?_) (fun _ => ?_)
  · refine lv_iconst (v := 0) hx hb d_w_law_169 (by decide) ?_
    have hpre := rl_B.pre (av := .ref (a 0) :: [.int y1, .int 0]) rl_nw_ok (rl_P.l (rl_P.l hP)) hK2 (rl_D.l (rl_D.l hD)) hN
    refine rl_calliL hP hD hS hA (va_runV (As := [.int y1, .int 0]) (rest := []) ⟨hx, hb, hml, hown, hG⟩ (k_x_open l D a kI kZ F y1 0 ⟨by omega, hIR⟩ _) (cwV 2 hG (rl_gV wd_207 wd_208 wd_209 wd_14 wd_210) rfl rfl rfl (by decide +kernel) ⟨Nat.le_of_ble_eq_true rfl, Nat.le_of_ble_eq_true rfl⟩) ⟨hpre.1, (va_recv hK (rl_P.l (rl_P.l hP)) (ci := 0) (q0 := 0) rfl rfl), hpre.2⟩ rfl rfl hl.1 rfl (lv_room (Nat.le_of_ble_eq_true rfl)) d_w_law_170 ⟨lw_c hc (by decide), lw_s hs (by decide)⟩) (fun r1 F3 H locs h2 hP hD hS => ?_)
    obtain ⟨hRF3, h2⟩ := h2
    have hP : va_P D rl_cl ((rl_w a kI kZ F3 ++ rl_O kL q g) ++ rm_w a2 kI kZ G) H := hP
    have hD : va_D (fun q : Nat => s.heap.size ≤ q) ((rl_w a kI kZ F3 ++ rl_O kL q g) ++ rm_w a2 kI kZ G) := hD
    refine lv_pop hx hb d_w_law_173 rfl ?_
    refine lv_aload_n hx hb d_w_law_174 rfl (lv_at hl 2 rfl) ?_
    refine lv_aload_n hx hb d_w_law_175 rfl (lv_at hl 4 rfl) ?_
    refine lv_iload hx hb d_w_law_176 (lv_at hl 0 rfl) ?_
    refine lv_iconst (v := 1) hx hb d_w_law_178 (by decide) ?_
    refine lv_iadd hx hb d_w_law_179 ?_
    refine va_sld hx hb hX hbl hbA hS (rl_in (n := L) (by omega) (by omega)) d_w_law_180 ?_
    rw [← ey1]
    refine lv_aload_n hx hb d_w_law_181 rfl (lv_at hl 4 rfl) ?_
    refine lv_iload hx hb d_w_law_182 (lv_at hl 0 rfl) ?_
    refine lv_iconst (v := 2) hx hb d_w_law_184 (by decide) ?_
    refine lv_iadd hx hb d_w_law_185 ?_
    refine va_sld hx hb hX hbl hbA hS (rl_in (n := L) (by omega) (by omega)) d_w_law_186 ?_
    rw [← ey2]
    refine lv_if_eq (tgt := 194) hx hb d_w_law_187 (by decide) (fun _ => ?_) (fun _ => ?_)
    · refine lv_iconst (v := 0) hx hb d_w_law_194 (by decide) ?_
      have hpre := rl_B.pre (av := .ref (a2 0) :: [.int y1, .int 0]) rl_nw0 (rl_P.r hP) hK2 (rl_D.r hD) rl_N0
      refine rl_calliR hP hD hS hA (va_runV (As := [.int y1, .int 0]) (rest := []) ⟨hx, hb, hml, hown, hG⟩ (k_m_open l D a2 kI kZ G y1 0 ⟨by omega, hJR⟩ _) (cwV 2 hG (rl_gV wd_590 wd_591 wd_592 wd_19 wd_593) rfl rfl rfl (by decide +kernel) ⟨Nat.le_of_ble_eq_true rfl, Nat.le_of_ble_eq_true rfl⟩) ⟨hpre.1, (va_recv hK (rl_P.r hP) (ci := 5) (q0 := 0) rfl rfl), hpre.2⟩ rfl rfl hl.1 rfl (lv_room (Nat.le_of_ble_eq_true rfl)) d_w_law_195 ⟨lw_c hc (by decide), lw_s hs (by decide)⟩) (fun r4 F6 H locs h5 hP hD hS => ?_)
      obtain ⟨hRF6, h5⟩ := h5
      have hP : va_P D rl_cl ((rl_w a kI kZ F3 ++ rl_O kL q g) ++ rm_w a2 kI kZ F6) H := hP
      have hD : va_D (fun q : Nat => s.heap.size ≤ q) ((rl_w a kI kZ F3 ++ rl_O kL q g) ++ rm_w a2 kI kZ F6) := hD
      refine lv_pop hx hb d_w_law_198 rfl ?_
      refine lv_goto (tgt := 875) hx hb d_w_law_199 (by decide) ?_
      refine W.widen (k := c0 + 1) (n := s0 + 6) (by omega) (by omega) ?_
      exact kk F3 F6 g _ _ _ ⟨⟨by omega, hRF3⟩, ⟨by omega, hRF6⟩, ⟨by omega, by omega, by omega⟩, hP, hD, hS, lv_sub hl [0, 1, 2, 3, 4] rfl⟩
    · refine lv_iconst (v := 1) hx hb d_w_law_190 (by decide) ?_
      refine lv_goto (tgt := 195) hx hb d_w_law_191 (by decide) ?_
      have hpre := rl_B.pre (av := .ref (a2 0) :: [.int y1, .int 1]) rl_nw0 (rl_P.r hP) hK2 (rl_D.r hD) rl_N0
      refine rl_calliR hP hD hS hA (va_runV (As := [.int y1, .int 1]) (rest := []) ⟨hx, hb, hml, hown, hG⟩ (k_m_open l D a2 kI kZ G y1 1 ⟨by omega, hJR⟩ _) (cwV 2 hG (rl_gV wd_590 wd_591 wd_592 wd_19 wd_593) rfl rfl rfl (by decide +kernel) ⟨Nat.le_of_ble_eq_true rfl, Nat.le_of_ble_eq_true rfl⟩) ⟨hpre.1, (va_recv hK (rl_P.r hP) (ci := 5) (q0 := 0) rfl rfl), hpre.2⟩ rfl rfl hl.1 rfl (lv_room (Nat.le_of_ble_eq_true rfl)) d_w_law_195 ⟨lw_c hc (by decide), lw_s hs (by decide)⟩) (fun r7 F9 H locs h8 hP hD hS => ?_)
      obtain ⟨hRF9, h8⟩ := h8
      have hP : va_P D rl_cl ((rl_w a kI kZ F3 ++ rl_O kL q g) ++ rm_w a2 kI kZ F9) H := hP
      have hD : va_D (fun q : Nat => s.heap.size ≤ q) ((rl_w a kI kZ F3 ++ rl_O kL q g) ++ rm_w a2 kI kZ F9) := hD
      refine lv_pop hx hb d_w_law_198 rfl ?_
      refine lv_goto (tgt := 875) hx hb d_w_law_199 (by decide) ?_
      refine W.widen (k := c0 + 1) (n := s0 + 6) (by omega) (by omega) ?_
      exact kk F3 F9 g _ _ _ ⟨⟨by omega, hRF3⟩, ⟨by omega, hRF9⟩, ⟨by omega, by omega, by omega⟩, hP, hD, hS, lv_sub hl [0, 1, 2, 3, 4] rfl⟩
  · refine lv_iconst (v := 1) hx hb d_w_law_165 (by decide) ?_
    refine lv_goto (tgt := 170) hx hb d_w_law_166 (by decide) ?_
    have hpre := rl_B.pre (av := .ref (a 0) :: [.int y1, .int 1]) rl_nw_ok (rl_P.l (rl_P.l hP)) hK2 (rl_D.l (rl_D.l hD)) hN
    refine rl_calliL hP hD hS hA (va_runV (As := [.int y1, .int 1]) (rest := []) ⟨hx, hb, hml, hown, hG⟩ (k_x_open l D a kI kZ F y1 1 ⟨by omega, hIR⟩ _) (cwV 2 hG (rl_gV wd_207 wd_208 wd_209 wd_14 wd_210) rfl rfl rfl (by decide +kernel) ⟨Nat.le_of_ble_eq_true rfl, Nat.le_of_ble_eq_true rfl⟩) ⟨hpre.1, (va_recv hK (rl_P.l (rl_P.l hP)) (ci := 0) (q0 := 0) rfl rfl), hpre.2⟩ rfl rfl hl.1 rfl (lv_room (Nat.le_of_ble_eq_true rfl)) d_w_law_170 ⟨lw_c hc (by decide), lw_s hs (by decide)⟩) (fun r10 F12 H locs h11 hP hD hS => ?_)
    obtain ⟨hRF12, h11⟩ := h11
    have hP : va_P D rl_cl ((rl_w a kI kZ F12 ++ rl_O kL q g) ++ rm_w a2 kI kZ G) H := hP
    have hD : va_D (fun q : Nat => s.heap.size ≤ q) ((rl_w a kI kZ F12 ++ rl_O kL q g) ++ rm_w a2 kI kZ G) := hD
    refine lv_pop hx hb d_w_law_173 rfl ?_
    refine lv_aload_n hx hb d_w_law_174 rfl (lv_at hl 2 rfl) ?_
    refine lv_aload_n hx hb d_w_law_175 rfl (lv_at hl 4 rfl) ?_
    refine lv_iload hx hb d_w_law_176 (lv_at hl 0 rfl) ?_
    refine lv_iconst (v := 1) hx hb d_w_law_178 (by decide) ?_
    refine lv_iadd hx hb d_w_law_179 ?_
    refine va_sld hx hb hX hbl hbA hS (rl_in (n := L) (by omega) (by omega)) d_w_law_180 ?_
    rw [← ey1]
    refine lv_aload_n hx hb d_w_law_181 rfl (lv_at hl 4 rfl) ?_
    refine lv_iload hx hb d_w_law_182 (lv_at hl 0 rfl) ?_
    refine lv_iconst (v := 2) hx hb d_w_law_184 (by decide) ?_
    refine lv_iadd hx hb d_w_law_185 ?_
    refine va_sld hx hb hX hbl hbA hS (rl_in (n := L) (by omega) (by omega)) d_w_law_186 ?_
    rw [← ey2]
    refine lv_if_eq (tgt := 194) hx hb d_w_law_187 (by decide) (fun _ => ?_) (fun _ => ?_)
    · refine lv_iconst (v := 0) hx hb d_w_law_194 (by decide) ?_
      have hpre := rl_B.pre (av := .ref (a2 0) :: [.int y1, .int 0]) rl_nw0 (rl_P.r hP) hK2 (rl_D.r hD) rl_N0
      refine rl_calliR hP hD hS hA (va_runV (As := [.int y1, .int 0]) (rest := []) ⟨hx, hb, hml, hown, hG⟩ (k_m_open l D a2 kI kZ G y1 0 ⟨by omega, hJR⟩ _) (cwV 2 hG (rl_gV wd_590 wd_591 wd_592 wd_19 wd_593) rfl rfl rfl (by decide +kernel) ⟨Nat.le_of_ble_eq_true rfl, Nat.le_of_ble_eq_true rfl⟩) ⟨hpre.1, (va_recv hK (rl_P.r hP) (ci := 5) (q0 := 0) rfl rfl), hpre.2⟩ rfl rfl hl.1 rfl (lv_room (Nat.le_of_ble_eq_true rfl)) d_w_law_195 ⟨lw_c hc (by decide), lw_s hs (by decide)⟩) (fun r13 F15 H locs h14 hP hD hS => ?_)
      obtain ⟨hRF15, h14⟩ := h14
      have hP : va_P D rl_cl ((rl_w a kI kZ F12 ++ rl_O kL q g) ++ rm_w a2 kI kZ F15) H := hP
      have hD : va_D (fun q : Nat => s.heap.size ≤ q) ((rl_w a kI kZ F12 ++ rl_O kL q g) ++ rm_w a2 kI kZ F15) := hD
      refine lv_pop hx hb d_w_law_198 rfl ?_
      refine lv_goto (tgt := 875) hx hb d_w_law_199 (by decide) ?_
      refine W.widen (k := c0 + 1) (n := s0 + 6) (by omega) (by omega) ?_
      exact kk F12 F15 g _ _ _ ⟨⟨by omega, hRF12⟩, ⟨by omega, hRF15⟩, ⟨by omega, by omega, by omega⟩, hP, hD, hS, lv_sub hl [0, 1, 2, 3, 4] rfl⟩
    · refine lv_iconst (v := 1) hx hb d_w_law_190 (by decide) ?_
      refine lv_goto (tgt := 195) hx hb d_w_law_191 (by decide) ?_
      have hpre := rl_B.pre (av := .ref (a2 0) :: [.int y1, .int 1]) rl_nw0 (rl_P.r hP) hK2 (rl_D.r hD) rl_N0
      refine rl_calliR hP hD hS hA (va_runV (As := [.int y1, .int 1]) (rest := []) ⟨hx, hb, hml, hown, hG⟩ (k_m_open l D a2 kI kZ G y1 1 ⟨by omega, hJR⟩ _) (cwV 2 hG (rl_gV wd_590 wd_591 wd_592 wd_19 wd_593) rfl rfl rfl (by decide +kernel) ⟨Nat.le_of_ble_eq_true rfl, Nat.le_of_ble_eq_true rfl⟩) ⟨hpre.1, (va_recv hK (rl_P.r hP) (ci := 5) (q0 := 0) rfl rfl), hpre.2⟩ rfl rfl hl.1 rfl (lv_room (Nat.le_of_ble_eq_true rfl)) d_w_law_195 ⟨lw_c hc (by decide), lw_s hs (by decide)⟩) (fun r16 F18 H locs h17 hP hD hS => ?_)
      obtain ⟨hRF18, h17⟩ := h17
      have hP : va_P D rl_cl ((rl_w a kI kZ F12 ++ rl_O kL q g) ++ rm_w a2 kI kZ F18) H := hP
      have hD : va_D (fun q : Nat => s.heap.size ≤ q) ((rl_w a kI kZ F12 ++ rl_O kL q g) ++ rm_w a2 kI kZ F18) := hD
      refine lv_pop hx hb d_w_law_198 rfl ?_
      refine lv_goto (tgt := 875) hx hb d_w_law_199 (by decide) ?_
      refine W.widen (k := c0 + 1) (n := s0 + 6) (by omega) (by omega) ?_
      exact kk F12 F18 g _ _ _ ⟨⟨by omega, hRF12⟩, ⟨by omega, hRF18⟩, ⟨by omega, by omega, by omega⟩, hP, hD, hS, lv_sub hl [0, 1, 2, 3, 4] rfl⟩
set_option maxHeartbeats 4000000 in
set_option maxRecDepth 100000 in
theorem law_2 {p : Program} {l : Launch} {e : Env} {s : State} {m : MethodId} {below : List Frame} {meth : Method} {c : Code} {b L : Nat} {xs : Nat → Int32} {D : va_G} {a a2 : Nat → Nat} {kI kZ kL : ClassId} {q : Nat} {i : Int32} {F G : Nat → Nat → Int32} {g : Nat → Int64} {H : Heap} {locs : List Loc} {ls : Array Slot} {c0 s0 : Nat} (B0 : lw_B p l s m meth c b L xs D kI kZ kL) (hi0 : 0 ≤ i.toInt) (hi6 : i.toInt + 6 ≤ L) (hc : c0 + 1 ≤ 1087) (hs : s0 + 6 ≤ 18181) (J : lw_J s b D a a2 kI kZ kL q i F G g H locs ls) (kk : lw_K p l e s m below meth c b D a a2 kI kZ kL q i (c0 + 1) (s0 + 6)) : W p l e room_1 s m #[Value.ref b] below meth c H locs c0 s0 (lw_Z below #[Value.ref b] s) (F0 m 202 ls []) := by
  obtain ⟨hx, hb, hr, hml, hown, hG, hlocks, hX, hbl, hK, hZ, hC, hN, hlt, hL⟩ := B0
  obtain ⟨⟨hIc, hIR⟩, ⟨hJc, hJR⟩, ⟨hE0, hE1, hE2⟩, hP, hD, hS, hl⟩ := J
  have hA : ∀ q : Nat, s.heap.size ≤ q → (fun q : Nat => s.heap.size ≤ q) q := fun _ h => h
  have hbA : ¬ (fun q : Nat => s.heap.size ≤ q) b := Nat.not_le.mpr hbl
  have hK2 := hK.sub (tys' := rl_tys kI kZ) [0, 1] rfl
  have hi11 : (i + 1).toInt = i.toInt + 1 := rl_addk (by decide) (by omega) (by omega)
  have hi12 : (i + 2).toInt = i.toInt + 2 := rl_addk (by decide) (by omega) (by omega)
  have hi13 : (i + 3).toInt = i.toInt + 3 := rl_addk (by decide) (by omega) (by omega)
  have hi14 : (i + 4).toInt = i.toInt + 4 := rl_addk (by decide) (by omega) (by omega)
  have hi15 : (i + 5).toInt = i.toInt + 5 := rl_addk (by decide) (by omega) (by omega)
  obtain ⟨y1, ey1⟩ : ∃ y, y = xs (i + 1).toNatClampNeg := ⟨_, rfl⟩
  obtain ⟨y2, ey2⟩ : ∃ y, y = xs (i + 2).toNatClampNeg := ⟨_, rfl⟩
  obtain ⟨y3, ey3⟩ : ∃ y, y = xs (i + 3).toNatClampNeg := ⟨_, rfl⟩
  obtain ⟨y4, ey4⟩ : ∃ y, y = xs (i + 4).toNatClampNeg := ⟨_, rfl⟩
  obtain ⟨y5, ey5⟩ : ∃ y, y = xs (i + 5).toNatClampNeg := ⟨_, rfl⟩
  refine lv_aload_n hx hb d_w_law_202 rfl (lv_at hl 3 rfl) ?_
  refine lv_aload_n hx hb d_w_law_203 rfl (lv_at hl 4 rfl) ?_
  refine lv_iload hx hb d_w_law_204 (lv_at hl 0 rfl) ?_
  refine lv_iconst (v := 1) hx hb d_w_law_206 (by decide) ?_
  refine lv_iadd hx hb d_w_law_207 ?_
  refine va_sld hx hb hX hbl hbA hS (rl_in (n := L) (by omega) (by omega)) d_w_law_208 ?_
  rw [← ey1]
  refine lv_aload_n hx hb d_w_law_209 rfl (lv_at hl 4 rfl) ?_
  refine lv_iload hx hb d_w_law_210 (lv_at hl 0 rfl) ?_
  refine lv_iconst (v := 2) hx hb d_w_law_212 (by decide) ?_
  refine lv_iadd hx hb d_w_law_213 ?_
  refine va_sld hx hb hX hbl hbA hS (rl_in (n := L) (by omega) (by omega)) d_w_law_214 ?_
  rw [← ey2]
  refine lv_aload_n hx hb d_w_law_215 rfl (lv_at hl 4 rfl) ?_
  refine lv_iload hx hb d_w_law_216 (lv_at hl 0 rfl) ?_
  refine lv_iconst (v := 3) hx hb d_w_law_218 (by decide) ?_
  refine lv_iadd hx hb d_w_law_219 ?_
  refine va_sld hx hb hX hbl hbA hS (rl_in (n := L) (by omega) (by omega)) d_w_law_220 ?_
  rw [← ey3]
  refine lv_aload_n hx hb d_w_law_221 rfl (lv_at hl 4 rfl) ?_
  refine lv_iload hx hb d_w_law_222 (lv_at hl 0 rfl) ?_
  refine lv_iconst (v := 4) hx hb d_w_law_224 (by decide) ?_
  refine lv_iadd hx hb d_w_law_225 ?_
  refine va_sld hx hb hX hbl hbA hS (rl_in (n := L) (by omega) (by omega)) d_w_law_226 ?_
  rw [← ey4]
  have hpre := rl_B.pre (av := .ref (a 0) :: [.int y1, .int y2, .int y3, .int y4]) rl_nw_ok (rl_P.l (rl_P.l hP)) hK2 (rl_D.l (rl_D.l hD)) hN
  refine rl_calliL hP hD hS hA (va_runV (As := [.int y1, .int y2, .int y3, .int y4]) (rest := []) ⟨hx, hb, hml, hown, hG⟩ (k_x_limit l D a kI kZ F y1 y2 y3 y4 ⟨by omega, hIR⟩ _) (cwV 4 hG (rl_gV wd_215 wd_216 wd_217 wd_14 wd_218) rfl rfl rfl (by decide +kernel) ⟨Nat.le_of_ble_eq_true rfl, Nat.le_of_ble_eq_true rfl⟩) ⟨hpre.1, (va_recv hK (rl_P.l (rl_P.l hP)) (ci := 0) (q0 := 0) rfl rfl), hpre.2⟩ rfl rfl hl.1 rfl (lv_room (Nat.le_of_ble_eq_true rfl)) d_w_law_227 ⟨lw_c hc (by decide), lw_s hs (by decide)⟩) (fun r1 F3 H locs h2 hP hD hS => ?_)
  obtain ⟨hRF3, h2⟩ := h2
  have hP : va_P D rl_cl ((rl_w a kI kZ F3 ++ rl_O kL q g) ++ rm_w a2 kI kZ G) H := hP
  have hD : va_D (fun q : Nat => s.heap.size ≤ q) ((rl_w a kI kZ F3 ++ rl_O kL q g) ++ rm_w a2 kI kZ G) := hD
  refine lv_pop hx hb d_w_law_230 rfl ?_
  refine lv_aload_n hx hb d_w_law_231 rfl (lv_at hl 2 rfl) ?_
  refine lv_aload_n hx hb d_w_law_232 rfl (lv_at hl 4 rfl) ?_
  refine lv_iload hx hb d_w_law_233 (lv_at hl 0 rfl) ?_
  refine lv_iconst (v := 1) hx hb d_w_law_235 (by decide) ?_
  refine lv_iadd hx hb d_w_law_236 ?_
  refine va_sld hx hb hX hbl hbA hS (rl_in (n := L) (by omega) (by omega)) d_w_law_237 ?_
  rw [← ey1]
  refine lv_aload_n hx hb d_w_law_238 rfl (lv_at hl 4 rfl) ?_
  refine lv_iload hx hb d_w_law_239 (lv_at hl 0 rfl) ?_
  refine lv_iconst (v := 2) hx hb d_w_law_241 (by decide) ?_
  refine lv_iadd hx hb d_w_law_242 ?_
  refine va_sld hx hb hX hbl hbA hS (rl_in (n := L) (by omega) (by omega)) d_w_law_243 ?_
  rw [← ey2]
  refine lv_aload_n hx hb d_w_law_244 rfl (lv_at hl 4 rfl) ?_
  refine lv_iload hx hb d_w_law_245 (lv_at hl 0 rfl) ?_
  refine lv_iconst (v := 3) hx hb d_w_law_247 (by decide) ?_
  refine lv_iadd hx hb d_w_law_248 ?_
  refine va_sld hx hb hX hbl hbA hS (rl_in (n := L) (by omega) (by omega)) d_w_law_249 ?_
  rw [← ey3]
  refine lv_aload_n hx hb d_w_law_250 rfl (lv_at hl 4 rfl) ?_
  refine lv_iload hx hb d_w_law_251 (lv_at hl 0 rfl) ?_
  refine lv_iconst (v := 4) hx hb d_w_law_253 (by decide) ?_
  refine lv_iadd hx hb d_w_law_254 ?_
  refine va_sld hx hb hX hbl hbA hS (rl_in (n := L) (by omega) (by omega)) d_w_law_255 ?_
  rw [← ey4]
  have hpre := rl_B.pre (av := .ref (a2 0) :: [.int y1, .int y2, .int y3, .int y4]) rl_nw0 (rl_P.r hP) hK2 (rl_D.r hD) rl_N0
  refine rl_calliR hP hD hS hA (va_runV (As := [.int y1, .int y2, .int y3, .int y4]) (rest := []) ⟨hx, hb, hml, hown, hG⟩ (k_m_limit l D a2 kI kZ G y1 y2 y3 y4 ⟨by omega, hJR⟩ _) (cwV 4 hG (rl_gV wd_598 wd_599 wd_600 wd_19 wd_601) rfl rfl rfl (by decide +kernel) ⟨Nat.le_of_ble_eq_true rfl, Nat.le_of_ble_eq_true rfl⟩) ⟨hpre.1, (va_recv hK (rl_P.r hP) (ci := 5) (q0 := 0) rfl rfl), hpre.2⟩ rfl rfl hl.1 rfl (lv_room (Nat.le_of_ble_eq_true rfl)) d_w_law_256 ⟨lw_c hc (by decide), lw_s hs (by decide)⟩) (fun r4 F6 H locs h5 hP hD hS => ?_)
  obtain ⟨hRF6, h5⟩ := h5
  have hP : va_P D rl_cl ((rl_w a kI kZ F3 ++ rl_O kL q g) ++ rm_w a2 kI kZ F6) H := hP
  have hD : va_D (fun q : Nat => s.heap.size ≤ q) ((rl_w a kI kZ F3 ++ rl_O kL q g) ++ rm_w a2 kI kZ F6) := hD
  refine lv_pop hx hb d_w_law_259 rfl ?_
  refine lv_goto (tgt := 875) hx hb d_w_law_260 (by decide) ?_
  refine W.widen (k := c0 + 1) (n := s0 + 6) (by omega) (by omega) ?_
  exact kk F3 F6 g _ _ _ ⟨⟨by omega, hRF3⟩, ⟨by omega, hRF6⟩, ⟨by omega, by omega, by omega⟩, hP, hD, hS, lv_sub hl [0, 1, 2, 3, 4] rfl⟩
set_option maxHeartbeats 4000000 in
set_option maxRecDepth 100000 in
theorem law_3 {p : Program} {l : Launch} {e : Env} {s : State} {m : MethodId} {below : List Frame} {meth : Method} {c : Code} {b L : Nat} {xs : Nat → Int32} {D : va_G} {a a2 : Nat → Nat} {kI kZ kL : ClassId} {q : Nat} {i : Int32} {F G : Nat → Nat → Int32} {g : Nat → Int64} {H : Heap} {locs : List Loc} {ls : Array Slot} {c0 s0 : Nat} (B0 : lw_B p l s m meth c b L xs D kI kZ kL) (hi0 : 0 ≤ i.toInt) (hi6 : i.toInt + 6 ≤ L) (hc : c0 + 1 ≤ 1087) (hs : s0 + 6 ≤ 18181) (J : lw_J s b D a a2 kI kZ kL q i F G g H locs ls) (kk : lw_K p l e s m below meth c b D a a2 kI kZ kL q i (c0 + 1) (s0 + 6)) : W p l e room_1 s m #[Value.ref b] below meth c H locs c0 s0 (lw_Z below #[Value.ref b] s) (F0 m 263 ls []) := by
  obtain ⟨hx, hb, hr, hml, hown, hG, hlocks, hX, hbl, hK, hZ, hC, hN, hlt, hL⟩ := B0
  obtain ⟨⟨hIc, hIR⟩, ⟨hJc, hJR⟩, ⟨hE0, hE1, hE2⟩, hP, hD, hS, hl⟩ := J
  have hA : ∀ q : Nat, s.heap.size ≤ q → (fun q : Nat => s.heap.size ≤ q) q := fun _ h => h
  have hbA : ¬ (fun q : Nat => s.heap.size ≤ q) b := Nat.not_le.mpr hbl
  have hK2 := hK.sub (tys' := rl_tys kI kZ) [0, 1] rfl
  have hi11 : (i + 1).toInt = i.toInt + 1 := rl_addk (by decide) (by omega) (by omega)
  have hi12 : (i + 2).toInt = i.toInt + 2 := rl_addk (by decide) (by omega) (by omega)
  have hi13 : (i + 3).toInt = i.toInt + 3 := rl_addk (by decide) (by omega) (by omega)
  have hi14 : (i + 4).toInt = i.toInt + 4 := rl_addk (by decide) (by omega) (by omega)
  have hi15 : (i + 5).toInt = i.toInt + 5 := rl_addk (by decide) (by omega) (by omega)
  obtain ⟨y1, ey1⟩ : ∃ y, y = xs (i + 1).toNatClampNeg := ⟨_, rfl⟩
  obtain ⟨y2, ey2⟩ : ∃ y, y = xs (i + 2).toNatClampNeg := ⟨_, rfl⟩
  obtain ⟨y3, ey3⟩ : ∃ y, y = xs (i + 3).toNatClampNeg := ⟨_, rfl⟩
  obtain ⟨y4, ey4⟩ : ∃ y, y = xs (i + 4).toNatClampNeg := ⟨_, rfl⟩
  obtain ⟨y5, ey5⟩ : ∃ y, y = xs (i + 5).toNatClampNeg := ⟨_, rfl⟩
  refine lv_aload_n hx hb d_w_law_263 rfl (lv_at hl 3 rfl) ?_
  refine lv_aload_n hx hb d_w_law_264 rfl (lv_at hl 4 rfl) ?_
  refine lv_iload hx hb d_w_law_265 (lv_at hl 0 rfl) ?_
  refine lv_iconst (v := 1) hx hb d_w_law_267 (by decide) ?_
  refine lv_iadd hx hb d_w_law_268 ?_
  refine va_sld hx hb hX hbl hbA hS (rl_in (n := L) (by omega) (by omega)) d_w_law_269 ?_
  rw [← ey1]
  refine lv_aload_n hx hb d_w_law_270 rfl (lv_at hl 4 rfl) ?_
  refine lv_iload hx hb d_w_law_271 (lv_at hl 0 rfl) ?_
  refine lv_iconst (v := 2) hx hb d_w_law_273 (by decide) ?_
  refine lv_iadd hx hb d_w_law_274 ?_
  refine va_sld hx hb hX hbl hbA hS (rl_in (n := L) (by omega) (by omega)) d_w_law_275 ?_
  rw [← ey2]
  refine lv_aload_n hx hb d_w_law_276 rfl (lv_at hl 4 rfl) ?_
  refine lv_iload hx hb d_w_law_277 (lv_at hl 0 rfl) ?_
  refine lv_iconst (v := 3) hx hb d_w_law_279 (by decide) ?_
  refine lv_iadd hx hb d_w_law_280 ?_
  refine va_sld hx hb hX hbl hbA hS (rl_in (n := L) (by omega) (by omega)) d_w_law_281 ?_
  rw [← ey3]
  refine lv_aload_n hx hb d_w_law_282 rfl (lv_at hl 4 rfl) ?_
  refine lv_iload hx hb d_w_law_283 (lv_at hl 0 rfl) ?_
  refine lv_iconst (v := 4) hx hb d_w_law_285 (by decide) ?_
  refine lv_iadd hx hb d_w_law_286 ?_
  refine va_sld hx hb hX hbl hbA hS (rl_in (n := L) (by omega) (by omega)) d_w_law_287 ?_
  rw [← ey4]
  refine lv_aload_n hx hb d_w_law_288 rfl (lv_at hl 4 rfl) ?_
  refine lv_iload hx hb d_w_law_289 (lv_at hl 0 rfl) ?_
  refine lv_iconst (v := 5) hx hb d_w_law_291 (by decide) ?_
  refine lv_iadd hx hb d_w_law_292 ?_
  refine va_sld hx hb hX hbl hbA hS (rl_in (n := L) (by omega) (by omega)) d_w_law_293 ?_
  rw [← ey5]
  have hpre := rl_B.pre (av := .ref (a 0) :: [.int y1, .int y2, .int y3, .int y4, .int y5]) rl_nw_ok (rl_P.l (rl_P.l hP)) hK2 (rl_D.l (rl_D.l hD)) hN
  refine rl_calliL hP hD hS hA (va_runV (As := [.int y1, .int y2, .int y3, .int y4, .int y5]) (rest := []) ⟨hx, hb, hml, hown, hG⟩ (k_x_licence l D a kI kZ F y1 y2 y3 y4 y5 ⟨by omega, hIR⟩ _) (cwV 5 hG (rl_gV wd_232 wd_233 wd_234 wd_14 wd_235) rfl rfl rfl (by decide +kernel) ⟨Nat.le_of_ble_eq_true rfl, Nat.le_of_ble_eq_true rfl⟩) ⟨hpre.1, (va_recv hK (rl_P.l (rl_P.l hP)) (ci := 0) (q0 := 0) rfl rfl), hpre.2⟩ rfl rfl hl.1 rfl (lv_room (Nat.le_of_ble_eq_true rfl)) d_w_law_294 ⟨lw_c hc (by decide), lw_s hs (by decide)⟩) (fun r1 F3 H locs h2 hP hD hS => ?_)
  obtain ⟨hRF3, h2⟩ := h2
  have hP : va_P D rl_cl ((rl_w a kI kZ F3 ++ rl_O kL q g) ++ rm_w a2 kI kZ G) H := hP
  have hD : va_D (fun q : Nat => s.heap.size ≤ q) ((rl_w a kI kZ F3 ++ rl_O kL q g) ++ rm_w a2 kI kZ G) := hD
  refine lv_aload_n hx hb d_w_law_297 rfl (lv_at hl 2 rfl) ?_
  refine lv_aload_n hx hb d_w_law_298 rfl (lv_at hl 4 rfl) ?_
  refine lv_iload hx hb d_w_law_299 (lv_at hl 0 rfl) ?_
  refine lv_iconst (v := 1) hx hb d_w_law_301 (by decide) ?_
  refine lv_iadd hx hb d_w_law_302 ?_
  refine va_sld hx hb hX hbl hbA hS (rl_in (n := L) (by omega) (by omega)) d_w_law_303 ?_
  rw [← ey1]
  refine lv_aload_n hx hb d_w_law_304 rfl (lv_at hl 4 rfl) ?_
  refine lv_iload hx hb d_w_law_305 (lv_at hl 0 rfl) ?_
  refine lv_iconst (v := 2) hx hb d_w_law_307 (by decide) ?_
  refine lv_iadd hx hb d_w_law_308 ?_
  refine va_sld hx hb hX hbl hbA hS (rl_in (n := L) (by omega) (by omega)) d_w_law_309 ?_
  rw [← ey2]
  refine lv_aload_n hx hb d_w_law_310 rfl (lv_at hl 4 rfl) ?_
  refine lv_iload hx hb d_w_law_311 (lv_at hl 0 rfl) ?_
  refine lv_iconst (v := 3) hx hb d_w_law_313 (by decide) ?_
  refine lv_iadd hx hb d_w_law_314 ?_
  refine va_sld hx hb hX hbl hbA hS (rl_in (n := L) (by omega) (by omega)) d_w_law_315 ?_
  rw [← ey3]
  refine lv_aload_n hx hb d_w_law_316 rfl (lv_at hl 4 rfl) ?_
  refine lv_iload hx hb d_w_law_317 (lv_at hl 0 rfl) ?_
  refine lv_iconst (v := 4) hx hb d_w_law_319 (by decide) ?_
  refine lv_iadd hx hb d_w_law_320 ?_
  refine va_sld hx hb hX hbl hbA hS (rl_in (n := L) (by omega) (by omega)) d_w_law_321 ?_
  rw [← ey4]
  refine lv_aload_n hx hb d_w_law_322 rfl (lv_at hl 4 rfl) ?_
  refine lv_iload hx hb d_w_law_323 (lv_at hl 0 rfl) ?_
  refine lv_iconst (v := 5) hx hb d_w_law_325 (by decide) ?_
  refine lv_iadd hx hb d_w_law_326 ?_
  refine va_sld hx hb hX hbl hbA hS (rl_in (n := L) (by omega) (by omega)) d_w_law_327 ?_
  rw [← ey5]
  have hpre := rl_B.pre (av := .ref (a2 0) :: [.int y1, .int y2, .int y3, .int y4, .int y5]) rl_nw0 (rl_P.r hP) hK2 (rl_D.r hD) rl_N0
  refine rl_calliR hP hD hS hA (va_runV (As := [.int y1, .int y2, .int y3, .int y4, .int y5]) (rest := [.int r1]) ⟨hx, hb, hml, hown, hG⟩ (k_m_licence l D a2 kI kZ G y1 y2 y3 y4 y5 ⟨by omega, hJR⟩ _) (cwV 5 hG (rl_gV wd_602 wd_603 wd_604 wd_19 wd_605) rfl rfl rfl (by decide +kernel) ⟨Nat.le_of_ble_eq_true rfl, Nat.le_of_ble_eq_true rfl⟩) ⟨hpre.1, (va_recv hK (rl_P.r hP) (ci := 5) (q0 := 0) rfl rfl), hpre.2⟩ rfl rfl hl.1 rfl (lv_room (Nat.le_of_ble_eq_true rfl)) d_w_law_328 ⟨lw_c hc (by decide), lw_s hs (by decide)⟩) (fun r4 F6 H locs h5 hP hD hS => ?_)
  obtain ⟨hRF6, h5⟩ := h5
  have hP : va_P D rl_cl ((rl_w a kI kZ F3 ++ rl_O kL q g) ++ rm_w a2 kI kZ F6) H := hP
  have hD : va_D (fun q : Nat => s.heap.size ≤ q) ((rl_w a kI kZ F3 ++ rl_O kL q g) ++ rm_w a2 kI kZ F6) := hD
  refine lv_icmp_eq (tgt := 875) hx hb d_w_law_331 (by decide) (fun _ => ?_) (fun c9 => absurd (Int32.toInt_inj.mp (by omega)) c9)
  refine W.widen (k := c0 + 1) (n := s0 + 6) (by omega) (by omega) ?_
  exact kk F3 F6 g _ _ _ ⟨⟨by omega, hRF3⟩, ⟨by omega, hRF6⟩, ⟨by omega, by omega, by omega⟩, hP, hD, hS, lv_sub hl [0, 1, 2, 3, 4] rfl⟩
set_option maxHeartbeats 4000000 in
set_option maxRecDepth 100000 in
theorem law_4 {p : Program} {l : Launch} {e : Env} {s : State} {m : MethodId} {below : List Frame} {meth : Method} {c : Code} {b L : Nat} {xs : Nat → Int32} {D : va_G} {a a2 : Nat → Nat} {kI kZ kL : ClassId} {q : Nat} {i : Int32} {F G : Nat → Nat → Int32} {g : Nat → Int64} {H : Heap} {locs : List Loc} {ls : Array Slot} {c0 s0 : Nat} (B0 : lw_B p l s m meth c b L xs D kI kZ kL) (hi0 : 0 ≤ i.toInt) (hi6 : i.toInt + 6 ≤ L) (hc : c0 + 1 ≤ 1087) (hs : s0 + 6 ≤ 18181) (J : lw_J s b D a a2 kI kZ kL q i F G g H locs ls) (kk : lw_K p l e s m below meth c b D a a2 kI kZ kL q i (c0 + 1) (s0 + 6)) : W p l e room_1 s m #[Value.ref b] below meth c H locs c0 s0 (lw_Z below #[Value.ref b] s) (F0 m 336 ls []) := by
  obtain ⟨hx, hb, hr, hml, hown, hG, hlocks, hX, hbl, hK, hZ, hC, hN, hlt, hL⟩ := B0
  obtain ⟨⟨hIc, hIR⟩, ⟨hJc, hJR⟩, ⟨hE0, hE1, hE2⟩, hP, hD, hS, hl⟩ := J
  have hA : ∀ q : Nat, s.heap.size ≤ q → (fun q : Nat => s.heap.size ≤ q) q := fun _ h => h
  have hbA : ¬ (fun q : Nat => s.heap.size ≤ q) b := Nat.not_le.mpr hbl
  have hK2 := hK.sub (tys' := rl_tys kI kZ) [0, 1] rfl
  have hi11 : (i + 1).toInt = i.toInt + 1 := rl_addk (by decide) (by omega) (by omega)
  have hi12 : (i + 2).toInt = i.toInt + 2 := rl_addk (by decide) (by omega) (by omega)
  have hi13 : (i + 3).toInt = i.toInt + 3 := rl_addk (by decide) (by omega) (by omega)
  have hi14 : (i + 4).toInt = i.toInt + 4 := rl_addk (by decide) (by omega) (by omega)
  have hi15 : (i + 5).toInt = i.toInt + 5 := rl_addk (by decide) (by omega) (by omega)
  obtain ⟨y1, ey1⟩ : ∃ y, y = xs (i + 1).toNatClampNeg := ⟨_, rfl⟩
  obtain ⟨y2, ey2⟩ : ∃ y, y = xs (i + 2).toNatClampNeg := ⟨_, rfl⟩
  obtain ⟨y3, ey3⟩ : ∃ y, y = xs (i + 3).toNatClampNeg := ⟨_, rfl⟩
  obtain ⟨y4, ey4⟩ : ∃ y, y = xs (i + 4).toNatClampNeg := ⟨_, rfl⟩
  obtain ⟨y5, ey5⟩ : ∃ y, y = xs (i + 5).toNatClampNeg := ⟨_, rfl⟩
  refine lv_aload_n hx hb d_w_law_336 rfl (lv_at hl 3 rfl) ?_
  refine lv_aload_n hx hb d_w_law_337 rfl (lv_at hl 4 rfl) ?_
  refine lv_iload hx hb d_w_law_338 (lv_at hl 0 rfl) ?_
  refine lv_iconst (v := 1) hx hb d_w_law_340 (by decide) ?_
  refine lv_iadd hx hb d_w_law_341 ?_
  refine va_sld hx hb hX hbl hbA hS (rl_in (n := L) (by omega) (by omega)) d_w_law_342 ?_
  rw [← ey1]
  refine lv_aload_n hx hb d_w_law_343 rfl (lv_at hl 4 rfl) ?_
  refine lv_iload hx hb d_w_law_344 (lv_at hl 0 rfl) ?_
  refine lv_iconst (v := 2) hx hb d_w_law_346 (by decide) ?_
  refine lv_iadd hx hb d_w_law_347 ?_
  refine va_sld hx hb hX hbl hbA hS (rl_in (n := L) (by omega) (by omega)) d_w_law_348 ?_
  rw [← ey2]
  have hpre := rl_B.pre (av := .ref (a 0) :: [.int y1, .int y2]) rl_nw_ok (rl_P.l (rl_P.l hP)) hK2 (rl_D.l (rl_D.l hD)) hN
  refine rl_calliL hP hD hS hA (va_runV (As := [.int y1, .int y2]) (rest := []) ⟨hx, hb, hml, hown, hG⟩ (k_x_fee l D a kI kZ F y1 y2 ⟨by omega, hIR⟩ _) (cwV 2 hG (rl_gV wd_244 wd_245 wd_246 wd_14 wd_247) rfl rfl rfl (by decide +kernel) ⟨Nat.le_of_ble_eq_true rfl, Nat.le_of_ble_eq_true rfl⟩) ⟨hpre.1, (va_recv hK (rl_P.l (rl_P.l hP)) (ci := 0) (q0 := 0) rfl rfl), hpre.2⟩ rfl rfl hl.1 rfl (lv_room (Nat.le_of_ble_eq_true rfl)) d_w_law_349 ⟨lw_c hc (by decide), lw_s hs (by decide)⟩) (fun r1 F3 H locs h2 hP hD hS => ?_)
  obtain ⟨hRF3, h2⟩ := h2
  have hP : va_P D rl_cl ((rl_w a kI kZ F3 ++ rl_O kL q g) ++ rm_w a2 kI kZ G) H := hP
  have hD : va_D (fun q : Nat => s.heap.size ≤ q) ((rl_w a kI kZ F3 ++ rl_O kL q g) ++ rm_w a2 kI kZ G) := hD
  refine lv_pop hx hb d_w_law_352 rfl ?_
  refine lv_aload_n hx hb d_w_law_353 rfl (lv_at hl 2 rfl) ?_
  refine lv_aload_n hx hb d_w_law_354 rfl (lv_at hl 4 rfl) ?_
  refine lv_iload hx hb d_w_law_355 (lv_at hl 0 rfl) ?_
  refine lv_iconst (v := 1) hx hb d_w_law_357 (by decide) ?_
  refine lv_iadd hx hb d_w_law_358 ?_
  refine va_sld hx hb hX hbl hbA hS (rl_in (n := L) (by omega) (by omega)) d_w_law_359 ?_
  rw [← ey1]
  refine lv_aload_n hx hb d_w_law_360 rfl (lv_at hl 4 rfl) ?_
  refine lv_iload hx hb d_w_law_361 (lv_at hl 0 rfl) ?_
  refine lv_iconst (v := 2) hx hb d_w_law_363 (by decide) ?_
  refine lv_iadd hx hb d_w_law_364 ?_
  refine va_sld hx hb hX hbl hbA hS (rl_in (n := L) (by omega) (by omega)) d_w_law_365 ?_
  rw [← ey2]
  have hpre := rl_B.pre (av := .ref (a2 0) :: [.int y1, .int y2]) rl_nw0 (rl_P.r hP) hK2 (rl_D.r hD) rl_N0
  refine rl_calliR hP hD hS hA (va_runV (As := [.int y1, .int y2]) (rest := []) ⟨hx, hb, hml, hown, hG⟩ (k_m_fee l D a2 kI kZ G y1 y2 ⟨by omega, hJR⟩ _) (cwV 2 hG (rl_gV wd_607 wd_608 wd_609 wd_19 wd_610) rfl rfl rfl (by decide +kernel) ⟨Nat.le_of_ble_eq_true rfl, Nat.le_of_ble_eq_true rfl⟩) ⟨hpre.1, (va_recv hK (rl_P.r hP) (ci := 5) (q0 := 0) rfl rfl), hpre.2⟩ rfl rfl hl.1 rfl (lv_room (Nat.le_of_ble_eq_true rfl)) d_w_law_366 ⟨lw_c hc (by decide), lw_s hs (by decide)⟩) (fun r4 F6 H locs h5 hP hD hS => ?_)
  obtain ⟨hRF6, h5⟩ := h5
  have hP : va_P D rl_cl ((rl_w a kI kZ F3 ++ rl_O kL q g) ++ rm_w a2 kI kZ F6) H := hP
  have hD : va_D (fun q : Nat => s.heap.size ≤ q) ((rl_w a kI kZ F3 ++ rl_O kL q g) ++ rm_w a2 kI kZ F6) := hD
  refine lv_pop hx hb d_w_law_369 rfl ?_
  refine lv_goto (tgt := 875) hx hb d_w_law_370 (by decide) ?_
  refine W.widen (k := c0 + 1) (n := s0 + 6) (by omega) (by omega) ?_
  exact kk F3 F6 g _ _ _ ⟨⟨by omega, hRF3⟩, ⟨by omega, hRF6⟩, ⟨by omega, by omega, by omega⟩, hP, hD, hS, lv_sub hl [0, 1, 2, 3, 4] rfl⟩
set_option maxHeartbeats 4000000 in
set_option maxRecDepth 100000 in
theorem law_5 {p : Program} {l : Launch} {e : Env} {s : State} {m : MethodId} {below : List Frame} {meth : Method} {c : Code} {b L : Nat} {xs : Nat → Int32} {D : va_G} {a a2 : Nat → Nat} {kI kZ kL : ClassId} {q : Nat} {i : Int32} {F G : Nat → Nat → Int32} {g : Nat → Int64} {H : Heap} {locs : List Loc} {ls : Array Slot} {c0 s0 : Nat} (B0 : lw_B p l s m meth c b L xs D kI kZ kL) (hi0 : 0 ≤ i.toInt) (hi6 : i.toInt + 6 ≤ L) (hc : c0 + 1 ≤ 1087) (hs : s0 + 6 ≤ 18181) (J : lw_J s b D a a2 kI kZ kL q i F G g H locs ls) (kk : lw_K p l e s m below meth c b D a a2 kI kZ kL q i (c0 + 1) (s0 + 6)) : W p l e room_1 s m #[Value.ref b] below meth c H locs c0 s0 (lw_Z below #[Value.ref b] s) (F0 m 373 ls []) := by
  obtain ⟨hx, hb, hr, hml, hown, hG, hlocks, hX, hbl, hK, hZ, hC, hN, hlt, hL⟩ := B0
  obtain ⟨⟨hIc, hIR⟩, ⟨hJc, hJR⟩, ⟨hE0, hE1, hE2⟩, hP, hD, hS, hl⟩ := J
  have hA : ∀ q : Nat, s.heap.size ≤ q → (fun q : Nat => s.heap.size ≤ q) q := fun _ h => h
  have hbA : ¬ (fun q : Nat => s.heap.size ≤ q) b := Nat.not_le.mpr hbl
  have hK2 := hK.sub (tys' := rl_tys kI kZ) [0, 1] rfl
  have hi11 : (i + 1).toInt = i.toInt + 1 := rl_addk (by decide) (by omega) (by omega)
  have hi12 : (i + 2).toInt = i.toInt + 2 := rl_addk (by decide) (by omega) (by omega)
  have hi13 : (i + 3).toInt = i.toInt + 3 := rl_addk (by decide) (by omega) (by omega)
  have hi14 : (i + 4).toInt = i.toInt + 4 := rl_addk (by decide) (by omega) (by omega)
  have hi15 : (i + 5).toInt = i.toInt + 5 := rl_addk (by decide) (by omega) (by omega)
  obtain ⟨y1, ey1⟩ : ∃ y, y = xs (i + 1).toNatClampNeg := ⟨_, rfl⟩
  obtain ⟨y2, ey2⟩ : ∃ y, y = xs (i + 2).toNatClampNeg := ⟨_, rfl⟩
  obtain ⟨y3, ey3⟩ : ∃ y, y = xs (i + 3).toNatClampNeg := ⟨_, rfl⟩
  obtain ⟨y4, ey4⟩ : ∃ y, y = xs (i + 4).toNatClampNeg := ⟨_, rfl⟩
  obtain ⟨y5, ey5⟩ : ∃ y, y = xs (i + 5).toNatClampNeg := ⟨_, rfl⟩
  refine lv_aload_n hx hb d_w_law_373 rfl (lv_at hl 3 rfl) ?_
  refine lv_aload_n hx hb d_w_law_374 rfl (lv_at hl 4 rfl) ?_
  refine lv_iload hx hb d_w_law_375 (lv_at hl 0 rfl) ?_
  refine lv_iconst (v := 1) hx hb d_w_law_377 (by decide) ?_
  refine lv_iadd hx hb d_w_law_378 ?_
  refine va_sld hx hb hX hbl hbA hS (rl_in (n := L) (by omega) (by omega)) d_w_law_379 ?_
  rw [← ey1]
  refine lv_aload_n hx hb d_w_law_380 rfl (lv_at hl 4 rfl) ?_
  refine lv_iload hx hb d_w_law_381 (lv_at hl 0 rfl) ?_
  refine lv_iconst (v := 2) hx hb d_w_law_383 (by decide) ?_
  refine lv_iadd hx hb d_w_law_384 ?_
  refine va_sld hx hb hX hbl hbA hS (rl_in (n := L) (by omega) (by omega)) d_w_law_385 ?_
  rw [← ey2]
  refine lv_aload_n hx hb d_w_law_386 rfl (lv_at hl 4 rfl) ?_
  refine lv_iload hx hb d_w_law_387 (lv_at hl 0 rfl) ?_
  refine lv_iconst (v := 3) hx hb d_w_law_389 (by decide) ?_
  refine lv_iadd hx hb d_w_law_390 ?_
  refine va_sld hx hb hX hbl hbA hS (rl_in (n := L) (by omega) (by omega)) d_w_law_391 ?_
  rw [← ey3]
  refine lv_aload_n hx hb d_w_law_392 rfl (lv_at hl 4 rfl) ?_
  refine lv_iload hx hb d_w_law_393 (lv_at hl 0 rfl) ?_
  refine lv_iconst (v := 4) hx hb d_w_law_395 (by decide) ?_
  refine lv_iadd hx hb d_w_law_396 ?_
  refine va_sld hx hb hX hbl hbA hS (rl_in (n := L) (by omega) (by omega)) d_w_law_397 ?_
  rw [← ey4]
  refine lv_aload_n hx hb d_w_law_398 rfl (lv_at hl 4 rfl) ?_
  refine lv_iload hx hb d_w_law_399 (lv_at hl 0 rfl) ?_
  refine lv_iconst (v := 5) hx hb d_w_law_401 (by decide) ?_
  refine lv_iadd hx hb d_w_law_402 ?_
  refine va_sld hx hb hX hbl hbA hS (rl_in (n := L) (by omega) (by omega)) d_w_law_403 ?_
  rw [← ey5]
  have hpre := rl_B.pre (av := .ref (a 0) :: [.int y1, .int y2, .int y3, .int y4, .int y5]) rl_nw_ok (rl_P.l (rl_P.l hP)) hK2 (rl_D.l (rl_D.l hD)) hN
  refine rl_calliL hP hD hS hA (va_runV (As := [.int y1, .int y2, .int y3, .int y4, .int y5]) (rest := []) ⟨hx, hb, hml, hown, hG⟩ (k_x_ask l D a kI kZ F y1 y2 y3 y4 y5 ⟨by omega, hIR⟩ _) (cwV 5 hG (rl_gV wd_248 wd_249 wd_250 wd_14 wd_251) rfl rfl rfl (by decide +kernel) ⟨Nat.le_of_ble_eq_true rfl, Nat.le_of_ble_eq_true rfl⟩) ⟨hpre.1, (va_recv hK (rl_P.l (rl_P.l hP)) (ci := 0) (q0 := 0) rfl rfl), hpre.2⟩ rfl rfl hl.1 rfl (lv_room (Nat.le_of_ble_eq_true rfl)) d_w_law_404 ⟨lw_c hc (by decide), lw_s hs (by decide)⟩) (fun r1 F3 H locs h2 hP hD hS => ?_)
  obtain ⟨hRF3, h2⟩ := h2
  have hP : va_P D rl_cl ((rl_w a kI kZ F3 ++ rl_O kL q g) ++ rm_w a2 kI kZ G) H := hP
  have hD : va_D (fun q : Nat => s.heap.size ≤ q) ((rl_w a kI kZ F3 ++ rl_O kL q g) ++ rm_w a2 kI kZ G) := hD
  refine lv_pop hx hb d_w_law_407 rfl ?_
  refine lv_aload_n hx hb d_w_law_408 rfl (lv_at hl 2 rfl) ?_
  refine lv_aload_n hx hb d_w_law_409 rfl (lv_at hl 4 rfl) ?_
  refine lv_iload hx hb d_w_law_410 (lv_at hl 0 rfl) ?_
  refine lv_iconst (v := 1) hx hb d_w_law_412 (by decide) ?_
  refine lv_iadd hx hb d_w_law_413 ?_
  refine va_sld hx hb hX hbl hbA hS (rl_in (n := L) (by omega) (by omega)) d_w_law_414 ?_
  rw [← ey1]
  refine lv_aload_n hx hb d_w_law_415 rfl (lv_at hl 4 rfl) ?_
  refine lv_iload hx hb d_w_law_416 (lv_at hl 0 rfl) ?_
  refine lv_iconst (v := 2) hx hb d_w_law_418 (by decide) ?_
  refine lv_iadd hx hb d_w_law_419 ?_
  refine va_sld hx hb hX hbl hbA hS (rl_in (n := L) (by omega) (by omega)) d_w_law_420 ?_
  rw [← ey2]
  refine lv_aload_n hx hb d_w_law_421 rfl (lv_at hl 4 rfl) ?_
  refine lv_iload hx hb d_w_law_422 (lv_at hl 0 rfl) ?_
  refine lv_iconst (v := 3) hx hb d_w_law_424 (by decide) ?_
  refine lv_iadd hx hb d_w_law_425 ?_
  refine va_sld hx hb hX hbl hbA hS (rl_in (n := L) (by omega) (by omega)) d_w_law_426 ?_
  rw [← ey3]
  refine lv_aload_n hx hb d_w_law_427 rfl (lv_at hl 4 rfl) ?_
  refine lv_iload hx hb d_w_law_428 (lv_at hl 0 rfl) ?_
  refine lv_iconst (v := 4) hx hb d_w_law_430 (by decide) ?_
  refine lv_iadd hx hb d_w_law_431 ?_
  refine va_sld hx hb hX hbl hbA hS (rl_in (n := L) (by omega) (by omega)) d_w_law_432 ?_
  rw [← ey4]
  refine lv_aload_n hx hb d_w_law_433 rfl (lv_at hl 4 rfl) ?_
  refine lv_iload hx hb d_w_law_434 (lv_at hl 0 rfl) ?_
  refine lv_iconst (v := 5) hx hb d_w_law_436 (by decide) ?_
  refine lv_iadd hx hb d_w_law_437 ?_
  refine va_sld hx hb hX hbl hbA hS (rl_in (n := L) (by omega) (by omega)) d_w_law_438 ?_
  rw [← ey5]
  have hpre := rl_B.pre (av := .ref (a2 0) :: [.int y1, .int y2, .int y3, .int y4, .int y5]) rl_nw0 (rl_P.r hP) hK2 (rl_D.r hD) rl_N0
  refine rl_calliR hP hD hS hA (va_runV (As := [.int y1, .int y2, .int y3, .int y4, .int y5]) (rest := []) ⟨hx, hb, hml, hown, hG⟩ (k_m_ask l D a2 kI kZ G y1 y2 y3 y4 y5 ⟨by omega, hJR⟩ _) (cwV 5 hG (rl_gV wd_611 wd_612 wd_613 wd_19 wd_614) rfl rfl rfl (by decide +kernel) ⟨Nat.le_of_ble_eq_true rfl, Nat.le_of_ble_eq_true rfl⟩) ⟨hpre.1, (va_recv hK (rl_P.r hP) (ci := 5) (q0 := 0) rfl rfl), hpre.2⟩ rfl rfl hl.1 rfl (lv_room (Nat.le_of_ble_eq_true rfl)) d_w_law_439 ⟨lw_c hc (by decide), lw_s hs (by decide)⟩) (fun r4 F6 H locs h5 hP hD hS => ?_)
  obtain ⟨hRF6, h5⟩ := h5
  have hP : va_P D rl_cl ((rl_w a kI kZ F3 ++ rl_O kL q g) ++ rm_w a2 kI kZ F6) H := hP
  have hD : va_D (fun q : Nat => s.heap.size ≤ q) ((rl_w a kI kZ F3 ++ rl_O kL q g) ++ rm_w a2 kI kZ F6) := hD
  refine lv_pop hx hb d_w_law_442 rfl ?_
  refine lv_goto (tgt := 875) hx hb d_w_law_443 (by decide) ?_
  refine W.widen (k := c0 + 1) (n := s0 + 6) (by omega) (by omega) ?_
  exact kk F3 F6 g _ _ _ ⟨⟨by omega, hRF3⟩, ⟨by omega, hRF6⟩, ⟨by omega, by omega, by omega⟩, hP, hD, hS, lv_sub hl [0, 1, 2, 3, 4] rfl⟩
set_option maxHeartbeats 4000000 in
set_option maxRecDepth 100000 in
theorem law_6 {p : Program} {l : Launch} {e : Env} {s : State} {m : MethodId} {below : List Frame} {meth : Method} {c : Code} {b L : Nat} {xs : Nat → Int32} {D : va_G} {a a2 : Nat → Nat} {kI kZ kL : ClassId} {q : Nat} {i : Int32} {F G : Nat → Nat → Int32} {g : Nat → Int64} {H : Heap} {locs : List Loc} {ls : Array Slot} {c0 s0 : Nat} (B0 : lw_B p l s m meth c b L xs D kI kZ kL) (hi0 : 0 ≤ i.toInt) (hi6 : i.toInt + 6 ≤ L) (hc : c0 + 1 ≤ 1087) (hs : s0 + 6 ≤ 18181) (J : lw_J s b D a a2 kI kZ kL q i F G g H locs ls) (kk : lw_K p l e s m below meth c b D a a2 kI kZ kL q i (c0 + 1) (s0 + 6)) : W p l e room_1 s m #[Value.ref b] below meth c H locs c0 s0 (lw_Z below #[Value.ref b] s) (F0 m 446 ls []) := by
  obtain ⟨hx, hb, hr, hml, hown, hG, hlocks, hX, hbl, hK, hZ, hC, hN, hlt, hL⟩ := B0
  obtain ⟨⟨hIc, hIR⟩, ⟨hJc, hJR⟩, ⟨hE0, hE1, hE2⟩, hP, hD, hS, hl⟩ := J
  have hA : ∀ q : Nat, s.heap.size ≤ q → (fun q : Nat => s.heap.size ≤ q) q := fun _ h => h
  have hbA : ¬ (fun q : Nat => s.heap.size ≤ q) b := Nat.not_le.mpr hbl
  have hK2 := hK.sub (tys' := rl_tys kI kZ) [0, 1] rfl
  have hi11 : (i + 1).toInt = i.toInt + 1 := rl_addk (by decide) (by omega) (by omega)
  have hi12 : (i + 2).toInt = i.toInt + 2 := rl_addk (by decide) (by omega) (by omega)
  have hi13 : (i + 3).toInt = i.toInt + 3 := rl_addk (by decide) (by omega) (by omega)
  have hi14 : (i + 4).toInt = i.toInt + 4 := rl_addk (by decide) (by omega) (by omega)
  have hi15 : (i + 5).toInt = i.toInt + 5 := rl_addk (by decide) (by omega) (by omega)
  obtain ⟨y1, ey1⟩ : ∃ y, y = xs (i + 1).toNatClampNeg := ⟨_, rfl⟩
  obtain ⟨y2, ey2⟩ : ∃ y, y = xs (i + 2).toNatClampNeg := ⟨_, rfl⟩
  obtain ⟨y3, ey3⟩ : ∃ y, y = xs (i + 3).toNatClampNeg := ⟨_, rfl⟩
  obtain ⟨y4, ey4⟩ : ∃ y, y = xs (i + 4).toNatClampNeg := ⟨_, rfl⟩
  obtain ⟨y5, ey5⟩ : ∃ y, y = xs (i + 5).toNatClampNeg := ⟨_, rfl⟩
  refine lv_aload_n hx hb d_w_law_446 rfl (lv_at hl 3 rfl) ?_
  have hpre := rl_BR.pre (av := .ref (a 0) :: []) rl_nw_ok (rl_P.l (rl_P.l hP)) hK2 hN
  refine rl_callr hS (va_runV (As := []) (rest := []) ⟨hx, hb, hml, hown, hG⟩ (k_x_why l D a kI kZ F ⟨by omega, hIR⟩ _) (cwV 0 hG (rl_gV wd_307 wd_308 wd_309 wd_14 wd_310) rfl rfl rfl (by decide +kernel) ⟨Nat.le_of_ble_eq_true rfl, Nat.le_of_ble_eq_true rfl⟩) ⟨hpre.1, (va_recv hK (rl_P.l (rl_P.l hP)) (ci := 0) (q0 := 0) rfl rfl), hpre.2⟩ rfl rfl hl.1 rfl (lv_room (Nat.le_of_ble_eq_true rfl)) d_w_law_447 ⟨lw_c hc (by decide), lw_s hs (by decide)⟩) (fun r1 locs h2 hS => ?_)
  refine lv_pop hx hb d_w_law_450 rfl ?_
  refine lv_aload_n hx hb d_w_law_451 rfl (lv_at hl 2 rfl) ?_
  have hpre := rl_B.pre (av := .ref (a2 0) :: []) rl_nw0 (rl_P.r hP) hK2 (rl_D.r hD) rl_N0
  refine rl_calliR hP hD hS hA (va_runV (As := []) (rest := []) ⟨hx, hb, hml, hown, hG⟩ (k_m_why l D a2 kI kZ G ⟨by omega, hJR⟩ _) (cwV 0 hG (rl_gV wd_637 wd_638 wd_639 wd_19 wd_640) rfl rfl rfl (by decide +kernel) ⟨Nat.le_of_ble_eq_true rfl, Nat.le_of_ble_eq_true rfl⟩) ⟨hpre.1, (va_recv hK (rl_P.r hP) (ci := 5) (q0 := 0) rfl rfl), hpre.2⟩ rfl rfl hl.1 rfl (lv_room (Nat.le_of_ble_eq_true rfl)) d_w_law_452 ⟨lw_c hc (by decide), lw_s hs (by decide)⟩) (fun r3 F5 H locs h4 hP hD hS => ?_)
  obtain ⟨hRF5, h4⟩ := h4
  have hP : va_P D rl_cl ((rl_w a kI kZ F ++ rl_O kL q g) ++ rm_w a2 kI kZ F5) H := hP
  have hD : va_D (fun q : Nat => s.heap.size ≤ q) ((rl_w a kI kZ F ++ rl_O kL q g) ++ rm_w a2 kI kZ F5) := hD
  refine lv_pop hx hb d_w_law_455 rfl ?_
  refine lv_goto (tgt := 875) hx hb d_w_law_456 (by decide) ?_
  refine W.widen (k := c0 + 1) (n := s0 + 6) (by omega) (by omega) ?_
  exact kk F F5 g _ _ _ ⟨⟨by omega, hIR⟩, ⟨by omega, hRF5⟩, ⟨by omega, by omega, by omega⟩, hP, hD, hS, lv_sub hl [0, 1, 2, 3, 4] rfl⟩
set_option maxHeartbeats 4000000 in
set_option maxRecDepth 100000 in
theorem law_7 {p : Program} {l : Launch} {e : Env} {s : State} {m : MethodId} {below : List Frame} {meth : Method} {c : Code} {b L : Nat} {xs : Nat → Int32} {D : va_G} {a a2 : Nat → Nat} {kI kZ kL : ClassId} {q : Nat} {i : Int32} {F G : Nat → Nat → Int32} {g : Nat → Int64} {H : Heap} {locs : List Loc} {ls : Array Slot} {c0 s0 : Nat} (B0 : lw_B p l s m meth c b L xs D kI kZ kL) (hi0 : 0 ≤ i.toInt) (hi6 : i.toInt + 6 ≤ L) (hc : c0 + 1 ≤ 1087) (hs : s0 + 6 ≤ 18181) (J : lw_J s b D a a2 kI kZ kL q i F G g H locs ls) (kk : lw_K p l e s m below meth c b D a a2 kI kZ kL q i (c0 + 1) (s0 + 6)) : W p l e room_1 s m #[Value.ref b] below meth c H locs c0 s0 (lw_Z below #[Value.ref b] s) (F0 m 459 ls []) := by
  obtain ⟨hx, hb, hr, hml, hown, hG, hlocks, hX, hbl, hK, hZ, hC, hN, hlt, hL⟩ := B0
  obtain ⟨⟨hIc, hIR⟩, ⟨hJc, hJR⟩, ⟨hE0, hE1, hE2⟩, hP, hD, hS, hl⟩ := J
  have hA : ∀ q : Nat, s.heap.size ≤ q → (fun q : Nat => s.heap.size ≤ q) q := fun _ h => h
  have hbA : ¬ (fun q : Nat => s.heap.size ≤ q) b := Nat.not_le.mpr hbl
  have hK2 := hK.sub (tys' := rl_tys kI kZ) [0, 1] rfl
  have hi11 : (i + 1).toInt = i.toInt + 1 := rl_addk (by decide) (by omega) (by omega)
  have hi12 : (i + 2).toInt = i.toInt + 2 := rl_addk (by decide) (by omega) (by omega)
  have hi13 : (i + 3).toInt = i.toInt + 3 := rl_addk (by decide) (by omega) (by omega)
  have hi14 : (i + 4).toInt = i.toInt + 4 := rl_addk (by decide) (by omega) (by omega)
  have hi15 : (i + 5).toInt = i.toInt + 5 := rl_addk (by decide) (by omega) (by omega)
  obtain ⟨y1, ey1⟩ : ∃ y, y = xs (i + 1).toNatClampNeg := ⟨_, rfl⟩
  obtain ⟨y2, ey2⟩ : ∃ y, y = xs (i + 2).toNatClampNeg := ⟨_, rfl⟩
  obtain ⟨y3, ey3⟩ : ∃ y, y = xs (i + 3).toNatClampNeg := ⟨_, rfl⟩
  obtain ⟨y4, ey4⟩ : ∃ y, y = xs (i + 4).toNatClampNeg := ⟨_, rfl⟩
  obtain ⟨y5, ey5⟩ : ∃ y, y = xs (i + 5).toNatClampNeg := ⟨_, rfl⟩
  refine lv_aload_n hx hb d_w_law_459 rfl (lv_at hl 3 rfl) ?_
  refine lv_aload_n hx hb d_w_law_460 rfl (lv_at hl 4 rfl) ?_
  refine lv_iload hx hb d_w_law_461 (lv_at hl 0 rfl) ?_
  refine lv_iconst (v := 1) hx hb d_w_law_463 (by decide) ?_
  refine lv_iadd hx hb d_w_law_464 ?_
  refine va_sld hx hb hX hbl hbA hS (rl_in (n := L) (by omega) (by omega)) d_w_law_465 ?_
  rw [← ey1]
  refine lv_aload_n hx hb d_w_law_466 rfl (lv_at hl 4 rfl) ?_
  refine lv_iload hx hb d_w_law_467 (lv_at hl 0 rfl) ?_
  refine lv_iconst (v := 2) hx hb d_w_law_469 (by decide) ?_
  refine lv_iadd hx hb d_w_law_470 ?_
  refine va_sld hx hb hX hbl hbA hS (rl_in (n := L) (by omega) (by omega)) d_w_law_471 ?_
  rw [← ey2]
  refine lv_aload_n hx hb d_w_law_472 rfl (lv_at hl 4 rfl) ?_
  refine lv_iload hx hb d_w_law_473 (lv_at hl 0 rfl) ?_
  refine lv_iconst (v := 3) hx hb d_w_law_475 (by decide) ?_
  refine lv_iadd hx hb d_w_law_476 ?_
  refine va_sld hx hb hX hbl hbA hS (rl_in (n := L) (by omega) (by omega)) d_w_law_477 ?_
  rw [← ey3]
  refine lv_if_eq (tgt := 485) hx hb d_w_law_478 (by decide) (fun _ => ?_) (fun _ => ?_)
  · refine lv_iconst (v := 0) hx hb d_w_law_485 (by decide) ?_
    have hpre := rl_B.pre (av := .ref (a 0) :: [.int y1, .int y2, .int 0]) rl_nw_ok (rl_P.l (rl_P.l hP)) hK2 (rl_D.l (rl_D.l hD)) hN
    refine rl_calliL hP hD hS hA (va_runV (As := [.int y1, .int y2, .int 0]) (rest := []) ⟨hx, hb, hml, hown, hG⟩ (k_x_give l D a kI kZ F y1 y2 0 ⟨by omega, hIR⟩ _) (cwV 3 hG (rl_gV wd_311 wd_312 wd_313 wd_14 wd_314) rfl rfl rfl (by decide +kernel) ⟨Nat.le_of_ble_eq_true rfl, Nat.le_of_ble_eq_true rfl⟩) ⟨hpre.1, (va_recv hK (rl_P.l (rl_P.l hP)) (ci := 0) (q0 := 0) rfl rfl), hpre.2⟩ rfl rfl hl.1 rfl (lv_room (Nat.le_of_ble_eq_true rfl)) d_w_law_486 ⟨lw_c hc (by decide), lw_s hs (by decide)⟩) (fun r1 F3 H locs h2 hP hD hS => ?_)
    obtain ⟨hRF3, h2⟩ := h2
    have hP : va_P D rl_cl ((rl_w a kI kZ F3 ++ rl_O kL q g) ++ rm_w a2 kI kZ G) H := hP
    have hD : va_D (fun q : Nat => s.heap.size ≤ q) ((rl_w a kI kZ F3 ++ rl_O kL q g) ++ rm_w a2 kI kZ G) := hD
    refine lv_pop hx hb d_w_law_489 rfl ?_
    refine lv_aload_n hx hb d_w_law_490 rfl (lv_at hl 2 rfl) ?_
    refine lv_aload_n hx hb d_w_law_491 rfl (lv_at hl 4 rfl) ?_
    refine lv_iload hx hb d_w_law_492 (lv_at hl 0 rfl) ?_
    refine lv_iconst (v := 1) hx hb d_w_law_494 (by decide) ?_
    refine lv_iadd hx hb d_w_law_495 ?_
    refine va_sld hx hb hX hbl hbA hS (rl_in (n := L) (by omega) (by omega)) d_w_law_496 ?_
    rw [← ey1]
    refine lv_aload_n hx hb d_w_law_497 rfl (lv_at hl 4 rfl) ?_
    refine lv_iload hx hb d_w_law_498 (lv_at hl 0 rfl) ?_
    refine lv_iconst (v := 2) hx hb d_w_law_500 (by decide) ?_
    refine lv_iadd hx hb d_w_law_501 ?_
    refine va_sld hx hb hX hbl hbA hS (rl_in (n := L) (by omega) (by omega)) d_w_law_502 ?_
    rw [← ey2]
    refine lv_aload_n hx hb d_w_law_503 rfl (lv_at hl 4 rfl) ?_
    refine lv_iload hx hb d_w_law_504 (lv_at hl 0 rfl) ?_
    refine lv_iconst (v := 3) hx hb d_w_law_506 (by decide) ?_
    refine lv_iadd hx hb d_w_law_507 ?_
    refine va_sld hx hb hX hbl hbA hS (rl_in (n := L) (by omega) (by omega)) d_w_law_508 ?_
    rw [← ey3]
    refine lv_if_eq (tgt := 516) hx hb d_w_law_509 (by decide) (fun _ => ?_) (fun _ => ?_)
    · refine lv_iconst (v := 0) hx hb d_w_law_516 (by decide) ?_
      have hpre := rl_B.pre (av := .ref (a2 0) :: [.int y1, .int y2, .int 0]) rl_nw0 (rl_P.r hP) hK2 (rl_D.r hD) rl_N0
      refine rl_calliR hP hD hS hA (va_runV (As := [.int y1, .int y2, .int 0]) (rest := []) ⟨hx, hb, hml, hown, hG⟩ (k_m_give l D a2 kI kZ G y1 y2 0 ⟨by omega, hJR⟩ _) (cwV 3 hG (rl_gV wd_641 wd_642 wd_643 wd_19 wd_644) rfl rfl rfl (by decide +kernel) ⟨Nat.le_of_ble_eq_true rfl, Nat.le_of_ble_eq_true rfl⟩) ⟨hpre.1, (va_recv hK (rl_P.r hP) (ci := 5) (q0 := 0) rfl rfl), hpre.2⟩ rfl rfl hl.1 rfl (lv_room (Nat.le_of_ble_eq_true rfl)) d_w_law_517 ⟨lw_c hc (by decide), lw_s hs (by decide)⟩) (fun r4 F6 H locs h5 hP hD hS => ?_)
      obtain ⟨hRF6, h5⟩ := h5
      have hP : va_P D rl_cl ((rl_w a kI kZ F3 ++ rl_O kL q g) ++ rm_w a2 kI kZ F6) H := hP
      have hD : va_D (fun q : Nat => s.heap.size ≤ q) ((rl_w a kI kZ F3 ++ rl_O kL q g) ++ rm_w a2 kI kZ F6) := hD
      refine lv_pop hx hb d_w_law_520 rfl ?_
      refine lv_goto (tgt := 875) hx hb d_w_law_521 (by decide) ?_
      refine W.widen (k := c0 + 1) (n := s0 + 6) (by omega) (by omega) ?_
      exact kk F3 F6 g _ _ _ ⟨⟨by omega, hRF3⟩, ⟨by omega, hRF6⟩, ⟨by omega, by omega, by omega⟩, hP, hD, hS, lv_sub hl [0, 1, 2, 3, 4] rfl⟩
    · refine lv_iconst (v := 1) hx hb d_w_law_512 (by decide) ?_
      refine lv_goto (tgt := 517) hx hb d_w_law_513 (by decide) ?_
      have hpre := rl_B.pre (av := .ref (a2 0) :: [.int y1, .int y2, .int 1]) rl_nw0 (rl_P.r hP) hK2 (rl_D.r hD) rl_N0
      refine rl_calliR hP hD hS hA (va_runV (As := [.int y1, .int y2, .int 1]) (rest := []) ⟨hx, hb, hml, hown, hG⟩ (k_m_give l D a2 kI kZ G y1 y2 1 ⟨by omega, hJR⟩ _) (cwV 3 hG (rl_gV wd_641 wd_642 wd_643 wd_19 wd_644) rfl rfl rfl (by decide +kernel) ⟨Nat.le_of_ble_eq_true rfl, Nat.le_of_ble_eq_true rfl⟩) ⟨hpre.1, (va_recv hK (rl_P.r hP) (ci := 5) (q0 := 0) rfl rfl), hpre.2⟩ rfl rfl hl.1 rfl (lv_room (Nat.le_of_ble_eq_true rfl)) d_w_law_517 ⟨lw_c hc (by decide), lw_s hs (by decide)⟩) (fun r7 F9 H locs h8 hP hD hS => ?_)
      obtain ⟨hRF9, h8⟩ := h8
      have hP : va_P D rl_cl ((rl_w a kI kZ F3 ++ rl_O kL q g) ++ rm_w a2 kI kZ F9) H := hP
      have hD : va_D (fun q : Nat => s.heap.size ≤ q) ((rl_w a kI kZ F3 ++ rl_O kL q g) ++ rm_w a2 kI kZ F9) := hD
      refine lv_pop hx hb d_w_law_520 rfl ?_
      refine lv_goto (tgt := 875) hx hb d_w_law_521 (by decide) ?_
      refine W.widen (k := c0 + 1) (n := s0 + 6) (by omega) (by omega) ?_
      exact kk F3 F9 g _ _ _ ⟨⟨by omega, hRF3⟩, ⟨by omega, hRF9⟩, ⟨by omega, by omega, by omega⟩, hP, hD, hS, lv_sub hl [0, 1, 2, 3, 4] rfl⟩
  · refine lv_iconst (v := 1) hx hb d_w_law_481 (by decide) ?_
    refine lv_goto (tgt := 486) hx hb d_w_law_482 (by decide) ?_
    have hpre := rl_B.pre (av := .ref (a 0) :: [.int y1, .int y2, .int 1]) rl_nw_ok (rl_P.l (rl_P.l hP)) hK2 (rl_D.l (rl_D.l hD)) hN
    refine rl_calliL hP hD hS hA (va_runV (As := [.int y1, .int y2, .int 1]) (rest := []) ⟨hx, hb, hml, hown, hG⟩ (k_x_give l D a kI kZ F y1 y2 1 ⟨by omega, hIR⟩ _) (cwV 3 hG (rl_gV wd_311 wd_312 wd_313 wd_14 wd_314) rfl rfl rfl (by decide +kernel) ⟨Nat.le_of_ble_eq_true rfl, Nat.le_of_ble_eq_true rfl⟩) ⟨hpre.1, (va_recv hK (rl_P.l (rl_P.l hP)) (ci := 0) (q0 := 0) rfl rfl), hpre.2⟩ rfl rfl hl.1 rfl (lv_room (Nat.le_of_ble_eq_true rfl)) d_w_law_486 ⟨lw_c hc (by decide), lw_s hs (by decide)⟩) (fun r10 F12 H locs h11 hP hD hS => ?_)
    obtain ⟨hRF12, h11⟩ := h11
    have hP : va_P D rl_cl ((rl_w a kI kZ F12 ++ rl_O kL q g) ++ rm_w a2 kI kZ G) H := hP
    have hD : va_D (fun q : Nat => s.heap.size ≤ q) ((rl_w a kI kZ F12 ++ rl_O kL q g) ++ rm_w a2 kI kZ G) := hD
    refine lv_pop hx hb d_w_law_489 rfl ?_
    refine lv_aload_n hx hb d_w_law_490 rfl (lv_at hl 2 rfl) ?_
    refine lv_aload_n hx hb d_w_law_491 rfl (lv_at hl 4 rfl) ?_
    refine lv_iload hx hb d_w_law_492 (lv_at hl 0 rfl) ?_
    refine lv_iconst (v := 1) hx hb d_w_law_494 (by decide) ?_
    refine lv_iadd hx hb d_w_law_495 ?_
    refine va_sld hx hb hX hbl hbA hS (rl_in (n := L) (by omega) (by omega)) d_w_law_496 ?_
    rw [← ey1]
    refine lv_aload_n hx hb d_w_law_497 rfl (lv_at hl 4 rfl) ?_
    refine lv_iload hx hb d_w_law_498 (lv_at hl 0 rfl) ?_
    refine lv_iconst (v := 2) hx hb d_w_law_500 (by decide) ?_
    refine lv_iadd hx hb d_w_law_501 ?_
    refine va_sld hx hb hX hbl hbA hS (rl_in (n := L) (by omega) (by omega)) d_w_law_502 ?_
    rw [← ey2]
    refine lv_aload_n hx hb d_w_law_503 rfl (lv_at hl 4 rfl) ?_
    refine lv_iload hx hb d_w_law_504 (lv_at hl 0 rfl) ?_
    refine lv_iconst (v := 3) hx hb d_w_law_506 (by decide) ?_
    refine lv_iadd hx hb d_w_law_507 ?_
    refine va_sld hx hb hX hbl hbA hS (rl_in (n := L) (by omega) (by omega)) d_w_law_508 ?_
    rw [← ey3]
    refine lv_if_eq (tgt := 516) hx hb d_w_law_509 (by decide) (fun _ => ?_) (fun _ => ?_)
    · refine lv_iconst (v := 0) hx hb d_w_law_516 (by decide) ?_
      have hpre := rl_B.pre (av := .ref (a2 0) :: [.int y1, .int y2, .int 0]) rl_nw0 (rl_P.r hP) hK2 (rl_D.r hD) rl_N0
      refine rl_calliR hP hD hS hA (va_runV (As := [.int y1, .int y2, .int 0]) (rest := []) ⟨hx, hb, hml, hown, hG⟩ (k_m_give l D a2 kI kZ G y1 y2 0 ⟨by omega, hJR⟩ _) (cwV 3 hG (rl_gV wd_641 wd_642 wd_643 wd_19 wd_644) rfl rfl rfl (by decide +kernel) ⟨Nat.le_of_ble_eq_true rfl, Nat.le_of_ble_eq_true rfl⟩) ⟨hpre.1, (va_recv hK (rl_P.r hP) (ci := 5) (q0 := 0) rfl rfl), hpre.2⟩ rfl rfl hl.1 rfl (lv_room (Nat.le_of_ble_eq_true rfl)) d_w_law_517 ⟨lw_c hc (by decide), lw_s hs (by decide)⟩) (fun r13 F15 H locs h14 hP hD hS => ?_)
      obtain ⟨hRF15, h14⟩ := h14
      have hP : va_P D rl_cl ((rl_w a kI kZ F12 ++ rl_O kL q g) ++ rm_w a2 kI kZ F15) H := hP
      have hD : va_D (fun q : Nat => s.heap.size ≤ q) ((rl_w a kI kZ F12 ++ rl_O kL q g) ++ rm_w a2 kI kZ F15) := hD
      refine lv_pop hx hb d_w_law_520 rfl ?_
      refine lv_goto (tgt := 875) hx hb d_w_law_521 (by decide) ?_
      refine W.widen (k := c0 + 1) (n := s0 + 6) (by omega) (by omega) ?_
      exact kk F12 F15 g _ _ _ ⟨⟨by omega, hRF12⟩, ⟨by omega, hRF15⟩, ⟨by omega, by omega, by omega⟩, hP, hD, hS, lv_sub hl [0, 1, 2, 3, 4] rfl⟩
    · refine lv_iconst (v := 1) hx hb d_w_law_512 (by decide) ?_
      refine lv_goto (tgt := 517) hx hb d_w_law_513 (by decide) ?_
      have hpre := rl_B.pre (av := .ref (a2 0) :: [.int y1, .int y2, .int 1]) rl_nw0 (rl_P.r hP) hK2 (rl_D.r hD) rl_N0
      refine rl_calliR hP hD hS hA (va_runV (As := [.int y1, .int y2, .int 1]) (rest := []) ⟨hx, hb, hml, hown, hG⟩ (k_m_give l D a2 kI kZ G y1 y2 1 ⟨by omega, hJR⟩ _) (cwV 3 hG (rl_gV wd_641 wd_642 wd_643 wd_19 wd_644) rfl rfl rfl (by decide +kernel) ⟨Nat.le_of_ble_eq_true rfl, Nat.le_of_ble_eq_true rfl⟩) ⟨hpre.1, (va_recv hK (rl_P.r hP) (ci := 5) (q0 := 0) rfl rfl), hpre.2⟩ rfl rfl hl.1 rfl (lv_room (Nat.le_of_ble_eq_true rfl)) d_w_law_517 ⟨lw_c hc (by decide), lw_s hs (by decide)⟩) (fun r16 F18 H locs h17 hP hD hS => ?_)
      obtain ⟨hRF18, h17⟩ := h17
      have hP : va_P D rl_cl ((rl_w a kI kZ F12 ++ rl_O kL q g) ++ rm_w a2 kI kZ F18) H := hP
      have hD : va_D (fun q : Nat => s.heap.size ≤ q) ((rl_w a kI kZ F12 ++ rl_O kL q g) ++ rm_w a2 kI kZ F18) := hD
      refine lv_pop hx hb d_w_law_520 rfl ?_
      refine lv_goto (tgt := 875) hx hb d_w_law_521 (by decide) ?_
      refine W.widen (k := c0 + 1) (n := s0 + 6) (by omega) (by omega) ?_
      exact kk F12 F18 g _ _ _ ⟨⟨by omega, hRF12⟩, ⟨by omega, hRF18⟩, ⟨by omega, by omega, by omega⟩, hP, hD, hS, lv_sub hl [0, 1, 2, 3, 4] rfl⟩
set_option maxHeartbeats 4000000 in
set_option maxRecDepth 100000 in
theorem law_8 {p : Program} {l : Launch} {e : Env} {s : State} {m : MethodId} {below : List Frame} {meth : Method} {c : Code} {b L : Nat} {xs : Nat → Int32} {D : va_G} {a a2 : Nat → Nat} {kI kZ kL : ClassId} {q : Nat} {i : Int32} {F G : Nat → Nat → Int32} {g : Nat → Int64} {H : Heap} {locs : List Loc} {ls : Array Slot} {c0 s0 : Nat} (B0 : lw_B p l s m meth c b L xs D kI kZ kL) (hi0 : 0 ≤ i.toInt) (hi6 : i.toInt + 6 ≤ L) (hc : c0 + 1 ≤ 1087) (hs : s0 + 6 ≤ 18181) (J : lw_J s b D a a2 kI kZ kL q i F G g H locs ls) (kk : lw_K p l e s m below meth c b D a a2 kI kZ kL q i (c0 + 1) (s0 + 6)) : W p l e room_1 s m #[Value.ref b] below meth c H locs c0 s0 (lw_Z below #[Value.ref b] s) (F0 m 524 ls []) := by
  obtain ⟨hx, hb, hr, hml, hown, hG, hlocks, hX, hbl, hK, hZ, hC, hN, hlt, hL⟩ := B0
  obtain ⟨⟨hIc, hIR⟩, ⟨hJc, hJR⟩, ⟨hE0, hE1, hE2⟩, hP, hD, hS, hl⟩ := J
  have hA : ∀ q : Nat, s.heap.size ≤ q → (fun q : Nat => s.heap.size ≤ q) q := fun _ h => h
  have hbA : ¬ (fun q : Nat => s.heap.size ≤ q) b := Nat.not_le.mpr hbl
  have hK2 := hK.sub (tys' := rl_tys kI kZ) [0, 1] rfl
  have hi11 : (i + 1).toInt = i.toInt + 1 := rl_addk (by decide) (by omega) (by omega)
  have hi12 : (i + 2).toInt = i.toInt + 2 := rl_addk (by decide) (by omega) (by omega)
  have hi13 : (i + 3).toInt = i.toInt + 3 := rl_addk (by decide) (by omega) (by omega)
  have hi14 : (i + 4).toInt = i.toInt + 4 := rl_addk (by decide) (by omega) (by omega)
  have hi15 : (i + 5).toInt = i.toInt + 5 := rl_addk (by decide) (by omega) (by omega)
  obtain ⟨y1, ey1⟩ : ∃ y, y = xs (i + 1).toNatClampNeg := ⟨_, rfl⟩
  obtain ⟨y2, ey2⟩ : ∃ y, y = xs (i + 2).toNatClampNeg := ⟨_, rfl⟩
  obtain ⟨y3, ey3⟩ : ∃ y, y = xs (i + 3).toNatClampNeg := ⟨_, rfl⟩
  obtain ⟨y4, ey4⟩ : ∃ y, y = xs (i + 4).toNatClampNeg := ⟨_, rfl⟩
  obtain ⟨y5, ey5⟩ : ∃ y, y = xs (i + 5).toNatClampNeg := ⟨_, rfl⟩
  refine lv_aload_n hx hb d_w_law_524 rfl (lv_at hl 3 rfl) ?_
  refine lv_aload_n hx hb d_w_law_525 rfl (lv_at hl 4 rfl) ?_
  refine lv_iload hx hb d_w_law_526 (lv_at hl 0 rfl) ?_
  refine lv_iconst (v := 1) hx hb d_w_law_528 (by decide) ?_
  refine lv_iadd hx hb d_w_law_529 ?_
  refine va_sld hx hb hX hbl hbA hS (rl_in (n := L) (by omega) (by omega)) d_w_law_530 ?_
  rw [← ey1]
  refine lv_aload_n hx hb d_w_law_531 rfl (lv_at hl 4 rfl) ?_
  refine lv_iload hx hb d_w_law_532 (lv_at hl 0 rfl) ?_
  refine lv_iconst (v := 2) hx hb d_w_law_534 (by decide) ?_
  refine lv_iadd hx hb d_w_law_535 ?_
  refine va_sld hx hb hX hbl hbA hS (rl_in (n := L) (by omega) (by omega)) d_w_law_536 ?_
  rw [← ey2]
  have hpre := rl_B.pre (av := .ref (a 0) :: [.int y1, .int y2]) rl_nw_ok (rl_P.l (rl_P.l hP)) hK2 (rl_D.l (rl_D.l hD)) hN
  refine rl_calliL hP hD hS hA (va_runV (As := [.int y1, .int y2]) (rest := []) ⟨hx, hb, hml, hown, hG⟩ (k_x_right l D a kI kZ F y1 y2 ⟨by omega, hIR⟩ _) (cwV 2 hG (rl_gV wd_315 wd_316 wd_317 wd_14 wd_318) rfl rfl rfl (by decide +kernel) ⟨Nat.le_of_ble_eq_true rfl, Nat.le_of_ble_eq_true rfl⟩) ⟨hpre.1, (va_recv hK (rl_P.l (rl_P.l hP)) (ci := 0) (q0 := 0) rfl rfl), hpre.2⟩ rfl rfl hl.1 rfl (lv_room (Nat.le_of_ble_eq_true rfl)) d_w_law_537 ⟨lw_c hc (by decide), lw_s hs (by decide)⟩) (fun r1 F3 H locs h2 hP hD hS => ?_)
  obtain ⟨hRF3, h2⟩ := h2
  have hP : va_P D rl_cl ((rl_w a kI kZ F3 ++ rl_O kL q g) ++ rm_w a2 kI kZ G) H := hP
  have hD : va_D (fun q : Nat => s.heap.size ≤ q) ((rl_w a kI kZ F3 ++ rl_O kL q g) ++ rm_w a2 kI kZ G) := hD
  refine lv_pop hx hb d_w_law_540 rfl ?_
  refine lv_aload_n hx hb d_w_law_541 rfl (lv_at hl 2 rfl) ?_
  refine lv_aload_n hx hb d_w_law_542 rfl (lv_at hl 4 rfl) ?_
  refine lv_iload hx hb d_w_law_543 (lv_at hl 0 rfl) ?_
  refine lv_iconst (v := 1) hx hb d_w_law_545 (by decide) ?_
  refine lv_iadd hx hb d_w_law_546 ?_
  refine va_sld hx hb hX hbl hbA hS (rl_in (n := L) (by omega) (by omega)) d_w_law_547 ?_
  rw [← ey1]
  refine lv_aload_n hx hb d_w_law_548 rfl (lv_at hl 4 rfl) ?_
  refine lv_iload hx hb d_w_law_549 (lv_at hl 0 rfl) ?_
  refine lv_iconst (v := 2) hx hb d_w_law_551 (by decide) ?_
  refine lv_iadd hx hb d_w_law_552 ?_
  refine va_sld hx hb hX hbl hbA hS (rl_in (n := L) (by omega) (by omega)) d_w_law_553 ?_
  rw [← ey2]
  have hpre := rl_B.pre (av := .ref (a2 0) :: [.int y1, .int y2]) rl_nw0 (rl_P.r hP) hK2 (rl_D.r hD) rl_N0
  refine rl_calliR hP hD hS hA (va_runV (As := [.int y1, .int y2]) (rest := []) ⟨hx, hb, hml, hown, hG⟩ (k_m_right l D a2 kI kZ G y1 y2 ⟨by omega, hJR⟩ _) (cwV 2 hG (rl_gV wd_645 wd_646 wd_647 wd_19 wd_648) rfl rfl rfl (by decide +kernel) ⟨Nat.le_of_ble_eq_true rfl, Nat.le_of_ble_eq_true rfl⟩) ⟨hpre.1, (va_recv hK (rl_P.r hP) (ci := 5) (q0 := 0) rfl rfl), hpre.2⟩ rfl rfl hl.1 rfl (lv_room (Nat.le_of_ble_eq_true rfl)) d_w_law_554 ⟨lw_c hc (by decide), lw_s hs (by decide)⟩) (fun r4 F6 H locs h5 hP hD hS => ?_)
  obtain ⟨hRF6, h5⟩ := h5
  have hP : va_P D rl_cl ((rl_w a kI kZ F3 ++ rl_O kL q g) ++ rm_w a2 kI kZ F6) H := hP
  have hD : va_D (fun q : Nat => s.heap.size ≤ q) ((rl_w a kI kZ F3 ++ rl_O kL q g) ++ rm_w a2 kI kZ F6) := hD
  refine lv_pop hx hb d_w_law_557 rfl ?_
  refine lv_goto (tgt := 875) hx hb d_w_law_558 (by decide) ?_
  refine W.widen (k := c0 + 1) (n := s0 + 6) (by omega) (by omega) ?_
  exact kk F3 F6 g _ _ _ ⟨⟨by omega, hRF3⟩, ⟨by omega, hRF6⟩, ⟨by omega, by omega, by omega⟩, hP, hD, hS, lv_sub hl [0, 1, 2, 3, 4] rfl⟩
set_option maxHeartbeats 4000000 in
set_option maxRecDepth 100000 in
theorem law_9 {p : Program} {l : Launch} {e : Env} {s : State} {m : MethodId} {below : List Frame} {meth : Method} {c : Code} {b L : Nat} {xs : Nat → Int32} {D : va_G} {a a2 : Nat → Nat} {kI kZ kL : ClassId} {q : Nat} {i : Int32} {F G : Nat → Nat → Int32} {g : Nat → Int64} {H : Heap} {locs : List Loc} {ls : Array Slot} {c0 s0 : Nat} (B0 : lw_B p l s m meth c b L xs D kI kZ kL) (hi0 : 0 ≤ i.toInt) (hi6 : i.toInt + 6 ≤ L) (hc : c0 + 1 ≤ 1087) (hs : s0 + 6 ≤ 18181) (J : lw_J s b D a a2 kI kZ kL q i F G g H locs ls) (kk : lw_K p l e s m below meth c b D a a2 kI kZ kL q i (c0 + 1) (s0 + 6)) : W p l e room_1 s m #[Value.ref b] below meth c H locs c0 s0 (lw_Z below #[Value.ref b] s) (F0 m 561 ls []) := by
  obtain ⟨hx, hb, hr, hml, hown, hG, hlocks, hX, hbl, hK, hZ, hC, hN, hlt, hL⟩ := B0
  obtain ⟨⟨hIc, hIR⟩, ⟨hJc, hJR⟩, ⟨hE0, hE1, hE2⟩, hP, hD, hS, hl⟩ := J
  have hA : ∀ q : Nat, s.heap.size ≤ q → (fun q : Nat => s.heap.size ≤ q) q := fun _ h => h
  have hbA : ¬ (fun q : Nat => s.heap.size ≤ q) b := Nat.not_le.mpr hbl
  have hK2 := hK.sub (tys' := rl_tys kI kZ) [0, 1] rfl
  have hi11 : (i + 1).toInt = i.toInt + 1 := rl_addk (by decide) (by omega) (by omega)
  have hi12 : (i + 2).toInt = i.toInt + 2 := rl_addk (by decide) (by omega) (by omega)
  have hi13 : (i + 3).toInt = i.toInt + 3 := rl_addk (by decide) (by omega) (by omega)
  have hi14 : (i + 4).toInt = i.toInt + 4 := rl_addk (by decide) (by omega) (by omega)
  have hi15 : (i + 5).toInt = i.toInt + 5 := rl_addk (by decide) (by omega) (by omega)
  obtain ⟨y1, ey1⟩ : ∃ y, y = xs (i + 1).toNatClampNeg := ⟨_, rfl⟩
  obtain ⟨y2, ey2⟩ : ∃ y, y = xs (i + 2).toNatClampNeg := ⟨_, rfl⟩
  obtain ⟨y3, ey3⟩ : ∃ y, y = xs (i + 3).toNatClampNeg := ⟨_, rfl⟩
  obtain ⟨y4, ey4⟩ : ∃ y, y = xs (i + 4).toNatClampNeg := ⟨_, rfl⟩
  obtain ⟨y5, ey5⟩ : ∃ y, y = xs (i + 5).toNatClampNeg := ⟨_, rfl⟩
  refine lv_aload_n hx hb d_w_law_561 rfl (lv_at hl 3 rfl) ?_
  refine lv_aload_n hx hb d_w_law_562 rfl (lv_at hl 4 rfl) ?_
  refine lv_iload hx hb d_w_law_563 (lv_at hl 0 rfl) ?_
  refine lv_iconst (v := 1) hx hb d_w_law_565 (by decide) ?_
  refine lv_iadd hx hb d_w_law_566 ?_
  refine va_sld hx hb hX hbl hbA hS (rl_in (n := L) (by omega) (by omega)) d_w_law_567 ?_
  rw [← ey1]
  refine lv_aload_n hx hb d_w_law_568 rfl (lv_at hl 4 rfl) ?_
  refine lv_iload hx hb d_w_law_569 (lv_at hl 0 rfl) ?_
  refine lv_iconst (v := 2) hx hb d_w_law_571 (by decide) ?_
  refine lv_iadd hx hb d_w_law_572 ?_
  refine va_sld hx hb hX hbl hbA hS (rl_in (n := L) (by omega) (by omega)) d_w_law_573 ?_
  rw [← ey2]
  have hpre := rl_B.pre (av := .ref (a 0) :: [.int y1, .int y2]) rl_nw_ok (rl_P.l (rl_P.l hP)) hK2 (rl_D.l (rl_D.l hD)) hN
  refine rl_calliL hP hD hS hA (va_runV (As := [.int y1, .int y2]) (rest := []) ⟨hx, hb, hml, hown, hG⟩ (k_x_waive l D a kI kZ F y1 y2 ⟨by omega, hIR⟩ _) (cwV 2 hG (rl_gV wd_319 wd_320 wd_321 wd_14 wd_322) rfl rfl rfl (by decide +kernel) ⟨Nat.le_of_ble_eq_true rfl, Nat.le_of_ble_eq_true rfl⟩) ⟨hpre.1, (va_recv hK (rl_P.l (rl_P.l hP)) (ci := 0) (q0 := 0) rfl rfl), hpre.2⟩ rfl rfl hl.1 rfl (lv_room (Nat.le_of_ble_eq_true rfl)) d_w_law_574 ⟨lw_c hc (by decide), lw_s hs (by decide)⟩) (fun r1 F3 H locs h2 hP hD hS => ?_)
  obtain ⟨hRF3, h2⟩ := h2
  have hP : va_P D rl_cl ((rl_w a kI kZ F3 ++ rl_O kL q g) ++ rm_w a2 kI kZ G) H := hP
  have hD : va_D (fun q : Nat => s.heap.size ≤ q) ((rl_w a kI kZ F3 ++ rl_O kL q g) ++ rm_w a2 kI kZ G) := hD
  refine lv_pop hx hb d_w_law_577 rfl ?_
  refine lv_aload_n hx hb d_w_law_578 rfl (lv_at hl 2 rfl) ?_
  refine lv_aload_n hx hb d_w_law_579 rfl (lv_at hl 4 rfl) ?_
  refine lv_iload hx hb d_w_law_580 (lv_at hl 0 rfl) ?_
  refine lv_iconst (v := 1) hx hb d_w_law_582 (by decide) ?_
  refine lv_iadd hx hb d_w_law_583 ?_
  refine va_sld hx hb hX hbl hbA hS (rl_in (n := L) (by omega) (by omega)) d_w_law_584 ?_
  rw [← ey1]
  refine lv_aload_n hx hb d_w_law_585 rfl (lv_at hl 4 rfl) ?_
  refine lv_iload hx hb d_w_law_586 (lv_at hl 0 rfl) ?_
  refine lv_iconst (v := 2) hx hb d_w_law_588 (by decide) ?_
  refine lv_iadd hx hb d_w_law_589 ?_
  refine va_sld hx hb hX hbl hbA hS (rl_in (n := L) (by omega) (by omega)) d_w_law_590 ?_
  rw [← ey2]
  have hpre := rl_B.pre (av := .ref (a2 0) :: [.int y1, .int y2]) rl_nw0 (rl_P.r hP) hK2 (rl_D.r hD) rl_N0
  refine rl_calliR hP hD hS hA (va_runV (As := [.int y1, .int y2]) (rest := []) ⟨hx, hb, hml, hown, hG⟩ (k_m_waive l D a2 kI kZ G y1 y2 ⟨by omega, hJR⟩ _) (cwV 2 hG (rl_gV wd_649 wd_650 wd_651 wd_19 wd_652) rfl rfl rfl (by decide +kernel) ⟨Nat.le_of_ble_eq_true rfl, Nat.le_of_ble_eq_true rfl⟩) ⟨hpre.1, (va_recv hK (rl_P.r hP) (ci := 5) (q0 := 0) rfl rfl), hpre.2⟩ rfl rfl hl.1 rfl (lv_room (Nat.le_of_ble_eq_true rfl)) d_w_law_591 ⟨lw_c hc (by decide), lw_s hs (by decide)⟩) (fun r4 F6 H locs h5 hP hD hS => ?_)
  obtain ⟨hRF6, h5⟩ := h5
  have hP : va_P D rl_cl ((rl_w a kI kZ F3 ++ rl_O kL q g) ++ rm_w a2 kI kZ F6) H := hP
  have hD : va_D (fun q : Nat => s.heap.size ≤ q) ((rl_w a kI kZ F3 ++ rl_O kL q g) ++ rm_w a2 kI kZ F6) := hD
  refine lv_pop hx hb d_w_law_594 rfl ?_
  refine lv_goto (tgt := 875) hx hb d_w_law_595 (by decide) ?_
  refine W.widen (k := c0 + 1) (n := s0 + 6) (by omega) (by omega) ?_
  exact kk F3 F6 g _ _ _ ⟨⟨by omega, hRF3⟩, ⟨by omega, hRF6⟩, ⟨by omega, by omega, by omega⟩, hP, hD, hS, lv_sub hl [0, 1, 2, 3, 4] rfl⟩
set_option maxHeartbeats 4000000 in
set_option maxRecDepth 100000 in
theorem law_10 {p : Program} {l : Launch} {e : Env} {s : State} {m : MethodId} {below : List Frame} {meth : Method} {c : Code} {b L : Nat} {xs : Nat → Int32} {D : va_G} {a a2 : Nat → Nat} {kI kZ kL : ClassId} {q : Nat} {i : Int32} {F G : Nat → Nat → Int32} {g : Nat → Int64} {H : Heap} {locs : List Loc} {ls : Array Slot} {c0 s0 : Nat} (B0 : lw_B p l s m meth c b L xs D kI kZ kL) (hi0 : 0 ≤ i.toInt) (hi6 : i.toInt + 6 ≤ L) (hc : c0 + 1 ≤ 1087) (hs : s0 + 6 ≤ 18181) (J : lw_J s b D a a2 kI kZ kL q i F G g H locs ls) (kk : lw_K p l e s m below meth c b D a a2 kI kZ kL q i (c0 + 1) (s0 + 6)) : W p l e room_1 s m #[Value.ref b] below meth c H locs c0 s0 (lw_Z below #[Value.ref b] s) (F0 m 598 ls []) := by
  obtain ⟨hx, hb, hr, hml, hown, hG, hlocks, hX, hbl, hK, hZ, hC, hN, hlt, hL⟩ := B0
  obtain ⟨⟨hIc, hIR⟩, ⟨hJc, hJR⟩, ⟨hE0, hE1, hE2⟩, hP, hD, hS, hl⟩ := J
  have hA : ∀ q : Nat, s.heap.size ≤ q → (fun q : Nat => s.heap.size ≤ q) q := fun _ h => h
  have hbA : ¬ (fun q : Nat => s.heap.size ≤ q) b := Nat.not_le.mpr hbl
  have hK2 := hK.sub (tys' := rl_tys kI kZ) [0, 1] rfl
  have hi11 : (i + 1).toInt = i.toInt + 1 := rl_addk (by decide) (by omega) (by omega)
  have hi12 : (i + 2).toInt = i.toInt + 2 := rl_addk (by decide) (by omega) (by omega)
  have hi13 : (i + 3).toInt = i.toInt + 3 := rl_addk (by decide) (by omega) (by omega)
  have hi14 : (i + 4).toInt = i.toInt + 4 := rl_addk (by decide) (by omega) (by omega)
  have hi15 : (i + 5).toInt = i.toInt + 5 := rl_addk (by decide) (by omega) (by omega)
  obtain ⟨y1, ey1⟩ : ∃ y, y = xs (i + 1).toNatClampNeg := ⟨_, rfl⟩
  obtain ⟨y2, ey2⟩ : ∃ y, y = xs (i + 2).toNatClampNeg := ⟨_, rfl⟩
  obtain ⟨y3, ey3⟩ : ∃ y, y = xs (i + 3).toNatClampNeg := ⟨_, rfl⟩
  obtain ⟨y4, ey4⟩ : ∃ y, y = xs (i + 4).toNatClampNeg := ⟨_, rfl⟩
  obtain ⟨y5, ey5⟩ : ∃ y, y = xs (i + 5).toNatClampNeg := ⟨_, rfl⟩
  refine lv_aload_n hx hb d_w_law_598 rfl (lv_at hl 3 rfl) ?_
  refine lv_aload_n hx hb d_w_law_599 rfl (lv_at hl 4 rfl) ?_
  refine lv_iload hx hb d_w_law_600 (lv_at hl 0 rfl) ?_
  refine lv_iconst (v := 1) hx hb d_w_law_602 (by decide) ?_
  refine lv_iadd hx hb d_w_law_603 ?_
  refine va_sld hx hb hX hbl hbA hS (rl_in (n := L) (by omega) (by omega)) d_w_law_604 ?_
  rw [← ey1]
  refine lv_aload_n hx hb d_w_law_605 rfl (lv_at hl 4 rfl) ?_
  refine lv_iload hx hb d_w_law_606 (lv_at hl 0 rfl) ?_
  refine lv_iconst (v := 2) hx hb d_w_law_608 (by decide) ?_
  refine lv_iadd hx hb d_w_law_609 ?_
  refine va_sld hx hb hX hbl hbA hS (rl_in (n := L) (by omega) (by omega)) d_w_law_610 ?_
  rw [← ey2]
  have hpre := rl_B.pre (av := .ref (a 0) :: [.int y1, .int y2]) rl_nw_ok (rl_P.l (rl_P.l hP)) hK2 (rl_D.l (rl_D.l hD)) hN
  refine rl_calliL hP hD hS hA (va_runV (As := [.int y1, .int y2]) (rest := []) ⟨hx, hb, hml, hown, hG⟩ (k_x_renew l D a kI kZ F y1 y2 ⟨by omega, hIR⟩ _) (cwV 2 hG (rl_gV wd_327 wd_328 wd_329 wd_14 wd_330) rfl rfl rfl (by decide +kernel) ⟨Nat.le_of_ble_eq_true rfl, Nat.le_of_ble_eq_true rfl⟩) ⟨hpre.1, (va_recv hK (rl_P.l (rl_P.l hP)) (ci := 0) (q0 := 0) rfl rfl), hpre.2⟩ rfl rfl hl.1 rfl (lv_room (Nat.le_of_ble_eq_true rfl)) d_w_law_611 ⟨lw_c hc (by decide), lw_s hs (by decide)⟩) (fun r1 F3 H locs h2 hP hD hS => ?_)
  obtain ⟨hRF3, h2⟩ := h2
  have hP : va_P D rl_cl ((rl_w a kI kZ F3 ++ rl_O kL q g) ++ rm_w a2 kI kZ G) H := hP
  have hD : va_D (fun q : Nat => s.heap.size ≤ q) ((rl_w a kI kZ F3 ++ rl_O kL q g) ++ rm_w a2 kI kZ G) := hD
  refine lv_pop hx hb d_w_law_614 rfl ?_
  refine lv_aload_n hx hb d_w_law_615 rfl (lv_at hl 2 rfl) ?_
  refine lv_aload_n hx hb d_w_law_616 rfl (lv_at hl 4 rfl) ?_
  refine lv_iload hx hb d_w_law_617 (lv_at hl 0 rfl) ?_
  refine lv_iconst (v := 1) hx hb d_w_law_619 (by decide) ?_
  refine lv_iadd hx hb d_w_law_620 ?_
  refine va_sld hx hb hX hbl hbA hS (rl_in (n := L) (by omega) (by omega)) d_w_law_621 ?_
  rw [← ey1]
  refine lv_aload_n hx hb d_w_law_622 rfl (lv_at hl 4 rfl) ?_
  refine lv_iload hx hb d_w_law_623 (lv_at hl 0 rfl) ?_
  refine lv_iconst (v := 2) hx hb d_w_law_625 (by decide) ?_
  refine lv_iadd hx hb d_w_law_626 ?_
  refine va_sld hx hb hX hbl hbA hS (rl_in (n := L) (by omega) (by omega)) d_w_law_627 ?_
  rw [← ey2]
  have hpre := rl_B.pre (av := .ref (a2 0) :: [.int y1, .int y2]) rl_nw0 (rl_P.r hP) hK2 (rl_D.r hD) rl_N0
  refine rl_calliR hP hD hS hA (va_runV (As := [.int y1, .int y2]) (rest := []) ⟨hx, hb, hml, hown, hG⟩ (k_m_renew l D a2 kI kZ G y1 y2 ⟨by omega, hJR⟩ _) (cwV 2 hG (rl_gV wd_653 wd_654 wd_655 wd_19 wd_656) rfl rfl rfl (by decide +kernel) ⟨Nat.le_of_ble_eq_true rfl, Nat.le_of_ble_eq_true rfl⟩) ⟨hpre.1, (va_recv hK (rl_P.r hP) (ci := 5) (q0 := 0) rfl rfl), hpre.2⟩ rfl rfl hl.1 rfl (lv_room (Nat.le_of_ble_eq_true rfl)) d_w_law_628 ⟨lw_c hc (by decide), lw_s hs (by decide)⟩) (fun r4 F6 H locs h5 hP hD hS => ?_)
  obtain ⟨hRF6, h5⟩ := h5
  have hP : va_P D rl_cl ((rl_w a kI kZ F3 ++ rl_O kL q g) ++ rm_w a2 kI kZ F6) H := hP
  have hD : va_D (fun q : Nat => s.heap.size ≤ q) ((rl_w a kI kZ F3 ++ rl_O kL q g) ++ rm_w a2 kI kZ F6) := hD
  refine lv_pop hx hb d_w_law_631 rfl ?_
  refine lv_goto (tgt := 875) hx hb d_w_law_632 (by decide) ?_
  refine W.widen (k := c0 + 1) (n := s0 + 6) (by omega) (by omega) ?_
  exact kk F3 F6 g _ _ _ ⟨⟨by omega, hRF3⟩, ⟨by omega, hRF6⟩, ⟨by omega, by omega, by omega⟩, hP, hD, hS, lv_sub hl [0, 1, 2, 3, 4] rfl⟩
set_option maxHeartbeats 4000000 in
set_option maxRecDepth 100000 in
theorem law_11 {p : Program} {l : Launch} {e : Env} {s : State} {m : MethodId} {below : List Frame} {meth : Method} {c : Code} {b L : Nat} {xs : Nat → Int32} {D : va_G} {a a2 : Nat → Nat} {kI kZ kL : ClassId} {q : Nat} {i : Int32} {F G : Nat → Nat → Int32} {g : Nat → Int64} {H : Heap} {locs : List Loc} {ls : Array Slot} {c0 s0 : Nat} (B0 : lw_B p l s m meth c b L xs D kI kZ kL) (hi0 : 0 ≤ i.toInt) (hi6 : i.toInt + 6 ≤ L) (hc : c0 + 1 ≤ 1087) (hs : s0 + 6 ≤ 18181) (J : lw_J s b D a a2 kI kZ kL q i F G g H locs ls) (kk : lw_K p l e s m below meth c b D a a2 kI kZ kL q i (c0 + 1) (s0 + 6)) : W p l e room_1 s m #[Value.ref b] below meth c H locs c0 s0 (lw_Z below #[Value.ref b] s) (F0 m 635 ls []) := by
  obtain ⟨hx, hb, hr, hml, hown, hG, hlocks, hX, hbl, hK, hZ, hC, hN, hlt, hL⟩ := B0
  obtain ⟨⟨hIc, hIR⟩, ⟨hJc, hJR⟩, ⟨hE0, hE1, hE2⟩, hP, hD, hS, hl⟩ := J
  have hA : ∀ q : Nat, s.heap.size ≤ q → (fun q : Nat => s.heap.size ≤ q) q := fun _ h => h
  have hbA : ¬ (fun q : Nat => s.heap.size ≤ q) b := Nat.not_le.mpr hbl
  have hK2 := hK.sub (tys' := rl_tys kI kZ) [0, 1] rfl
  have hi11 : (i + 1).toInt = i.toInt + 1 := rl_addk (by decide) (by omega) (by omega)
  have hi12 : (i + 2).toInt = i.toInt + 2 := rl_addk (by decide) (by omega) (by omega)
  have hi13 : (i + 3).toInt = i.toInt + 3 := rl_addk (by decide) (by omega) (by omega)
  have hi14 : (i + 4).toInt = i.toInt + 4 := rl_addk (by decide) (by omega) (by omega)
  have hi15 : (i + 5).toInt = i.toInt + 5 := rl_addk (by decide) (by omega) (by omega)
  obtain ⟨y1, ey1⟩ : ∃ y, y = xs (i + 1).toNatClampNeg := ⟨_, rfl⟩
  obtain ⟨y2, ey2⟩ : ∃ y, y = xs (i + 2).toNatClampNeg := ⟨_, rfl⟩
  obtain ⟨y3, ey3⟩ : ∃ y, y = xs (i + 3).toNatClampNeg := ⟨_, rfl⟩
  obtain ⟨y4, ey4⟩ : ∃ y, y = xs (i + 4).toNatClampNeg := ⟨_, rfl⟩
  obtain ⟨y5, ey5⟩ : ∃ y, y = xs (i + 5).toNatClampNeg := ⟨_, rfl⟩
  refine lv_aload_n hx hb d_w_law_635 rfl (lv_at hl 3 rfl) ?_
  refine lv_aload_n hx hb d_w_law_636 rfl (lv_at hl 4 rfl) ?_
  refine lv_iload hx hb d_w_law_637 (lv_at hl 0 rfl) ?_
  refine lv_iconst (v := 1) hx hb d_w_law_639 (by decide) ?_
  refine lv_iadd hx hb d_w_law_640 ?_
  refine va_sld hx hb hX hbl hbA hS (rl_in (n := L) (by omega) (by omega)) d_w_law_641 ?_
  rw [← ey1]
  refine lv_aload_n hx hb d_w_law_642 rfl (lv_at hl 4 rfl) ?_
  refine lv_iload hx hb d_w_law_643 (lv_at hl 0 rfl) ?_
  refine lv_iconst (v := 2) hx hb d_w_law_645 (by decide) ?_
  refine lv_iadd hx hb d_w_law_646 ?_
  refine va_sld hx hb hX hbl hbA hS (rl_in (n := L) (by omega) (by omega)) d_w_law_647 ?_
  rw [← ey2]
  have hpre := rl_B.pre (av := .ref (a 0) :: [.int y1, .int y2]) rl_nw_ok (rl_P.l (rl_P.l hP)) hK2 (rl_D.l (rl_D.l hD)) hN
  refine rl_calliL hP hD hS hA (va_runV (As := [.int y1, .int y2]) (rest := []) ⟨hx, hb, hml, hown, hG⟩ (k_x_delete l D a kI kZ F y1 y2 ⟨by omega, hIR⟩ _) (cwV 2 hG (rl_gV wd_352 wd_353 wd_354 wd_14 wd_355) rfl rfl rfl (by decide +kernel) ⟨Nat.le_of_ble_eq_true rfl, Nat.le_of_ble_eq_true rfl⟩) ⟨hpre.1, (va_recv hK (rl_P.l (rl_P.l hP)) (ci := 0) (q0 := 0) rfl rfl), hpre.2⟩ rfl rfl hl.1 rfl (lv_room (Nat.le_of_ble_eq_true rfl)) d_w_law_648 ⟨lw_c hc (by decide), lw_s hs (by decide)⟩) (fun r1 F3 H locs h2 hP hD hS => ?_)
  obtain ⟨hRF3, h2⟩ := h2
  have hP : va_P D rl_cl ((rl_w a kI kZ F3 ++ rl_O kL q g) ++ rm_w a2 kI kZ G) H := hP
  have hD : va_D (fun q : Nat => s.heap.size ≤ q) ((rl_w a kI kZ F3 ++ rl_O kL q g) ++ rm_w a2 kI kZ G) := hD
  refine lv_pop hx hb d_w_law_651 rfl ?_
  refine lv_aload_n hx hb d_w_law_652 rfl (lv_at hl 2 rfl) ?_
  refine lv_aload_n hx hb d_w_law_653 rfl (lv_at hl 4 rfl) ?_
  refine lv_iload hx hb d_w_law_654 (lv_at hl 0 rfl) ?_
  refine lv_iconst (v := 1) hx hb d_w_law_656 (by decide) ?_
  refine lv_iadd hx hb d_w_law_657 ?_
  refine va_sld hx hb hX hbl hbA hS (rl_in (n := L) (by omega) (by omega)) d_w_law_658 ?_
  rw [← ey1]
  refine lv_aload_n hx hb d_w_law_659 rfl (lv_at hl 4 rfl) ?_
  refine lv_iload hx hb d_w_law_660 (lv_at hl 0 rfl) ?_
  refine lv_iconst (v := 2) hx hb d_w_law_662 (by decide) ?_
  refine lv_iadd hx hb d_w_law_663 ?_
  refine va_sld hx hb hX hbl hbA hS (rl_in (n := L) (by omega) (by omega)) d_w_law_664 ?_
  rw [← ey2]
  have hpre := rl_B.pre (av := .ref (a2 0) :: [.int y1, .int y2]) rl_nw0 (rl_P.r hP) hK2 (rl_D.r hD) rl_N0
  refine rl_calliR hP hD hS hA (va_runV (As := [.int y1, .int y2]) (rest := []) ⟨hx, hb, hml, hown, hG⟩ (k_m_delete l D a2 kI kZ G y1 y2 ⟨by omega, hJR⟩ _) (cwV 2 hG (rl_gV wd_657 wd_658 wd_659 wd_19 wd_660) rfl rfl rfl (by decide +kernel) ⟨Nat.le_of_ble_eq_true rfl, Nat.le_of_ble_eq_true rfl⟩) ⟨hpre.1, (va_recv hK (rl_P.r hP) (ci := 5) (q0 := 0) rfl rfl), hpre.2⟩ rfl rfl hl.1 rfl (lv_room (Nat.le_of_ble_eq_true rfl)) d_w_law_665 ⟨lw_c hc (by decide), lw_s hs (by decide)⟩) (fun r4 F6 H locs h5 hP hD hS => ?_)
  obtain ⟨hRF6, h5⟩ := h5
  have hP : va_P D rl_cl ((rl_w a kI kZ F3 ++ rl_O kL q g) ++ rm_w a2 kI kZ F6) H := hP
  have hD : va_D (fun q : Nat => s.heap.size ≤ q) ((rl_w a kI kZ F3 ++ rl_O kL q g) ++ rm_w a2 kI kZ F6) := hD
  refine lv_pop hx hb d_w_law_668 rfl ?_
  refine lv_goto (tgt := 875) hx hb d_w_law_669 (by decide) ?_
  refine W.widen (k := c0 + 1) (n := s0 + 6) (by omega) (by omega) ?_
  exact kk F3 F6 g _ _ _ ⟨⟨by omega, hRF3⟩, ⟨by omega, hRF6⟩, ⟨by omega, by omega, by omega⟩, hP, hD, hS, lv_sub hl [0, 1, 2, 3, 4] rfl⟩
set_option maxHeartbeats 4000000 in
set_option maxRecDepth 100000 in
theorem law_12 {p : Program} {l : Launch} {e : Env} {s : State} {m : MethodId} {below : List Frame} {meth : Method} {c : Code} {b L : Nat} {xs : Nat → Int32} {D : va_G} {a a2 : Nat → Nat} {kI kZ kL : ClassId} {q : Nat} {i : Int32} {F G : Nat → Nat → Int32} {g : Nat → Int64} {H : Heap} {locs : List Loc} {ls : Array Slot} {c0 s0 : Nat} (B0 : lw_B p l s m meth c b L xs D kI kZ kL) (hi0 : 0 ≤ i.toInt) (hi6 : i.toInt + 6 ≤ L) (hc : c0 + 1 ≤ 1087) (hs : s0 + 6 ≤ 18181) (J : lw_J s b D a a2 kI kZ kL q i F G g H locs ls) (kk : lw_K p l e s m below meth c b D a a2 kI kZ kL q i (c0 + 1) (s0 + 6)) : W p l e room_1 s m #[Value.ref b] below meth c H locs c0 s0 (lw_Z below #[Value.ref b] s) (F0 m 672 ls []) := by
  obtain ⟨hx, hb, hr, hml, hown, hG, hlocks, hX, hbl, hK, hZ, hC, hN, hlt, hL⟩ := B0
  obtain ⟨⟨hIc, hIR⟩, ⟨hJc, hJR⟩, ⟨hE0, hE1, hE2⟩, hP, hD, hS, hl⟩ := J
  have hA : ∀ q : Nat, s.heap.size ≤ q → (fun q : Nat => s.heap.size ≤ q) q := fun _ h => h
  have hbA : ¬ (fun q : Nat => s.heap.size ≤ q) b := Nat.not_le.mpr hbl
  have hK2 := hK.sub (tys' := rl_tys kI kZ) [0, 1] rfl
  have hi11 : (i + 1).toInt = i.toInt + 1 := rl_addk (by decide) (by omega) (by omega)
  have hi12 : (i + 2).toInt = i.toInt + 2 := rl_addk (by decide) (by omega) (by omega)
  have hi13 : (i + 3).toInt = i.toInt + 3 := rl_addk (by decide) (by omega) (by omega)
  have hi14 : (i + 4).toInt = i.toInt + 4 := rl_addk (by decide) (by omega) (by omega)
  have hi15 : (i + 5).toInt = i.toInt + 5 := rl_addk (by decide) (by omega) (by omega)
  obtain ⟨y1, ey1⟩ : ∃ y, y = xs (i + 1).toNatClampNeg := ⟨_, rfl⟩
  obtain ⟨y2, ey2⟩ : ∃ y, y = xs (i + 2).toNatClampNeg := ⟨_, rfl⟩
  obtain ⟨y3, ey3⟩ : ∃ y, y = xs (i + 3).toNatClampNeg := ⟨_, rfl⟩
  obtain ⟨y4, ey4⟩ : ∃ y, y = xs (i + 4).toNatClampNeg := ⟨_, rfl⟩
  obtain ⟨y5, ey5⟩ : ∃ y, y = xs (i + 5).toNatClampNeg := ⟨_, rfl⟩
  refine lv_aload_n hx hb d_w_law_672 rfl (lv_at hl 3 rfl) ?_
  refine lv_aload_n hx hb d_w_law_673 rfl (lv_at hl 4 rfl) ?_
  refine lv_iload hx hb d_w_law_674 (lv_at hl 0 rfl) ?_
  refine lv_iconst (v := 1) hx hb d_w_law_676 (by decide) ?_
  refine lv_iadd hx hb d_w_law_677 ?_
  refine va_sld hx hb hX hbl hbA hS (rl_in (n := L) (by omega) (by omega)) d_w_law_678 ?_
  rw [← ey1]
  refine lv_aload_n hx hb d_w_law_679 rfl (lv_at hl 4 rfl) ?_
  refine lv_iload hx hb d_w_law_680 (lv_at hl 0 rfl) ?_
  refine lv_iconst (v := 2) hx hb d_w_law_682 (by decide) ?_
  refine lv_iadd hx hb d_w_law_683 ?_
  refine va_sld hx hb hX hbl hbA hS (rl_in (n := L) (by omega) (by omega)) d_w_law_684 ?_
  rw [← ey2]
  refine lv_aload_n hx hb d_w_law_685 rfl (lv_at hl 4 rfl) ?_
  refine lv_iload hx hb d_w_law_686 (lv_at hl 0 rfl) ?_
  refine lv_iconst (v := 3) hx hb d_w_law_688 (by decide) ?_
  refine lv_iadd hx hb d_w_law_689 ?_
  refine va_sld hx hb hX hbl hbA hS (rl_in (n := L) (by omega) (by omega)) d_w_law_690 ?_
  rw [← ey3]
  refine lv_aload_n hx hb d_w_law_691 rfl (lv_at hl 4 rfl) ?_
  refine lv_iload hx hb d_w_law_692 (lv_at hl 0 rfl) ?_
  refine lv_iconst (v := 4) hx hb d_w_law_694 (by decide) ?_
  refine lv_iadd hx hb d_w_law_695 ?_
  refine va_sld hx hb hX hbl hbA hS (rl_in (n := L) (by omega) (by omega)) d_w_law_696 ?_
  rw [← ey4]
  have hpre := rl_BR.pre (av := .ref (a 0) :: [.int y1, .int y2, .int y3, .int y4]) rl_nw_ok (rl_P.l (rl_P.l hP)) hK2 hN
  refine rl_callr hS (va_runV (As := [.int y1, .int y2, .int y3, .int y4]) (rest := []) ⟨hx, hb, hml, hown, hG⟩ (k_x_counted l D a kI kZ F y1 y2 y3 y4 ⟨by omega, hIR⟩ _) (cwV 4 hG (rl_gV wd_358 wd_359 wd_360 wd_14 wd_361) rfl rfl rfl (by decide +kernel) ⟨Nat.le_of_ble_eq_true rfl, Nat.le_of_ble_eq_true rfl⟩) ⟨hpre.1, (va_recv hK (rl_P.l (rl_P.l hP)) (ci := 0) (q0 := 0) rfl rfl), hpre.2⟩ rfl rfl hl.1 rfl (lv_room (Nat.le_of_ble_eq_true rfl)) d_w_law_697 ⟨lw_c hc (by decide), lw_s hs (by decide)⟩) (fun r1 locs h2 hS => ?_)
  refine lv_pop hx hb d_w_law_700 rfl ?_
  refine lv_aload_n hx hb d_w_law_701 rfl (lv_at hl 2 rfl) ?_
  refine lv_aload_n hx hb d_w_law_702 rfl (lv_at hl 4 rfl) ?_
  refine lv_iload hx hb d_w_law_703 (lv_at hl 0 rfl) ?_
  refine lv_iconst (v := 1) hx hb d_w_law_705 (by decide) ?_
  refine lv_iadd hx hb d_w_law_706 ?_
  refine va_sld hx hb hX hbl hbA hS (rl_in (n := L) (by omega) (by omega)) d_w_law_707 ?_
  rw [← ey1]
  refine lv_aload_n hx hb d_w_law_708 rfl (lv_at hl 4 rfl) ?_
  refine lv_iload hx hb d_w_law_709 (lv_at hl 0 rfl) ?_
  refine lv_iconst (v := 2) hx hb d_w_law_711 (by decide) ?_
  refine lv_iadd hx hb d_w_law_712 ?_
  refine va_sld hx hb hX hbl hbA hS (rl_in (n := L) (by omega) (by omega)) d_w_law_713 ?_
  rw [← ey2]
  refine lv_aload_n hx hb d_w_law_714 rfl (lv_at hl 4 rfl) ?_
  refine lv_iload hx hb d_w_law_715 (lv_at hl 0 rfl) ?_
  refine lv_iconst (v := 3) hx hb d_w_law_717 (by decide) ?_
  refine lv_iadd hx hb d_w_law_718 ?_
  refine va_sld hx hb hX hbl hbA hS (rl_in (n := L) (by omega) (by omega)) d_w_law_719 ?_
  rw [← ey3]
  refine lv_aload_n hx hb d_w_law_720 rfl (lv_at hl 4 rfl) ?_
  refine lv_iload hx hb d_w_law_721 (lv_at hl 0 rfl) ?_
  refine lv_iconst (v := 4) hx hb d_w_law_723 (by decide) ?_
  refine lv_iadd hx hb d_w_law_724 ?_
  refine va_sld hx hb hX hbl hbA hS (rl_in (n := L) (by omega) (by omega)) d_w_law_725 ?_
  rw [← ey4]
  have hpre := rl_B.pre (av := .ref (a2 0) :: [.int y1, .int y2, .int y3, .int y4]) rl_nw0 (rl_P.r hP) hK2 (rl_D.r hD) rl_N0
  refine rl_calliR hP hD hS hA (va_runV (As := [.int y1, .int y2, .int y3, .int y4]) (rest := []) ⟨hx, hb, hml, hown, hG⟩ (k_m_counted l D a2 kI kZ G y1 y2 y3 y4 ⟨by omega, hJR⟩ _) (cwV 4 hG (rl_gV wd_661 wd_662 wd_663 wd_19 wd_664) rfl rfl rfl (by decide +kernel) ⟨Nat.le_of_ble_eq_true rfl, Nat.le_of_ble_eq_true rfl⟩) ⟨hpre.1, (va_recv hK (rl_P.r hP) (ci := 5) (q0 := 0) rfl rfl), hpre.2⟩ rfl rfl hl.1 rfl (lv_room (Nat.le_of_ble_eq_true rfl)) d_w_law_726 ⟨lw_c hc (by decide), lw_s hs (by decide)⟩) (fun r3 F5 H locs h4 hP hD hS => ?_)
  obtain ⟨hRF5, h4⟩ := h4
  have hP : va_P D rl_cl ((rl_w a kI kZ F ++ rl_O kL q g) ++ rm_w a2 kI kZ F5) H := hP
  have hD : va_D (fun q : Nat => s.heap.size ≤ q) ((rl_w a kI kZ F ++ rl_O kL q g) ++ rm_w a2 kI kZ F5) := hD
  refine lv_pop hx hb d_w_law_729 rfl ?_
  refine lv_goto (tgt := 875) hx hb d_w_law_730 (by decide) ?_
  refine W.widen (k := c0 + 1) (n := s0 + 6) (by omega) (by omega) ?_
  exact kk F F5 g _ _ _ ⟨⟨by omega, hIR⟩, ⟨by omega, hRF5⟩, ⟨by omega, by omega, by omega⟩, hP, hD, hS, lv_sub hl [0, 1, 2, 3, 4] rfl⟩
set_option maxHeartbeats 4000000 in
set_option maxRecDepth 100000 in
theorem law_13 {p : Program} {l : Launch} {e : Env} {s : State} {m : MethodId} {below : List Frame} {meth : Method} {c : Code} {b L : Nat} {xs : Nat → Int32} {D : va_G} {a a2 : Nat → Nat} {kI kZ kL : ClassId} {q : Nat} {i : Int32} {F G : Nat → Nat → Int32} {g : Nat → Int64} {H : Heap} {locs : List Loc} {ls : Array Slot} {c0 s0 : Nat} (B0 : lw_B p l s m meth c b L xs D kI kZ kL) (hi0 : 0 ≤ i.toInt) (hi6 : i.toInt + 6 ≤ L) (hc : c0 + 1 ≤ 1087) (hs : s0 + 6 ≤ 18181) (J : lw_J s b D a a2 kI kZ kL q i F G g H locs ls) (kk : lw_K p l e s m below meth c b D a a2 kI kZ kL q i (c0 + 1) (s0 + 6)) : W p l e room_1 s m #[Value.ref b] below meth c H locs c0 s0 (lw_Z below #[Value.ref b] s) (F0 m 733 ls []) := by
  obtain ⟨hx, hb, hr, hml, hown, hG, hlocks, hX, hbl, hK, hZ, hC, hN, hlt, hL⟩ := B0
  obtain ⟨⟨hIc, hIR⟩, ⟨hJc, hJR⟩, ⟨hE0, hE1, hE2⟩, hP, hD, hS, hl⟩ := J
  have hA : ∀ q : Nat, s.heap.size ≤ q → (fun q : Nat => s.heap.size ≤ q) q := fun _ h => h
  have hbA : ¬ (fun q : Nat => s.heap.size ≤ q) b := Nat.not_le.mpr hbl
  have hK2 := hK.sub (tys' := rl_tys kI kZ) [0, 1] rfl
  have hi11 : (i + 1).toInt = i.toInt + 1 := rl_addk (by decide) (by omega) (by omega)
  have hi12 : (i + 2).toInt = i.toInt + 2 := rl_addk (by decide) (by omega) (by omega)
  have hi13 : (i + 3).toInt = i.toInt + 3 := rl_addk (by decide) (by omega) (by omega)
  have hi14 : (i + 4).toInt = i.toInt + 4 := rl_addk (by decide) (by omega) (by omega)
  have hi15 : (i + 5).toInt = i.toInt + 5 := rl_addk (by decide) (by omega) (by omega)
  obtain ⟨y1, ey1⟩ : ∃ y, y = xs (i + 1).toNatClampNeg := ⟨_, rfl⟩
  obtain ⟨y2, ey2⟩ : ∃ y, y = xs (i + 2).toNatClampNeg := ⟨_, rfl⟩
  obtain ⟨y3, ey3⟩ : ∃ y, y = xs (i + 3).toNatClampNeg := ⟨_, rfl⟩
  obtain ⟨y4, ey4⟩ : ∃ y, y = xs (i + 4).toNatClampNeg := ⟨_, rfl⟩
  obtain ⟨y5, ey5⟩ : ∃ y, y = xs (i + 5).toNatClampNeg := ⟨_, rfl⟩
  refine lv_aload_n hx hb d_w_law_733 rfl (lv_at hl 3 rfl) ?_
  refine lv_aload_n hx hb d_w_law_734 rfl (lv_at hl 4 rfl) ?_
  refine lv_iload hx hb d_w_law_735 (lv_at hl 0 rfl) ?_
  refine lv_iconst (v := 1) hx hb d_w_law_737 (by decide) ?_
  refine lv_iadd hx hb d_w_law_738 ?_
  refine va_sld hx hb hX hbl hbA hS (rl_in (n := L) (by omega) (by omega)) d_w_law_739 ?_
  rw [← ey1]
  refine lv_aload_n hx hb d_w_law_740 rfl (lv_at hl 4 rfl) ?_
  refine lv_iload hx hb d_w_law_741 (lv_at hl 0 rfl) ?_
  refine lv_iconst (v := 2) hx hb d_w_law_743 (by decide) ?_
  refine lv_iadd hx hb d_w_law_744 ?_
  refine va_sld hx hb hX hbl hbA hS (rl_in (n := L) (by omega) (by omega)) d_w_law_745 ?_
  rw [← ey2]
  refine lv_aload_n hx hb d_w_law_746 rfl (lv_at hl 1 rfl) ?_
  have hh9 : ∀ (q : Nat) (cell : Cell), s.heap[q]? = some cell → H[q]? = some cell := fun q cell h => by rw [hS.2.1 q (Array.getElem?_eq_some_iff.mp h).1 (Nat.not_le.mpr (Array.getElem?_eq_some_iff.mp h).1)]; exact h
  refine rl_calli (w' := fun g' : Nat → Int64 => rl_w a kI kZ F ++ rl_O kL q g') hP hD hS hA (rl_runH (n := 4) (As := [.ref (a 0), .int y1, .int y2, .ref q]) (rest := []) ⟨hx, hb, hml, hown, hG⟩ (k_w_request l D a kI kZ kL q F g y1 y2 ⟨by omega, hIR⟩ hlt _) (rl_gH wd_390 wd_391 wd_13 wd_392) rfl rfl rfl (by decide +kernel) ⟨Nat.le_of_ble_eq_true rfl, Nat.le_of_ble_eq_true rfl⟩ (rl_BH.pre (rl_P.l hP) hK (rl_D.l hD) hN hh9 hZ hC) rfl rfl hl.1 rfl (lv_room (Nat.le_of_ble_eq_true rfl)) d_w_law_747 ⟨lw_c hc (by decide), lw_s hs (by decide)⟩) (fun r1 g3 H locs h2 hP hD hS => ?_)
  have hP : va_P D rl_cl ((rl_w a kI kZ F ++ rl_O kL q g3) ++ rm_w a2 kI kZ G) H := hP
  have hD : va_D (fun q : Nat => s.heap.size ≤ q) ((rl_w a kI kZ F ++ rl_O kL q g3) ++ rm_w a2 kI kZ G) := hD
  refine lv_istore (lv' := [(5, .int r1), (4, .int i), (3, .ref q), (2, .ref (a2 0)), (1, .ref (a 0)), (0, .ref b)]) hx hb d_w_law_750 hl (by decide) rfl (fun ls hl => ?_)
  refine lv_aload_n hx hb d_w_law_752 rfl (lv_at hl 3 rfl) ?_
  refine lv_aload_n hx hb d_w_law_753 rfl (lv_at hl 5 rfl) ?_
  refine lv_iload hx hb d_w_law_754 (lv_at hl 1 rfl) ?_
  refine lv_iconst (v := 1) hx hb d_w_law_756 (by decide) ?_
  refine lv_iadd hx hb d_w_law_757 ?_
  refine va_sld hx hb hX hbl hbA hS (rl_in (n := L) (by omega) (by omega)) d_w_law_758 ?_
  rw [← ey1]
  refine lv_aload_n hx hb d_w_law_759 rfl (lv_at hl 5 rfl) ?_
  refine lv_iload hx hb d_w_law_760 (lv_at hl 1 rfl) ?_
  refine lv_iconst (v := 2) hx hb d_w_law_762 (by decide) ?_
  refine lv_iadd hx hb d_w_law_763 ?_
  refine va_sld hx hb hX hbl hbA hS (rl_in (n := L) (by omega) (by omega)) d_w_law_764 ?_
  rw [← ey2]
  have hpre := rl_B.pre (av := .ref (a2 0) :: [.int y1, .int y2]) rl_nw0 (rl_P.r hP) hK2 (rl_D.r hD) rl_N0
  refine rl_calliR hP hD hS hA (va_runV (As := [.int y1, .int y2]) (rest := []) ⟨hx, hb, hml, hown, hG⟩ (k_m_request l D a2 kI kZ G y1 y2 ⟨by omega, hJR⟩ _) (cwV 2 hG (rl_gV wd_665 wd_666 wd_667 wd_19 wd_668) rfl rfl rfl (by decide +kernel) ⟨Nat.le_of_ble_eq_true rfl, Nat.le_of_ble_eq_true rfl⟩) ⟨hpre.1, (va_recv hK (rl_P.r hP) (ci := 5) (q0 := 0) rfl rfl), hpre.2⟩ rfl rfl hl.1 rfl (lv_room (Nat.le_of_ble_eq_true rfl)) d_w_law_765 ⟨(by show c0 + 1 + 0 ≤ 1087; omega), (by show s0 + 6 + 0 ≤ 18181; omega)⟩) (fun r4 F6 H locs h5 hP hD hS => ?_)
  obtain ⟨hRF6, h5⟩ := h5
  have hP : va_P D rl_cl ((rl_w a kI kZ F ++ rl_O kL q g3) ++ rm_w a2 kI kZ F6) H := hP
  have hD : va_D (fun q : Nat => s.heap.size ≤ q) ((rl_w a kI kZ F ++ rl_O kL q g3) ++ rm_w a2 kI kZ F6) := hD
  refine lv_istore (lv' := [(6, .int r4), (5, .int r1), (4, .int i), (3, .ref q), (2, .ref (a2 0)), (1, .ref (a 0)), (0, .ref b)]) hx hb d_w_law_768 hl (by decide) rfl (fun ls hl => ?_)
  refine lv_goto (tgt := 875) hx hb d_w_law_770 (by decide) ?_
  refine W.widen (k := c0 + 1) (n := s0 + 6) (by omega) (by omega) ?_
  exact kk F F6 g3 _ _ _ ⟨⟨by omega, hIR⟩, ⟨by omega, hRF6⟩, ⟨by omega, by omega, by omega⟩, hP, hD, hS, lv_sub hl [2, 3, 4, 5, 6] rfl⟩
set_option maxHeartbeats 4000000 in
set_option maxRecDepth 100000 in
theorem law_14 {p : Program} {l : Launch} {e : Env} {s : State} {m : MethodId} {below : List Frame} {meth : Method} {c : Code} {b L : Nat} {xs : Nat → Int32} {D : va_G} {a a2 : Nat → Nat} {kI kZ kL : ClassId} {q : Nat} {i : Int32} {F G : Nat → Nat → Int32} {g : Nat → Int64} {H : Heap} {locs : List Loc} {ls : Array Slot} {c0 s0 : Nat} (B0 : lw_B p l s m meth c b L xs D kI kZ kL) (hi0 : 0 ≤ i.toInt) (hi6 : i.toInt + 6 ≤ L) (hc : c0 + 1 ≤ 1087) (hs : s0 + 6 ≤ 18181) (J : lw_J s b D a a2 kI kZ kL q i F G g H locs ls) (kk : lw_K p l e s m below meth c b D a a2 kI kZ kL q i (c0 + 1) (s0 + 6)) : W p l e room_1 s m #[Value.ref b] below meth c H locs c0 s0 (lw_Z below #[Value.ref b] s) (F0 m 773 ls []) := by
  obtain ⟨hx, hb, hr, hml, hown, hG, hlocks, hX, hbl, hK, hZ, hC, hN, hlt, hL⟩ := B0
  obtain ⟨⟨hIc, hIR⟩, ⟨hJc, hJR⟩, ⟨hE0, hE1, hE2⟩, hP, hD, hS, hl⟩ := J
  have hA : ∀ q : Nat, s.heap.size ≤ q → (fun q : Nat => s.heap.size ≤ q) q := fun _ h => h
  have hbA : ¬ (fun q : Nat => s.heap.size ≤ q) b := Nat.not_le.mpr hbl
  have hK2 := hK.sub (tys' := rl_tys kI kZ) [0, 1] rfl
  have hi11 : (i + 1).toInt = i.toInt + 1 := rl_addk (by decide) (by omega) (by omega)
  have hi12 : (i + 2).toInt = i.toInt + 2 := rl_addk (by decide) (by omega) (by omega)
  have hi13 : (i + 3).toInt = i.toInt + 3 := rl_addk (by decide) (by omega) (by omega)
  have hi14 : (i + 4).toInt = i.toInt + 4 := rl_addk (by decide) (by omega) (by omega)
  have hi15 : (i + 5).toInt = i.toInt + 5 := rl_addk (by decide) (by omega) (by omega)
  obtain ⟨y1, ey1⟩ : ∃ y, y = xs (i + 1).toNatClampNeg := ⟨_, rfl⟩
  obtain ⟨y2, ey2⟩ : ∃ y, y = xs (i + 2).toNatClampNeg := ⟨_, rfl⟩
  obtain ⟨y3, ey3⟩ : ∃ y, y = xs (i + 3).toNatClampNeg := ⟨_, rfl⟩
  obtain ⟨y4, ey4⟩ : ∃ y, y = xs (i + 4).toNatClampNeg := ⟨_, rfl⟩
  obtain ⟨y5, ey5⟩ : ∃ y, y = xs (i + 5).toNatClampNeg := ⟨_, rfl⟩
  refine lv_aload_n hx hb d_w_law_773 rfl (lv_at hl 3 rfl) ?_
  refine lv_aload_n hx hb d_w_law_774 rfl (lv_at hl 4 rfl) ?_
  refine lv_iload hx hb d_w_law_775 (lv_at hl 0 rfl) ?_
  refine lv_iconst (v := 1) hx hb d_w_law_777 (by decide) ?_
  refine lv_iadd hx hb d_w_law_778 ?_
  refine va_sld hx hb hX hbl hbA hS (rl_in (n := L) (by omega) (by omega)) d_w_law_779 ?_
  rw [← ey1]
  have hpre := rl_BR.pre (av := .ref (a 0) :: [.int y1]) rl_nw_ok (rl_P.l (rl_P.l hP)) hK2 hN
  refine rl_callr hS (va_runV (As := [.int y1]) (rest := []) ⟨hx, hb, hml, hown, hG⟩ (k_x_left l D a kI kZ F y1 ⟨by omega, hIR⟩ _) (cwV 1 hG (rl_gV wd_362 wd_363 wd_364 wd_14 wd_365) rfl rfl rfl (by decide +kernel) ⟨Nat.le_of_ble_eq_true rfl, Nat.le_of_ble_eq_true rfl⟩) ⟨hpre.1, (va_recv hK (rl_P.l (rl_P.l hP)) (ci := 0) (q0 := 0) rfl rfl), hpre.2⟩ rfl rfl hl.1 rfl (lv_room (Nat.le_of_ble_eq_true rfl)) d_w_law_780 ⟨lw_c hc (by decide), lw_s hs (by decide)⟩) (fun r1 locs h2 hS => ?_)
  refine lv_pop hx hb d_w_law_783 rfl ?_
  refine lv_aload_n hx hb d_w_law_784 rfl (lv_at hl 2 rfl) ?_
  refine lv_aload_n hx hb d_w_law_785 rfl (lv_at hl 4 rfl) ?_
  refine lv_iload hx hb d_w_law_786 (lv_at hl 0 rfl) ?_
  refine lv_iconst (v := 1) hx hb d_w_law_788 (by decide) ?_
  refine lv_iadd hx hb d_w_law_789 ?_
  refine va_sld hx hb hX hbl hbA hS (rl_in (n := L) (by omega) (by omega)) d_w_law_790 ?_
  rw [← ey1]
  have hpre := rl_B.pre (av := .ref (a2 0) :: [.int y1]) rl_nw0 (rl_P.r hP) hK2 (rl_D.r hD) rl_N0
  refine rl_calliR hP hD hS hA (va_runV (As := [.int y1]) (rest := []) ⟨hx, hb, hml, hown, hG⟩ (k_m_left l D a2 kI kZ G y1 ⟨by omega, hJR⟩ _) (cwV 1 hG (rl_gV wd_673 wd_674 wd_675 wd_19 wd_676) rfl rfl rfl (by decide +kernel) ⟨Nat.le_of_ble_eq_true rfl, Nat.le_of_ble_eq_true rfl⟩) ⟨hpre.1, (va_recv hK (rl_P.r hP) (ci := 5) (q0 := 0) rfl rfl), hpre.2⟩ rfl rfl hl.1 rfl (lv_room (Nat.le_of_ble_eq_true rfl)) d_w_law_791 ⟨lw_c hc (by decide), lw_s hs (by decide)⟩) (fun r3 F5 H locs h4 hP hD hS => ?_)
  obtain ⟨hRF5, h4⟩ := h4
  have hP : va_P D rl_cl ((rl_w a kI kZ F ++ rl_O kL q g) ++ rm_w a2 kI kZ F5) H := hP
  have hD : va_D (fun q : Nat => s.heap.size ≤ q) ((rl_w a kI kZ F ++ rl_O kL q g) ++ rm_w a2 kI kZ F5) := hD
  refine lv_pop hx hb d_w_law_794 rfl ?_
  refine lv_goto (tgt := 875) hx hb d_w_law_795 (by decide) ?_
  refine W.widen (k := c0 + 1) (n := s0 + 6) (by omega) (by omega) ?_
  exact kk F F5 g _ _ _ ⟨⟨by omega, hIR⟩, ⟨by omega, hRF5⟩, ⟨by omega, by omega, by omega⟩, hP, hD, hS, lv_sub hl [0, 1, 2, 3, 4] rfl⟩
set_option maxHeartbeats 4000000 in
set_option maxRecDepth 100000 in
theorem law_15 {p : Program} {l : Launch} {e : Env} {s : State} {m : MethodId} {below : List Frame} {meth : Method} {c : Code} {b L : Nat} {xs : Nat → Int32} {D : va_G} {a a2 : Nat → Nat} {kI kZ kL : ClassId} {q : Nat} {i : Int32} {F G : Nat → Nat → Int32} {g : Nat → Int64} {H : Heap} {locs : List Loc} {ls : Array Slot} {c0 s0 : Nat} (B0 : lw_B p l s m meth c b L xs D kI kZ kL) (hi0 : 0 ≤ i.toInt) (hi6 : i.toInt + 6 ≤ L) (hc : c0 + 1 ≤ 1087) (hs : s0 + 6 ≤ 18181) (J : lw_J s b D a a2 kI kZ kL q i F G g H locs ls) (kk : lw_K p l e s m below meth c b D a a2 kI kZ kL q i (c0 + 1) (s0 + 6)) : W p l e room_1 s m #[Value.ref b] below meth c H locs c0 s0 (lw_Z below #[Value.ref b] s) (F0 m 798 ls []) := by
  obtain ⟨hx, hb, hr, hml, hown, hG, hlocks, hX, hbl, hK, hZ, hC, hN, hlt, hL⟩ := B0
  obtain ⟨⟨hIc, hIR⟩, ⟨hJc, hJR⟩, ⟨hE0, hE1, hE2⟩, hP, hD, hS, hl⟩ := J
  have hA : ∀ q : Nat, s.heap.size ≤ q → (fun q : Nat => s.heap.size ≤ q) q := fun _ h => h
  have hbA : ¬ (fun q : Nat => s.heap.size ≤ q) b := Nat.not_le.mpr hbl
  have hK2 := hK.sub (tys' := rl_tys kI kZ) [0, 1] rfl
  have hi11 : (i + 1).toInt = i.toInt + 1 := rl_addk (by decide) (by omega) (by omega)
  have hi12 : (i + 2).toInt = i.toInt + 2 := rl_addk (by decide) (by omega) (by omega)
  have hi13 : (i + 3).toInt = i.toInt + 3 := rl_addk (by decide) (by omega) (by omega)
  have hi14 : (i + 4).toInt = i.toInt + 4 := rl_addk (by decide) (by omega) (by omega)
  have hi15 : (i + 5).toInt = i.toInt + 5 := rl_addk (by decide) (by omega) (by omega)
  obtain ⟨y1, ey1⟩ : ∃ y, y = xs (i + 1).toNatClampNeg := ⟨_, rfl⟩
  obtain ⟨y2, ey2⟩ : ∃ y, y = xs (i + 2).toNatClampNeg := ⟨_, rfl⟩
  obtain ⟨y3, ey3⟩ : ∃ y, y = xs (i + 3).toNatClampNeg := ⟨_, rfl⟩
  obtain ⟨y4, ey4⟩ : ∃ y, y = xs (i + 4).toNatClampNeg := ⟨_, rfl⟩
  obtain ⟨y5, ey5⟩ : ∃ y, y = xs (i + 5).toNatClampNeg := ⟨_, rfl⟩
  refine lv_aload_n hx hb d_w_law_798 rfl (lv_at hl 3 rfl) ?_
  refine lv_aload_n hx hb d_w_law_799 rfl (lv_at hl 4 rfl) ?_
  refine lv_iload hx hb d_w_law_800 (lv_at hl 0 rfl) ?_
  refine lv_iconst (v := 1) hx hb d_w_law_802 (by decide) ?_
  refine lv_iadd hx hb d_w_law_803 ?_
  refine va_sld hx hb hX hbl hbA hS (rl_in (n := L) (by omega) (by omega)) d_w_law_804 ?_
  rw [← ey1]
  refine lv_aload_n hx hb d_w_law_805 rfl (lv_at hl 4 rfl) ?_
  refine lv_iload hx hb d_w_law_806 (lv_at hl 0 rfl) ?_
  refine lv_iconst (v := 2) hx hb d_w_law_808 (by decide) ?_
  refine lv_iadd hx hb d_w_law_809 ?_
  refine va_sld hx hb hX hbl hbA hS (rl_in (n := L) (by omega) (by omega)) d_w_law_810 ?_
  rw [← ey2]
  have hpre := rl_BR.pre (av := .ref (a 0) :: [.int y1, .int y2]) rl_nw_ok (rl_P.l (rl_P.l hP)) hK2 hN
  refine rl_callr hS (va_runV (As := [.int y1, .int y2]) (rest := []) ⟨hx, hb, hml, hown, hG⟩ (k_x_statistics l D a kI kZ F y1 y2 ⟨by omega, hIR⟩ _) (cwV 2 hG (rl_gV wd_370 wd_371 wd_372 wd_14 wd_373) rfl rfl rfl (by decide +kernel) ⟨Nat.le_of_ble_eq_true rfl, Nat.le_of_ble_eq_true rfl⟩) ⟨hpre.1, (va_recv hK (rl_P.l (rl_P.l hP)) (ci := 0) (q0 := 0) rfl rfl), hpre.2⟩ rfl rfl hl.1 rfl (lv_room (Nat.le_of_ble_eq_true rfl)) d_w_law_811 ⟨lw_c hc (by decide), lw_s hs (by decide)⟩) (fun r1 locs h2 hS => ?_)
  refine lv_pop hx hb d_w_law_814 rfl ?_
  refine lv_aload_n hx hb d_w_law_815 rfl (lv_at hl 2 rfl) ?_
  refine lv_aload_n hx hb d_w_law_816 rfl (lv_at hl 4 rfl) ?_
  refine lv_iload hx hb d_w_law_817 (lv_at hl 0 rfl) ?_
  refine lv_iconst (v := 1) hx hb d_w_law_819 (by decide) ?_
  refine lv_iadd hx hb d_w_law_820 ?_
  refine va_sld hx hb hX hbl hbA hS (rl_in (n := L) (by omega) (by omega)) d_w_law_821 ?_
  rw [← ey1]
  refine lv_aload_n hx hb d_w_law_822 rfl (lv_at hl 4 rfl) ?_
  refine lv_iload hx hb d_w_law_823 (lv_at hl 0 rfl) ?_
  refine lv_iconst (v := 2) hx hb d_w_law_825 (by decide) ?_
  refine lv_iadd hx hb d_w_law_826 ?_
  refine va_sld hx hb hX hbl hbA hS (rl_in (n := L) (by omega) (by omega)) d_w_law_827 ?_
  rw [← ey2]
  have hpre := rl_B.pre (av := .ref (a2 0) :: [.int y1, .int y2]) rl_nw0 (rl_P.r hP) hK2 (rl_D.r hD) rl_N0
  refine rl_calliR hP hD hS hA (va_runV (As := [.int y1, .int y2]) (rest := []) ⟨hx, hb, hml, hown, hG⟩ (k_m_statistics l D a2 kI kZ G y1 y2 ⟨by omega, hJR⟩ _) (cwV 2 hG (rl_gV wd_677 wd_678 wd_679 wd_19 wd_680) rfl rfl rfl (by decide +kernel) ⟨Nat.le_of_ble_eq_true rfl, Nat.le_of_ble_eq_true rfl⟩) ⟨hpre.1, (va_recv hK (rl_P.r hP) (ci := 5) (q0 := 0) rfl rfl), hpre.2⟩ rfl rfl hl.1 rfl (lv_room (Nat.le_of_ble_eq_true rfl)) d_w_law_828 ⟨lw_c hc (by decide), lw_s hs (by decide)⟩) (fun r3 F5 H locs h4 hP hD hS => ?_)
  obtain ⟨hRF5, h4⟩ := h4
  have hP : va_P D rl_cl ((rl_w a kI kZ F ++ rl_O kL q g) ++ rm_w a2 kI kZ F5) H := hP
  have hD : va_D (fun q : Nat => s.heap.size ≤ q) ((rl_w a kI kZ F ++ rl_O kL q g) ++ rm_w a2 kI kZ F5) := hD
  refine lv_pop hx hb d_w_law_831 rfl ?_
  refine lv_goto (tgt := 875) hx hb d_w_law_832 (by decide) ?_
  refine W.widen (k := c0 + 1) (n := s0 + 6) (by omega) (by omega) ?_
  exact kk F F5 g _ _ _ ⟨⟨by omega, hIR⟩, ⟨by omega, hRF5⟩, ⟨by omega, by omega, by omega⟩, hP, hD, hS, lv_sub hl [0, 1, 2, 3, 4] rfl⟩
set_option maxHeartbeats 4000000 in
set_option maxRecDepth 100000 in
theorem law_16 {p : Program} {l : Launch} {e : Env} {s : State} {m : MethodId} {below : List Frame} {meth : Method} {c : Code} {b L : Nat} {xs : Nat → Int32} {D : va_G} {a a2 : Nat → Nat} {kI kZ kL : ClassId} {q : Nat} {i : Int32} {F G : Nat → Nat → Int32} {g : Nat → Int64} {H : Heap} {locs : List Loc} {ls : Array Slot} {c0 s0 : Nat} (B0 : lw_B p l s m meth c b L xs D kI kZ kL) (hi0 : 0 ≤ i.toInt) (hi6 : i.toInt + 6 ≤ L) (hc : c0 + 1 ≤ 1087) (hs : s0 + 6 ≤ 18181) (J : lw_J s b D a a2 kI kZ kL q i F G g H locs ls) (kk : lw_K p l e s m below meth c b D a a2 kI kZ kL q i (c0 + 1) (s0 + 6)) : W p l e room_1 s m #[Value.ref b] below meth c H locs c0 s0 (lw_Z below #[Value.ref b] s) (F0 m 835 ls []) := by
  obtain ⟨hx, hb, hr, hml, hown, hG, hlocks, hX, hbl, hK, hZ, hC, hN, hlt, hL⟩ := B0
  obtain ⟨⟨hIc, hIR⟩, ⟨hJc, hJR⟩, ⟨hE0, hE1, hE2⟩, hP, hD, hS, hl⟩ := J
  have hA : ∀ q : Nat, s.heap.size ≤ q → (fun q : Nat => s.heap.size ≤ q) q := fun _ h => h
  have hbA : ¬ (fun q : Nat => s.heap.size ≤ q) b := Nat.not_le.mpr hbl
  have hK2 := hK.sub (tys' := rl_tys kI kZ) [0, 1] rfl
  have hi11 : (i + 1).toInt = i.toInt + 1 := rl_addk (by decide) (by omega) (by omega)
  have hi12 : (i + 2).toInt = i.toInt + 2 := rl_addk (by decide) (by omega) (by omega)
  have hi13 : (i + 3).toInt = i.toInt + 3 := rl_addk (by decide) (by omega) (by omega)
  have hi14 : (i + 4).toInt = i.toInt + 4 := rl_addk (by decide) (by omega) (by omega)
  have hi15 : (i + 5).toInt = i.toInt + 5 := rl_addk (by decide) (by omega) (by omega)
  obtain ⟨y1, ey1⟩ : ∃ y, y = xs (i + 1).toNatClampNeg := ⟨_, rfl⟩
  obtain ⟨y2, ey2⟩ : ∃ y, y = xs (i + 2).toNatClampNeg := ⟨_, rfl⟩
  obtain ⟨y3, ey3⟩ : ∃ y, y = xs (i + 3).toNatClampNeg := ⟨_, rfl⟩
  obtain ⟨y4, ey4⟩ : ∃ y, y = xs (i + 4).toNatClampNeg := ⟨_, rfl⟩
  obtain ⟨y5, ey5⟩ : ∃ y, y = xs (i + 5).toNatClampNeg := ⟨_, rfl⟩
  refine lv_aload_n hx hb d_w_law_835 rfl (lv_at hl 3 rfl) ?_
  refine lv_aload_n hx hb d_w_law_836 rfl (lv_at hl 4 rfl) ?_
  refine lv_iload hx hb d_w_law_837 (lv_at hl 0 rfl) ?_
  refine lv_iconst (v := 1) hx hb d_w_law_839 (by decide) ?_
  refine lv_iadd hx hb d_w_law_840 ?_
  refine va_sld hx hb hX hbl hbA hS (rl_in (n := L) (by omega) (by omega)) d_w_law_841 ?_
  rw [← ey1]
  refine lv_aload_n hx hb d_w_law_842 rfl (lv_at hl 4 rfl) ?_
  refine lv_iload hx hb d_w_law_843 (lv_at hl 0 rfl) ?_
  refine lv_iconst (v := 2) hx hb d_w_law_845 (by decide) ?_
  refine lv_iadd hx hb d_w_law_846 ?_
  refine va_sld hx hb hX hbl hbA hS (rl_in (n := L) (by omega) (by omega)) d_w_law_847 ?_
  rw [← ey2]
  refine lv_aload_n hx hb d_w_law_848 rfl (lv_at hl 1 rfl) ?_
  have hh9 : ∀ (q : Nat) (cell : Cell), s.heap[q]? = some cell → H[q]? = some cell := fun q cell h => by rw [hS.2.1 q (Array.getElem?_eq_some_iff.mp h).1 (Nat.not_le.mpr (Array.getElem?_eq_some_iff.mp h).1)]; exact h
  refine rl_calli (w' := fun g' : Nat → Int64 => rl_w a kI kZ F ++ rl_O kL q g') hP hD hS hA (rl_runH (n := 4) (As := [.ref (a 0), .int y1, .int y2, .ref q]) (rest := []) ⟨hx, hb, hml, hown, hG⟩ (k_w_past l D a kI kZ kL q F g y1 y2 ⟨by omega, hIR⟩ hlt _) (rl_gH wd_465 wd_466 wd_13 wd_467) rfl rfl rfl (by decide +kernel) ⟨Nat.le_of_ble_eq_true rfl, Nat.le_of_ble_eq_true rfl⟩ (rl_BH.pre (rl_P.l hP) hK (rl_D.l hD) hN hh9 hZ hC) rfl rfl hl.1 rfl (lv_room (Nat.le_of_ble_eq_true rfl)) d_w_law_849 ⟨lw_c hc (by decide), lw_s hs (by decide)⟩) (fun r1 g3 H locs h2 hP hD hS => ?_)
  have hP : va_P D rl_cl ((rl_w a kI kZ F ++ rl_O kL q g3) ++ rm_w a2 kI kZ G) H := hP
  have hD : va_D (fun q : Nat => s.heap.size ≤ q) ((rl_w a kI kZ F ++ rl_O kL q g3) ++ rm_w a2 kI kZ G) := hD
  refine lv_istore (lv' := [(5, .int r1), (4, .int i), (3, .ref q), (2, .ref (a2 0)), (1, .ref (a 0)), (0, .ref b)]) hx hb d_w_law_852 hl (by decide) rfl (fun ls hl => ?_)
  refine lv_aload_n hx hb d_w_law_854 rfl (lv_at hl 3 rfl) ?_
  refine lv_aload_n hx hb d_w_law_855 rfl (lv_at hl 5 rfl) ?_
  refine lv_iload hx hb d_w_law_856 (lv_at hl 1 rfl) ?_
  refine lv_iconst (v := 1) hx hb d_w_law_858 (by decide) ?_
  refine lv_iadd hx hb d_w_law_859 ?_
  refine va_sld hx hb hX hbl hbA hS (rl_in (n := L) (by omega) (by omega)) d_w_law_860 ?_
  rw [← ey1]
  refine lv_aload_n hx hb d_w_law_861 rfl (lv_at hl 5 rfl) ?_
  refine lv_iload hx hb d_w_law_862 (lv_at hl 1 rfl) ?_
  refine lv_iconst (v := 2) hx hb d_w_law_864 (by decide) ?_
  refine lv_iadd hx hb d_w_law_865 ?_
  refine va_sld hx hb hX hbl hbA hS (rl_in (n := L) (by omega) (by omega)) d_w_law_866 ?_
  rw [← ey2]
  have hpre := rl_B.pre (av := .ref (a2 0) :: [.int y1, .int y2]) rl_nw0 (rl_P.r hP) hK2 (rl_D.r hD) rl_N0
  refine rl_calliR hP hD hS hA (va_runV (As := [.int y1, .int y2]) (rest := []) ⟨hx, hb, hml, hown, hG⟩ (k_m_past l D a2 kI kZ G y1 y2 ⟨by omega, hJR⟩ _) (cwV 2 hG (rl_gV wd_681 wd_682 wd_683 wd_19 wd_684) rfl rfl rfl (by decide +kernel) ⟨Nat.le_of_ble_eq_true rfl, Nat.le_of_ble_eq_true rfl⟩) ⟨hpre.1, (va_recv hK (rl_P.r hP) (ci := 5) (q0 := 0) rfl rfl), hpre.2⟩ rfl rfl hl.1 rfl (lv_room (Nat.le_of_ble_eq_true rfl)) d_w_law_867 ⟨(by show c0 + 1 + 0 ≤ 1087; omega), (by show s0 + 6 + 0 ≤ 18181; omega)⟩) (fun r4 F6 H locs h5 hP hD hS => ?_)
  obtain ⟨hRF6, h5⟩ := h5
  have hP : va_P D rl_cl ((rl_w a kI kZ F ++ rl_O kL q g3) ++ rm_w a2 kI kZ F6) H := hP
  have hD : va_D (fun q : Nat => s.heap.size ≤ q) ((rl_w a kI kZ F ++ rl_O kL q g3) ++ rm_w a2 kI kZ F6) := hD
  refine lv_istore (lv' := [(6, .int r4), (5, .int r1), (4, .int i), (3, .ref q), (2, .ref (a2 0)), (1, .ref (a 0)), (0, .ref b)]) hx hb d_w_law_870 hl (by decide) rfl (fun ls hl => ?_)
  refine lv_goto (tgt := 875) hx hb d_w_law_872 (by decide) ?_
  refine W.widen (k := c0 + 1) (n := s0 + 6) (by omega) (by omega) ?_
  exact kk F F6 g3 _ _ _ ⟨⟨by omega, hIR⟩, ⟨by omega, hRF6⟩, ⟨by omega, by omega, by omega⟩, hP, hD, hS, lv_sub hl [2, 3, 4, 5, 6] rfl⟩
