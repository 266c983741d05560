set_option maxHeartbeats 4000000 in
set_option maxRecDepth 100000 in
theorem law_0 {p : Program} {l : Launch} {e : Env} {s : State} {m : MethodId} {below : List Frame} {meth : Method} {c : Code} {b : Nat} {xs : Nat → Int32} {D : va_G} {a a2 : Nat → Nat} {kI kZ kL : ClassId} {q : Nat} {H : Heap} {locs : List Loc} {ls : Array Slot} (C : lw_I p l s m meth c b xs D a a2 kI kZ kL q H locs ls) : W p l e room_1 s m #[Value.ref b] below meth c H locs 60 9971 (lw_Z below #[Value.ref b] s) (F0 m 124 ls []) := by
  obtain ⟨hx, hb, hr, hml, hown, hG, hlocks, hX, hbl, hK, hZ, hC, hlt, hP, hD, hS, hl⟩ := C
  have hA : ∀ q : Nat, s.heap.size ≤ q → (fun q : Nat => s.heap.size ≤ q) q := fun _ h => h
  have hbA : ¬ (fun q : Nat => s.heap.size ≤ q) b := Nat.not_le.mpr hbl
  have hK2 := hK.sub (tys' := rl_tys kI kZ) [0, 1] rfl
  refine lv_aload_n hx hb d_w_law_124 rfl (lv_at hl 3 rfl) ?_
  refine lv_aload_n hx hb d_w_law_125 rfl (lv_at hl 4 rfl) ?_
  refine lv_iload hx hb d_w_law_126 (lv_at hl 0 rfl) ?_
  refine lv_iconst (v := 1) hx hb d_w_law_128 (by decide) ?_
  refine lv_iadd hx hb d_w_law_129 ?_
  refine lv_topi (fun v1 ev1 => ?_)
  obtain rfl : v1 = 1 := ev1.trans (by decide)
  refine va_sld hx hb hX hbl hbA hS (rl_in (x := 1) (n := 6) (by decide) (by decide)) d_w_law_130 ?_
  have hpre := rl_B.pre (av := .ref (a 0) :: [.int (xs (1 : Int32).toNatClampNeg)]) rl_nw0 (rl_P.l (rl_P.l hP)) hK2 (rl_D.l (rl_D.l hD)) rl_N0
  refine rl_calliL hP hD hS hA (va_runV (As := [.int (xs (1 : Int32).toNatClampNeg)]) (rest := []) ⟨hx, hb, hml, hown, hG⟩ (k_x_title l D a kI kZ (xs (1 : Int32).toNatClampNeg) _) (cwV 1 hG (rl_gV wd_193 wd_194 wd_195 wd_14 wd_196) rfl rfl rfl (by decide +kernel) ⟨Nat.le_of_ble_eq_true rfl, Nat.le_of_ble_eq_true rfl⟩) ⟨hpre.1, (va_recv hK (rl_P.l (rl_P.l hP)) (ci := 0) (q0 := 0) rfl rfl), hpre.2⟩ rfl rfl hl.1 rfl (lv_room (Nat.le_of_ble_eq_true rfl)) d_w_law_131 ⟨Nat.le_of_ble_eq_true rfl, Nat.le_of_ble_eq_true rfl⟩) (fun r2 F4 H locs h3 hP hD hS => ?_)
  have hP : va_P D rl_cl ((rl_w a kI kZ F4 ++ rl_O kL q (fun _ => 0)) ++ rm_w a2 kI kZ rm_F0) H := hP
  have hD : va_D (fun q : Nat => s.heap.size ≤ q) ((rl_w a kI kZ F4 ++ rl_O kL q (fun _ => 0)) ++ rm_w a2 kI kZ rm_F0) := hD
  refine lv_aload_n hx hb d_w_law_134 rfl (lv_at hl 2 rfl) ?_
  refine lv_aload_n hx hb d_w_law_135 rfl (lv_at hl 4 rfl) ?_
  refine lv_iload hx hb d_w_law_136 (lv_at hl 0 rfl) ?_
  refine lv_iconst (v := 1) hx hb d_w_law_138 (by decide) ?_
  refine lv_iadd hx hb d_w_law_139 ?_
  refine lv_topi (fun v5 ev5 => ?_)
  obtain rfl : v5 = 1 := ev5.trans (by decide)
  refine va_sld hx hb hX hbl hbA hS (rl_in (x := 1) (n := 6) (by decide) (by decide)) d_w_law_140 ?_
  have hpre := rl_B.pre (av := .ref (a2 0) :: [.int (xs (1 : Int32).toNatClampNeg)]) rl_nw0 (rl_P.r hP) hK2 (rl_D.r hD) rl_N0
  refine rl_calliR hP hD hS hA (va_runV (As := [.int (xs (1 : Int32).toNatClampNeg)]) (rest := [.int r2]) ⟨hx, hb, hml, hown, hG⟩ (k_m_title l D a2 kI kZ (xs (1 : Int32).toNatClampNeg) _) (cwV 1 hG (rl_gV wd_587 wd_588 wd_589 wd_19 wd_590) rfl rfl rfl (by decide +kernel) ⟨Nat.le_of_ble_eq_true rfl, Nat.le_of_ble_eq_true rfl⟩) ⟨hpre.1, (va_recv hK (rl_P.r hP) (ci := 5) (q0 := 0) rfl rfl), hpre.2⟩ rfl rfl hl.1 rfl (lv_room (Nat.le_of_ble_eq_true rfl)) d_w_law_141 ⟨Nat.le_of_ble_eq_true rfl, Nat.le_of_ble_eq_true rfl⟩) (fun r6 F8 H locs h7 hP hD hS => ?_)
  have hP : va_P D rl_cl ((rl_w a kI kZ F4 ++ rl_O kL q (fun _ => 0)) ++ rm_w a2 kI kZ F8) H := hP
  have hD : va_D (fun q : Nat => s.heap.size ≤ q) ((rl_w a kI kZ F4 ++ rl_O kL q (fun _ => 0)) ++ rm_w a2 kI kZ F8) := hD
  refine lv_icmp_eq (tgt := 931) hx hb d_w_law_144 (by decide) (fun _ => ?_) (fun c9 => absurd (Int32.toInt_inj.mp (by omega)) c9)
  exact law_end hx hb hr hlocks hX hbl hS (Nat.le_of_ble_eq_true rfl) (Nat.le_of_ble_eq_true rfl) (lv_sub hl [0, 4] rfl)
set_option maxHeartbeats 4000000 in
set_option maxRecDepth 100000 in
theorem law_1 {p : Program} {l : Launch} {e : Env} {s : State} {m : MethodId} {below : List Frame} {meth : Method} {c : Code} {b : Nat} {xs : Nat → Int32} {D : va_G} {a a2 : Nat → Nat} {kI kZ kL : ClassId} {q : Nat} {H : Heap} {locs : List Loc} {ls : Array Slot} (C : lw_I p l s m meth c b xs D a a2 kI kZ kL q H locs ls) : W p l e room_1 s m #[Value.ref b] below meth c H locs 60 9971 (lw_Z below #[Value.ref b] s) (F0 m 149 ls []) := by
  obtain ⟨hx, hb, hr, hml, hown, hG, hlocks, hX, hbl, hK, hZ, hC, hlt, hP, hD, hS, hl⟩ := C
  have hA : ∀ q : Nat, s.heap.size ≤ q → (fun q : Nat => s.heap.size ≤ q) q := fun _ h => h
  have hbA : ¬ (fun q : Nat => s.heap.size ≤ q) b := Nat.not_le.mpr hbl
  have hK2 := hK.sub (tys' := rl_tys kI kZ) [0, 1] rfl
  refine lv_aload_n hx hb d_w_law_149 rfl (lv_at hl 3 rfl) ?_
  refine lv_aload_n hx hb d_w_law_150 rfl (lv_at hl 4 rfl) ?_
  refine lv_iload hx hb d_w_law_151 (lv_at hl 0 rfl) ?_
  refine lv_iconst (v := 1) hx hb d_w_law_153 (by decide) ?_
  refine lv_iadd hx hb d_w_law_154 ?_
  refine lv_topi (fun v1 ev1 => ?_)
  obtain rfl : v1 = 1 := ev1.trans (by decide)
  refine va_sld hx hb hX hbl hbA hS (rl_in (x := 1) (n := 6) (by decide) (by decide)) d_w_law_155 ?_
  refine lv_aload_n hx hb d_w_law_156 rfl (lv_at hl 4 rfl) ?_
  refine lv_iload hx hb d_w_law_157 (lv_at hl 0 rfl) ?_
  refine lv_iconst (v := 2) hx hb d_w_law_159 (by decide) ?_
  refine lv_iadd hx hb d_w_law_160 ?_
  refine lv_topi (fun v2 ev2 => ?_)
  obtain rfl : v2 = 2 := ev2.trans (by decide)
  refine va_sld hx hb hX hbl hbA hS (rl_in (x := 2) (n := 6) (by decide) (by decide)) d_w_law_161 ?_
  refine lv_if_eq (tgt := 169) hx hb d_w_law_162 (by decide) (fun _ => ?_) (fun _ => ?_)
  · refine lv_iconst (v := 0) hx hb d_w_law_169 (by decide) ?_
    have hpre := rl_BR.pre (av := .ref (a 0) :: [.int (xs (1 : Int32).toNatClampNeg), .int 0]) rl_nw0 (rl_P.l (rl_P.l hP)) hK2 rl_N0
    refine rl_callr hS (va_runV (As := [.int (xs (1 : Int32).toNatClampNeg), .int 0]) (rest := []) ⟨hx, hb, hml, hown, hG⟩ (k_x_open l D a kI kZ (xs (1 : Int32).toNatClampNeg) 0 _) (cwV 2 hG (rl_gV wd_207 wd_208 wd_209 wd_14 wd_210) rfl rfl rfl (by decide +kernel) ⟨Nat.le_of_ble_eq_true rfl, Nat.le_of_ble_eq_true rfl⟩) ⟨hpre.1, (va_recv hK (rl_P.l (rl_P.l hP)) (ci := 0) (q0 := 0) rfl rfl), hpre.2⟩ rfl rfl hl.1 rfl (lv_room (Nat.le_of_ble_eq_true rfl)) d_w_law_170 ⟨Nat.le_of_ble_eq_true rfl, Nat.le_of_ble_eq_true rfl⟩) (fun r3 locs h4 hS => ?_)
    refine lv_aload_n hx hb d_w_law_173 rfl (lv_at hl 2 rfl) ?_
    refine lv_aload_n hx hb d_w_law_174 rfl (lv_at hl 4 rfl) ?_
    refine lv_iload hx hb d_w_law_175 (lv_at hl 0 rfl) ?_
    refine lv_iconst (v := 1) hx hb d_w_law_177 (by decide) ?_
    refine lv_iadd hx hb d_w_law_178 ?_
    refine lv_topi (fun v5 ev5 => ?_)
    obtain rfl : v5 = 1 := ev5.trans (by decide)
    refine va_sld hx hb hX hbl hbA hS (rl_in (x := 1) (n := 6) (by decide) (by decide)) d_w_law_179 ?_
    refine lv_aload_n hx hb d_w_law_180 rfl (lv_at hl 4 rfl) ?_
    refine lv_iload hx hb d_w_law_181 (lv_at hl 0 rfl) ?_
    refine lv_iconst (v := 2) hx hb d_w_law_183 (by decide) ?_
    refine lv_iadd hx hb d_w_law_184 ?_
    refine lv_topi (fun v6 ev6 => ?_)
    obtain rfl : v6 = 2 := ev6.trans (by decide)
    refine va_sld hx hb hX hbl hbA hS (rl_in (x := 2) (n := 6) (by decide) (by decide)) d_w_law_185 ?_
    refine lv_if_eq (tgt := 193) hx hb d_w_law_186 (by decide) (fun _ => ?_) (fun _ => ?_)
    · refine lv_iconst (v := 0) hx hb d_w_law_193 (by decide) ?_
      have hpre := rl_B.pre (av := .ref (a2 0) :: [.int (xs (1 : Int32).toNatClampNeg), .int 0]) rl_nw0 (rl_P.r hP) hK2 (rl_D.r hD) rl_N0
      refine rl_calliR hP hD hS hA (va_runV (As := [.int (xs (1 : Int32).toNatClampNeg), .int 0]) (rest := [.int r3]) ⟨hx, hb, hml, hown, hG⟩ (k_m_open l D a2 kI kZ (xs (1 : Int32).toNatClampNeg) 0 _) (cwV 2 hG (rl_gV wd_594 wd_595 wd_596 wd_19 wd_597) rfl rfl rfl (by decide +kernel) ⟨Nat.le_of_ble_eq_true rfl, Nat.le_of_ble_eq_true rfl⟩) ⟨hpre.1, (va_recv hK (rl_P.r hP) (ci := 5) (q0 := 0) rfl rfl), hpre.2⟩ rfl rfl hl.1 rfl (lv_room (Nat.le_of_ble_eq_true rfl)) d_w_law_194 ⟨Nat.le_of_ble_eq_true rfl, Nat.le_of_ble_eq_true rfl⟩) (fun r7 F9 H locs h8 hP hD hS => ?_)
      have hP : va_P D rl_cl ((rl_w a kI kZ rl_F0 ++ rl_O kL q (fun _ => 0)) ++ rm_w a2 kI kZ F9) H := hP
      have hD : va_D (fun q : Nat => s.heap.size ≤ q) ((rl_w a kI kZ rl_F0 ++ rl_O kL q (fun _ => 0)) ++ rm_w a2 kI kZ F9) := hD
      refine lv_icmp_eq (tgt := 931) hx hb d_w_law_197 (by decide) (fun _ => ?_) (fun c9 => absurd (Int32.toInt_inj.mp (by omega)) c9)
      exact law_end hx hb hr hlocks hX hbl hS (Nat.le_of_ble_eq_true rfl) (Nat.le_of_ble_eq_true rfl) (lv_sub hl [0, 4] rfl)
    · refine lv_iconst (v := 1) hx hb d_w_law_189 (by decide) ?_
      refine lv_goto (tgt := 194) hx hb d_w_law_190 (by decide) ?_
      have hpre := rl_B.pre (av := .ref (a2 0) :: [.int (xs (1 : Int32).toNatClampNeg), .int 1]) rl_nw0 (rl_P.r hP) hK2 (rl_D.r hD) rl_N0
      refine rl_calliR hP hD hS hA (va_runV (As := [.int (xs (1 : Int32).toNatClampNeg), .int 1]) (rest := [.int r3]) ⟨hx, hb, hml, hown, hG⟩ (k_m_open l D a2 kI kZ (xs (1 : Int32).toNatClampNeg) 1 _) (cwV 2 hG (rl_gV wd_594 wd_595 wd_596 wd_19 wd_597) rfl rfl rfl (by decide +kernel) ⟨Nat.le_of_ble_eq_true rfl, Nat.le_of_ble_eq_true rfl⟩) ⟨hpre.1, (va_recv hK (rl_P.r hP) (ci := 5) (q0 := 0) rfl rfl), hpre.2⟩ rfl rfl hl.1 rfl (lv_room (Nat.le_of_ble_eq_true rfl)) d_w_law_194 ⟨Nat.le_of_ble_eq_true rfl, Nat.le_of_ble_eq_true rfl⟩) (fun r10 F12 H locs h11 hP hD hS => ?_)
      have hP : va_P D rl_cl ((rl_w a kI kZ rl_F0 ++ rl_O kL q (fun _ => 0)) ++ rm_w a2 kI kZ F12) H := hP
      have hD : va_D (fun q : Nat => s.heap.size ≤ q) ((rl_w a kI kZ rl_F0 ++ rl_O kL q (fun _ => 0)) ++ rm_w a2 kI kZ F12) := hD
      refine lv_icmp_eq (tgt := 931) hx hb d_w_law_197 (by decide) (fun _ => ?_) (fun c9 => absurd (Int32.toInt_inj.mp (by omega)) c9)
      exact law_end hx hb hr hlocks hX hbl hS (Nat.le_of_ble_eq_true rfl) (Nat.le_of_ble_eq_true rfl) (lv_sub hl [0, 4] rfl)
  · refine lv_iconst (v := 1) hx hb d_w_law_165 (by decide) ?_
    refine lv_goto (tgt := 170) hx hb d_w_law_166 (by decide) ?_
    have hpre := rl_BR.pre (av := .ref (a 0) :: [.int (xs (1 : Int32).toNatClampNeg), .int 1]) rl_nw0 (rl_P.l (rl_P.l hP)) hK2 rl_N0
    refine rl_callr hS (va_runV (As := [.int (xs (1 : Int32).toNatClampNeg), .int 1]) (rest := []) ⟨hx, hb, hml, hown, hG⟩ (k_x_open l D a kI kZ (xs (1 : Int32).toNatClampNeg) 1 _) (cwV 2 hG (rl_gV wd_207 wd_208 wd_209 wd_14 wd_210) rfl rfl rfl (by decide +kernel) ⟨Nat.le_of_ble_eq_true rfl, Nat.le_of_ble_eq_true rfl⟩) ⟨hpre.1, (va_recv hK (rl_P.l (rl_P.l hP)) (ci := 0) (q0 := 0) rfl rfl), hpre.2⟩ rfl rfl hl.1 rfl (lv_room (Nat.le_of_ble_eq_true rfl)) d_w_law_170 ⟨Nat.le_of_ble_eq_true rfl, Nat.le_of_ble_eq_true rfl⟩) (fun r13 locs h14 hS => ?_)
    refine lv_aload_n hx hb d_w_law_173 rfl (lv_at hl 2 rfl) ?_
    refine lv_aload_n hx hb d_w_law_174 rfl (lv_at hl 4 rfl) ?_
    refine lv_iload hx hb d_w_law_175 (lv_at hl 0 rfl) ?_
    refine lv_iconst (v := 1) hx hb d_w_law_177 (by decide) ?_
    refine lv_iadd hx hb d_w_law_178 ?_
    refine lv_topi (fun v15 ev15 => ?_)
    obtain rfl : v15 = 1 := ev15.trans (by decide)
    refine va_sld hx hb hX hbl hbA hS (rl_in (x := 1) (n := 6) (by decide) (by decide)) d_w_law_179 ?_
    refine lv_aload_n hx hb d_w_law_180 rfl (lv_at hl 4 rfl) ?_
    refine lv_iload hx hb d_w_law_181 (lv_at hl 0 rfl) ?_
    refine lv_iconst (v := 2) hx hb d_w_law_183 (by decide) ?_
    refine lv_iadd hx hb d_w_law_184 ?_
    refine lv_topi (fun v16 ev16 => ?_)
    obtain rfl : v16 = 2 := ev16.trans (by decide)
    refine va_sld hx hb hX hbl hbA hS (rl_in (x := 2) (n := 6) (by decide) (by decide)) d_w_law_185 ?_
    refine lv_if_eq (tgt := 193) hx hb d_w_law_186 (by decide) (fun _ => ?_) (fun _ => ?_)
    · refine lv_iconst (v := 0) hx hb d_w_law_193 (by decide) ?_
      have hpre := rl_B.pre (av := .ref (a2 0) :: [.int (xs (1 : Int32).toNatClampNeg), .int 0]) rl_nw0 (rl_P.r hP) hK2 (rl_D.r hD) rl_N0
      refine rl_calliR hP hD hS hA (va_runV (As := [.int (xs (1 : Int32).toNatClampNeg), .int 0]) (rest := [.int r13]) ⟨hx, hb, hml, hown, hG⟩ (k_m_open l D a2 kI kZ (xs (1 : Int32).toNatClampNeg) 0 _) (cwV 2 hG (rl_gV wd_594 wd_595 wd_596 wd_19 wd_597) rfl rfl rfl (by decide +kernel) ⟨Nat.le_of_ble_eq_true rfl, Nat.le_of_ble_eq_true rfl⟩) ⟨hpre.1, (va_recv hK (rl_P.r hP) (ci := 5) (q0 := 0) rfl rfl), hpre.2⟩ rfl rfl hl.1 rfl (lv_room (Nat.le_of_ble_eq_true rfl)) d_w_law_194 ⟨Nat.le_of_ble_eq_true rfl, Nat.le_of_ble_eq_true rfl⟩) (fun r17 F19 H locs h18 hP hD hS => ?_)
      have hP : va_P D rl_cl ((rl_w a kI kZ rl_F0 ++ rl_O kL q (fun _ => 0)) ++ rm_w a2 kI kZ F19) H := hP
      have hD : va_D (fun q : Nat => s.heap.size ≤ q) ((rl_w a kI kZ rl_F0 ++ rl_O kL q (fun _ => 0)) ++ rm_w a2 kI kZ F19) := hD
      refine lv_icmp_eq (tgt := 931) hx hb d_w_law_197 (by decide) (fun _ => ?_) (fun c9 => absurd (Int32.toInt_inj.mp (by omega)) c9)
      exact law_end hx hb hr hlocks hX hbl hS (Nat.le_of_ble_eq_true rfl) (Nat.le_of_ble_eq_true rfl) (lv_sub hl [0, 4] rfl)
    · refine lv_iconst (v := 1) hx hb d_w_law_189 (by decide) ?_
      refine lv_goto (tgt := 194) hx hb d_w_law_190 (by decide) ?_
      have hpre := rl_B.pre (av := .ref (a2 0) :: [.int (xs (1 : Int32).toNatClampNeg), .int 1]) rl_nw0 (rl_P.r hP) hK2 (rl_D.r hD) rl_N0
      refine rl_calliR hP hD hS hA (va_runV (As := [.int (xs (1 : Int32).toNatClampNeg), .int 1]) (rest := [.int r13]) ⟨hx, hb, hml, hown, hG⟩ (k_m_open l D a2 kI kZ (xs (1 : Int32).toNatClampNeg) 1 _) (cwV 2 hG (rl_gV wd_594 wd_595 wd_596 wd_19 wd_597) rfl rfl rfl (by decide +kernel) ⟨Nat.le_of_ble_eq_true rfl, Nat.le_of_ble_eq_true rfl⟩) ⟨hpre.1, (va_recv hK (rl_P.r hP) (ci := 5) (q0 := 0) rfl rfl), hpre.2⟩ rfl rfl hl.1 rfl (lv_room (Nat.le_of_ble_eq_true rfl)) d_w_law_194 ⟨Nat.le_of_ble_eq_true rfl, Nat.le_of_ble_eq_true rfl⟩) (fun r20 F22 H locs h21 hP hD hS => ?_)
      have hP : va_P D rl_cl ((rl_w a kI kZ rl_F0 ++ rl_O kL q (fun _ => 0)) ++ rm_w a2 kI kZ F22) H := hP
      have hD : va_D (fun q : Nat => s.heap.size ≤ q) ((rl_w a kI kZ rl_F0 ++ rl_O kL q (fun _ => 0)) ++ rm_w a2 kI kZ F22) := hD
      refine lv_icmp_eq (tgt := 931) hx hb d_w_law_197 (by decide) (fun _ => ?_) (fun c9 => absurd (Int32.toInt_inj.mp (by omega)) c9)
      exact law_end hx hb hr hlocks hX hbl hS (Nat.le_of_ble_eq_true rfl) (Nat.le_of_ble_eq_true rfl) (lv_sub hl [0, 4] rfl)
set_option maxHeartbeats 4000000 in
set_option maxRecDepth 100000 in
theorem law_2 {p : Program} {l : Launch} {e : Env} {s : State} {m : MethodId} {below : List Frame} {meth : Method} {c : Code} {b : Nat} {xs : Nat → Int32} {D : va_G} {a a2 : Nat → Nat} {kI kZ kL : ClassId} {q : Nat} {H : Heap} {locs : List Loc} {ls : Array Slot} (C : lw_I p l s m meth c b xs D a a2 kI kZ kL q H locs ls) : W p l e room_1 s m #[Value.ref b] below meth c H locs 60 9971 (lw_Z below #[Value.ref b] s) (F0 m 202 ls []) := by
  obtain ⟨hx, hb, hr, hml, hown, hG, hlocks, hX, hbl, hK, hZ, hC, hlt, hP, hD, hS, hl⟩ := C
  have hA : ∀ q : Nat, s.heap.size ≤ q → (fun q : Nat => s.heap.size ≤ q) q := fun _ h => h
  have hbA : ¬ (fun q : Nat => s.heap.size ≤ q) b := Nat.not_le.mpr hbl
  have hK2 := hK.sub (tys' := rl_tys kI kZ) [0, 1] rfl
  refine lv_aload_n hx hb d_w_law_202 rfl (lv_at hl 3 rfl) ?_
  refine lv_aload_n hx hb d_w_law_203 rfl (lv_at hl 4 rfl) ?_
  refine lv_iload hx hb d_w_law_204 (lv_at hl 0 rfl) ?_
  refine lv_iconst (v := 1) hx hb d_w_law_206 (by decide) ?_
  refine lv_iadd hx hb d_w_law_207 ?_
  refine lv_topi (fun v1 ev1 => ?_)
  obtain rfl : v1 = 1 := ev1.trans (by decide)
  refine va_sld hx hb hX hbl hbA hS (rl_in (x := 1) (n := 6) (by decide) (by decide)) d_w_law_208 ?_
  refine lv_aload_n hx hb d_w_law_209 rfl (lv_at hl 4 rfl) ?_
  refine lv_iload hx hb d_w_law_210 (lv_at hl 0 rfl) ?_
  refine lv_iconst (v := 2) hx hb d_w_law_212 (by decide) ?_
  refine lv_iadd hx hb d_w_law_213 ?_
  refine lv_topi (fun v2 ev2 => ?_)
  obtain rfl : v2 = 2 := ev2.trans (by decide)
  refine va_sld hx hb hX hbl hbA hS (rl_in (x := 2) (n := 6) (by decide) (by decide)) d_w_law_214 ?_
  refine lv_aload_n hx hb d_w_law_215 rfl (lv_at hl 4 rfl) ?_
  refine lv_iload hx hb d_w_law_216 (lv_at hl 0 rfl) ?_
  refine lv_iconst (v := 3) hx hb d_w_law_218 (by decide) ?_
  refine lv_iadd hx hb d_w_law_219 ?_
  refine lv_topi (fun v3 ev3 => ?_)
  obtain rfl : v3 = 3 := ev3.trans (by decide)
  refine va_sld hx hb hX hbl hbA hS (rl_in (x := 3) (n := 6) (by decide) (by decide)) d_w_law_220 ?_
  refine lv_aload_n hx hb d_w_law_221 rfl (lv_at hl 4 rfl) ?_
  refine lv_iload hx hb d_w_law_222 (lv_at hl 0 rfl) ?_
  refine lv_iconst (v := 4) hx hb d_w_law_224 (by decide) ?_
  refine lv_iadd hx hb d_w_law_225 ?_
  refine lv_topi (fun v4 ev4 => ?_)
  obtain rfl : v4 = 4 := ev4.trans (by decide)
  refine va_sld hx hb hX hbl hbA hS (rl_in (x := 4) (n := 6) (by decide) (by decide)) d_w_law_226 ?_
  have hpre := rl_BR.pre (av := .ref (a 0) :: [.int (xs (1 : Int32).toNatClampNeg), .int (xs (2 : Int32).toNatClampNeg), .int (xs (3 : Int32).toNatClampNeg), .int (xs (4 : Int32).toNatClampNeg)]) rl_nw0 (rl_P.l (rl_P.l hP)) hK2 rl_N0
  refine rl_callr hS (va_runV (As := [.int (xs (1 : Int32).toNatClampNeg), .int (xs (2 : Int32).toNatClampNeg), .int (xs (3 : Int32).toNatClampNeg), .int (xs (4 : Int32).toNatClampNeg)]) (rest := []) ⟨hx, hb, hml, hown, hG⟩ (k_x_limit l D a kI kZ (xs (1 : Int32).toNatClampNeg) (xs (2 : Int32).toNatClampNeg) (xs (3 : Int32).toNatClampNeg) (xs (4 : Int32).toNatClampNeg) _) (cwV 4 hG (rl_gV wd_215 wd_216 wd_217 wd_14 wd_218) rfl rfl rfl (by decide +kernel) ⟨Nat.le_of_ble_eq_true rfl, Nat.le_of_ble_eq_true rfl⟩) ⟨hpre.1, (va_recv hK (rl_P.l (rl_P.l hP)) (ci := 0) (q0 := 0) rfl rfl), hpre.2⟩ rfl rfl hl.1 rfl (lv_room (Nat.le_of_ble_eq_true rfl)) d_w_law_227 ⟨Nat.le_of_ble_eq_true rfl, Nat.le_of_ble_eq_true rfl⟩) (fun r5 locs h6 hS => ?_)
  refine lv_aload_n hx hb d_w_law_230 rfl (lv_at hl 2 rfl) ?_
  refine lv_aload_n hx hb d_w_law_231 rfl (lv_at hl 4 rfl) ?_
  refine lv_iload hx hb d_w_law_232 (lv_at hl 0 rfl) ?_
  refine lv_iconst (v := 1) hx hb d_w_law_234 (by decide) ?_
  refine lv_iadd hx hb d_w_law_235 ?_
  refine lv_topi (fun v7 ev7 => ?_)
  obtain rfl : v7 = 1 := ev7.trans (by decide)
  refine va_sld hx hb hX hbl hbA hS (rl_in (x := 1) (n := 6) (by decide) (by decide)) d_w_law_236 ?_
  refine lv_aload_n hx hb d_w_law_237 rfl (lv_at hl 4 rfl) ?_
  refine lv_iload hx hb d_w_law_238 (lv_at hl 0 rfl) ?_
  refine lv_iconst (v := 2) hx hb d_w_law_240 (by decide) ?_
  refine lv_iadd hx hb d_w_law_241 ?_
  refine lv_topi (fun v8 ev8 => ?_)
  obtain rfl : v8 = 2 := ev8.trans (by decide)
  refine va_sld hx hb hX hbl hbA hS (rl_in (x := 2) (n := 6) (by decide) (by decide)) d_w_law_242 ?_
  refine lv_aload_n hx hb d_w_law_243 rfl (lv_at hl 4 rfl) ?_
  refine lv_iload hx hb d_w_law_244 (lv_at hl 0 rfl) ?_
  refine lv_iconst (v := 3) hx hb d_w_law_246 (by decide) ?_
  refine lv_iadd hx hb d_w_law_247 ?_
  refine lv_topi (fun v9 ev9 => ?_)
  obtain rfl : v9 = 3 := ev9.trans (by decide)
  refine va_sld hx hb hX hbl hbA hS (rl_in (x := 3) (n := 6) (by decide) (by decide)) d_w_law_248 ?_
  refine lv_aload_n hx hb d_w_law_249 rfl (lv_at hl 4 rfl) ?_
  refine lv_iload hx hb d_w_law_250 (lv_at hl 0 rfl) ?_
  refine lv_iconst (v := 4) hx hb d_w_law_252 (by decide) ?_
  refine lv_iadd hx hb d_w_law_253 ?_
  refine lv_topi (fun v10 ev10 => ?_)
  obtain rfl : v10 = 4 := ev10.trans (by decide)
  refine va_sld hx hb hX hbl hbA hS (rl_in (x := 4) (n := 6) (by decide) (by decide)) d_w_law_254 ?_
  have hpre := rl_B.pre (av := .ref (a2 0) :: [.int (xs (1 : Int32).toNatClampNeg), .int (xs (2 : Int32).toNatClampNeg), .int (xs (3 : Int32).toNatClampNeg), .int (xs (4 : Int32).toNatClampNeg)]) rl_nw0 (rl_P.r hP) hK2 (rl_D.r hD) rl_N0
  refine rl_calliR hP hD hS hA (va_runV (As := [.int (xs (1 : Int32).toNatClampNeg), .int (xs (2 : Int32).toNatClampNeg), .int (xs (3 : Int32).toNatClampNeg), .int (xs (4 : Int32).toNatClampNeg)]) (rest := [.int r5]) ⟨hx, hb, hml, hown, hG⟩ (k_m_limit l D a2 kI kZ (xs (1 : Int32).toNatClampNeg) (xs (2 : Int32).toNatClampNeg) (xs (3 : Int32).toNatClampNeg) (xs (4 : Int32).toNatClampNeg) _) (cwV 4 hG (rl_gV wd_602 wd_603 wd_604 wd_19 wd_605) rfl rfl rfl (by decide +kernel) ⟨Nat.le_of_ble_eq_true rfl, Nat.le_of_ble_eq_true rfl⟩) ⟨hpre.1, (va_recv hK (rl_P.r hP) (ci := 5) (q0 := 0) rfl rfl), hpre.2⟩ rfl rfl hl.1 rfl (lv_room (Nat.le_of_ble_eq_true rfl)) d_w_law_255 ⟨Nat.le_of_ble_eq_true rfl, Nat.le_of_ble_eq_true rfl⟩) (fun r11 F13 H locs h12 hP hD hS => ?_)
  have hP : va_P D rl_cl ((rl_w a kI kZ rl_F0 ++ rl_O kL q (fun _ => 0)) ++ rm_w a2 kI kZ F13) H := hP
  have hD : va_D (fun q : Nat => s.heap.size ≤ q) ((rl_w a kI kZ rl_F0 ++ rl_O kL q (fun _ => 0)) ++ rm_w a2 kI kZ F13) := hD
  refine lv_icmp_eq (tgt := 931) hx hb d_w_law_258 (by decide) (fun _ => ?_) (fun c9 => absurd (Int32.toInt_inj.mp (by omega)) c9)
  exact law_end hx hb hr hlocks hX hbl hS (Nat.le_of_ble_eq_true rfl) (Nat.le_of_ble_eq_true rfl) (lv_sub hl [0, 4] rfl)
set_option maxHeartbeats 4000000 in
set_option maxRecDepth 100000 in
theorem law_3 {p : Program} {l : Launch} {e : Env} {s : State} {m : MethodId} {below : List Frame} {meth : Method} {c : Code} {b : Nat} {xs : Nat → Int32} {D : va_G} {a a2 : Nat → Nat} {kI kZ kL : ClassId} {q : Nat} {H : Heap} {locs : List Loc} {ls : Array Slot} (C : lw_I p l s m meth c b xs D a a2 kI kZ kL q H locs ls) : W p l e room_1 s m #[Value.ref b] below meth c H locs 60 9971 (lw_Z below #[Value.ref b] s) (F0 m 263 ls []) := by
  obtain ⟨hx, hb, hr, hml, hown, hG, hlocks, hX, hbl, hK, hZ, hC, hlt, hP, hD, hS, hl⟩ := C
  have hA : ∀ q : Nat, s.heap.size ≤ q → (fun q : Nat => s.heap.size ≤ q) q := fun _ h => h
  have hbA : ¬ (fun q : Nat => s.heap.size ≤ q) b := Nat.not_le.mpr hbl
  have hK2 := hK.sub (tys' := rl_tys kI kZ) [0, 1] rfl
  refine lv_aload_n hx hb d_w_law_263 rfl (lv_at hl 3 rfl) ?_
  refine lv_aload_n hx hb d_w_law_264 rfl (lv_at hl 4 rfl) ?_
  refine lv_iload hx hb d_w_law_265 (lv_at hl 0 rfl) ?_
  refine lv_iconst (v := 1) hx hb d_w_law_267 (by decide) ?_
  refine lv_iadd hx hb d_w_law_268 ?_
  refine lv_topi (fun v1 ev1 => ?_)
  obtain rfl : v1 = 1 := ev1.trans (by decide)
  refine va_sld hx hb hX hbl hbA hS (rl_in (x := 1) (n := 6) (by decide) (by decide)) d_w_law_269 ?_
  refine lv_aload_n hx hb d_w_law_270 rfl (lv_at hl 4 rfl) ?_
  refine lv_iload hx hb d_w_law_271 (lv_at hl 0 rfl) ?_
  refine lv_iconst (v := 2) hx hb d_w_law_273 (by decide) ?_
  refine lv_iadd hx hb d_w_law_274 ?_
  refine lv_topi (fun v2 ev2 => ?_)
  obtain rfl : v2 = 2 := ev2.trans (by decide)
  refine va_sld hx hb hX hbl hbA hS (rl_in (x := 2) (n := 6) (by decide) (by decide)) d_w_law_275 ?_
  refine lv_aload_n hx hb d_w_law_276 rfl (lv_at hl 4 rfl) ?_
  refine lv_iload hx hb d_w_law_277 (lv_at hl 0 rfl) ?_
  refine lv_iconst (v := 3) hx hb d_w_law_279 (by decide) ?_
  refine lv_iadd hx hb d_w_law_280 ?_
  refine lv_topi (fun v3 ev3 => ?_)
  obtain rfl : v3 = 3 := ev3.trans (by decide)
  refine va_sld hx hb hX hbl hbA hS (rl_in (x := 3) (n := 6) (by decide) (by decide)) d_w_law_281 ?_
  refine lv_aload_n hx hb d_w_law_282 rfl (lv_at hl 4 rfl) ?_
  refine lv_iload hx hb d_w_law_283 (lv_at hl 0 rfl) ?_
  refine lv_iconst (v := 4) hx hb d_w_law_285 (by decide) ?_
  refine lv_iadd hx hb d_w_law_286 ?_
  refine lv_topi (fun v4 ev4 => ?_)
  obtain rfl : v4 = 4 := ev4.trans (by decide)
  refine va_sld hx hb hX hbl hbA hS (rl_in (x := 4) (n := 6) (by decide) (by decide)) d_w_law_287 ?_
  refine lv_aload_n hx hb d_w_law_288 rfl (lv_at hl 4 rfl) ?_
  refine lv_iload hx hb d_w_law_289 (lv_at hl 0 rfl) ?_
  refine lv_iconst (v := 5) hx hb d_w_law_291 (by decide) ?_
  refine lv_iadd hx hb d_w_law_292 ?_
  refine lv_topi (fun v5 ev5 => ?_)
  obtain rfl : v5 = 5 := ev5.trans (by decide)
  refine va_sld hx hb hX hbl hbA hS (rl_in (x := 5) (n := 6) (by decide) (by decide)) d_w_law_293 ?_
  have hpre := rl_BR.pre (av := .ref (a 0) :: [.int (xs (1 : Int32).toNatClampNeg), .int (xs (2 : Int32).toNatClampNeg), .int (xs (3 : Int32).toNatClampNeg), .int (xs (4 : Int32).toNatClampNeg), .int (xs (5 : Int32).toNatClampNeg)]) rl_nw0 (rl_P.l (rl_P.l hP)) hK2 rl_N0
  refine rl_callr hS (va_runV (As := [.int (xs (1 : Int32).toNatClampNeg), .int (xs (2 : Int32).toNatClampNeg), .int (xs (3 : Int32).toNatClampNeg), .int (xs (4 : Int32).toNatClampNeg), .int (xs (5 : Int32).toNatClampNeg)]) (rest := []) ⟨hx, hb, hml, hown, hG⟩ (k_x_licence l D a kI kZ (xs (1 : Int32).toNatClampNeg) (xs (2 : Int32).toNatClampNeg) (xs (3 : Int32).toNatClampNeg) (xs (4 : Int32).toNatClampNeg) (xs (5 : Int32).toNatClampNeg) _) (cwV 5 hG (rl_gV wd_232 wd_233 wd_234 wd_14 wd_235) rfl rfl rfl (by decide +kernel) ⟨Nat.le_of_ble_eq_true rfl, Nat.le_of_ble_eq_true rfl⟩) ⟨hpre.1, (va_recv hK (rl_P.l (rl_P.l hP)) (ci := 0) (q0 := 0) rfl rfl), hpre.2⟩ rfl rfl hl.1 rfl (lv_room (Nat.le_of_ble_eq_true rfl)) d_w_law_294 ⟨Nat.le_of_ble_eq_true rfl, Nat.le_of_ble_eq_true rfl⟩) (fun r6 locs h7 hS => ?_)
  refine lv_aload_n hx hb d_w_law_297 rfl (lv_at hl 2 rfl) ?_
  refine lv_aload_n hx hb d_w_law_298 rfl (lv_at hl 4 rfl) ?_
  refine lv_iload hx hb d_w_law_299 (lv_at hl 0 rfl) ?_
  refine lv_iconst (v := 1) hx hb d_w_law_301 (by decide) ?_
  refine lv_iadd hx hb d_w_law_302 ?_
  refine lv_topi (fun v8 ev8 => ?_)
  obtain rfl : v8 = 1 := ev8.trans (by decide)
  refine va_sld hx hb hX hbl hbA hS (rl_in (x := 1) (n := 6) (by decide) (by decide)) d_w_law_303 ?_
  refine lv_aload_n hx hb d_w_law_304 rfl (lv_at hl 4 rfl) ?_
  refine lv_iload hx hb d_w_law_305 (lv_at hl 0 rfl) ?_
  refine lv_iconst (v := 2) hx hb d_w_law_307 (by decide) ?_
  refine lv_iadd hx hb d_w_law_308 ?_
  refine lv_topi (fun v9 ev9 => ?_)
  obtain rfl : v9 = 2 := ev9.trans (by decide)
  refine va_sld hx hb hX hbl hbA hS (rl_in (x := 2) (n := 6) (by decide) (by decide)) d_w_law_309 ?_
  refine lv_aload_n hx hb d_w_law_310 rfl (lv_at hl 4 rfl) ?_
  refine lv_iload hx hb d_w_law_311 (lv_at hl 0 rfl) ?_
  refine lv_iconst (v := 3) hx hb d_w_law_313 (by decide) ?_
  refine lv_iadd hx hb d_w_law_314 ?_
  refine lv_topi (fun v10 ev10 => ?_)
  obtain rfl : v10 = 3 := ev10.trans (by decide)
  refine va_sld hx hb hX hbl hbA hS (rl_in (x := 3) (n := 6) (by decide) (by decide)) d_w_law_315 ?_
  refine lv_aload_n hx hb d_w_law_316 rfl (lv_at hl 4 rfl) ?_
  refine lv_iload hx hb d_w_law_317 (lv_at hl 0 rfl) ?_
  refine lv_iconst (v := 4) hx hb d_w_law_319 (by decide) ?_
  refine lv_iadd hx hb d_w_law_320 ?_
  refine lv_topi (fun v11 ev11 => ?_)
  obtain rfl : v11 = 4 := ev11.trans (by decide)
  refine va_sld hx hb hX hbl hbA hS (rl_in (x := 4) (n := 6) (by decide) (by decide)) d_w_law_321 ?_
  refine lv_aload_n hx hb d_w_law_322 rfl (lv_at hl 4 rfl) ?_
  refine lv_iload hx hb d_w_law_323 (lv_at hl 0 rfl) ?_
  refine lv_iconst (v := 5) hx hb d_w_law_325 (by decide) ?_
  refine lv_iadd hx hb d_w_law_326 ?_
  refine lv_topi (fun v12 ev12 => ?_)
  obtain rfl : v12 = 5 := ev12.trans (by decide)
  refine va_sld hx hb hX hbl hbA hS (rl_in (x := 5) (n := 6) (by decide) (by decide)) d_w_law_327 ?_
  have hpre := rl_B.pre (av := .ref (a2 0) :: [.int (xs (1 : Int32).toNatClampNeg), .int (xs (2 : Int32).toNatClampNeg), .int (xs (3 : Int32).toNatClampNeg), .int (xs (4 : Int32).toNatClampNeg), .int (xs (5 : Int32).toNatClampNeg)]) rl_nw0 (rl_P.r hP) hK2 (rl_D.r hD) rl_N0
  refine rl_calliR hP hD hS hA (va_runV (As := [.int (xs (1 : Int32).toNatClampNeg), .int (xs (2 : Int32).toNatClampNeg), .int (xs (3 : Int32).toNatClampNeg), .int (xs (4 : Int32).toNatClampNeg), .int (xs (5 : Int32).toNatClampNeg)]) (rest := [.int r6]) ⟨hx, hb, hml, hown, hG⟩ (k_m_licence l D a2 kI kZ (xs (1 : Int32).toNatClampNeg) (xs (2 : Int32).toNatClampNeg) (xs (3 : Int32).toNatClampNeg) (xs (4 : Int32).toNatClampNeg) (xs (5 : Int32).toNatClampNeg) _) (cwV 5 hG (rl_gV wd_606 wd_607 wd_608 wd_19 wd_609) rfl rfl rfl (by decide +kernel) ⟨Nat.le_of_ble_eq_true rfl, Nat.le_of_ble_eq_true rfl⟩) ⟨hpre.1, (va_recv hK (rl_P.r hP) (ci := 5) (q0 := 0) rfl rfl), hpre.2⟩ rfl rfl hl.1 rfl (lv_room (Nat.le_of_ble_eq_true rfl)) d_w_law_328 ⟨Nat.le_of_ble_eq_true rfl, Nat.le_of_ble_eq_true rfl⟩) (fun r13 F15 H locs h14 hP hD hS => ?_)
  have hP : va_P D rl_cl ((rl_w a kI kZ rl_F0 ++ rl_O kL q (fun _ => 0)) ++ rm_w a2 kI kZ F15) H := hP
  have hD : va_D (fun q : Nat => s.heap.size ≤ q) ((rl_w a kI kZ rl_F0 ++ rl_O kL q (fun _ => 0)) ++ rm_w a2 kI kZ F15) := hD
  refine lv_icmp_eq (tgt := 931) hx hb d_w_law_331 (by decide) (fun _ => ?_) (fun c9 => absurd (Int32.toInt_inj.mp (by omega)) c9)
  exact law_end hx hb hr hlocks hX hbl hS (Nat.le_of_ble_eq_true rfl) (Nat.le_of_ble_eq_true rfl) (lv_sub hl [0, 4] rfl)
set_option maxHeartbeats 4000000 in
set_option maxRecDepth 100000 in
theorem law_4 {p : Program} {l : Launch} {e : Env} {s : State} {m : MethodId} {below : List Frame} {meth : Method} {c : Code} {b : Nat} {xs : Nat → Int32} {D : va_G} {a a2 : Nat → Nat} {kI kZ kL : ClassId} {q : Nat} {H : Heap} {locs : List Loc} {ls : Array Slot} (C : lw_I p l s m meth c b xs D a a2 kI kZ kL q H locs ls) : W p l e room_1 s m #[Value.ref b] below meth c H locs 60 9971 (lw_Z below #[Value.ref b] s) (F0 m 336 ls []) := by
  obtain ⟨hx, hb, hr, hml, hown, hG, hlocks, hX, hbl, hK, hZ, hC, hlt, hP, hD, hS, hl⟩ := C
  have hA : ∀ q : Nat, s.heap.size ≤ q → (fun q : Nat => s.heap.size ≤ q) q := fun _ h => h
  have hbA : ¬ (fun q : Nat => s.heap.size ≤ q) b := Nat.not_le.mpr hbl
  have hK2 := hK.sub (tys' := rl_tys kI kZ) [0, 1] rfl
  refine lv_aload_n hx hb d_w_law_336 rfl (lv_at hl 3 rfl) ?_
  refine lv_aload_n hx hb d_w_law_337 rfl (lv_at hl 4 rfl) ?_
  refine lv_iload hx hb d_w_law_338 (lv_at hl 0 rfl) ?_
  refine lv_iconst (v := 1) hx hb d_w_law_340 (by decide) ?_
  refine lv_iadd hx hb d_w_law_341 ?_
  refine lv_topi (fun v1 ev1 => ?_)
  obtain rfl : v1 = 1 := ev1.trans (by decide)
  refine va_sld hx hb hX hbl hbA hS (rl_in (x := 1) (n := 6) (by decide) (by decide)) d_w_law_342 ?_
  refine lv_aload_n hx hb d_w_law_343 rfl (lv_at hl 4 rfl) ?_
  refine lv_iload hx hb d_w_law_344 (lv_at hl 0 rfl) ?_
  refine lv_iconst (v := 2) hx hb d_w_law_346 (by decide) ?_
  refine lv_iadd hx hb d_w_law_347 ?_
  refine lv_topi (fun v2 ev2 => ?_)
  obtain rfl : v2 = 2 := ev2.trans (by decide)
  refine va_sld hx hb hX hbl hbA hS (rl_in (x := 2) (n := 6) (by decide) (by decide)) d_w_law_348 ?_
  have hpre := rl_B.pre (av := .ref (a 0) :: [.int (xs (1 : Int32).toNatClampNeg), .int (xs (2 : Int32).toNatClampNeg)]) rl_nw0 (rl_P.l (rl_P.l hP)) hK2 (rl_D.l (rl_D.l hD)) rl_N0
  refine rl_calliL hP hD hS hA (va_runV (As := [.int (xs (1 : Int32).toNatClampNeg), .int (xs (2 : Int32).toNatClampNeg)]) (rest := []) ⟨hx, hb, hml, hown, hG⟩ (k_x_fee l D a kI kZ (xs (1 : Int32).toNatClampNeg) (xs (2 : Int32).toNatClampNeg) _) (cwV 2 hG (rl_gV wd_244 wd_245 wd_246 wd_14 wd_247) rfl rfl rfl (by decide +kernel) ⟨Nat.le_of_ble_eq_true rfl, Nat.le_of_ble_eq_true rfl⟩) ⟨hpre.1, (va_recv hK (rl_P.l (rl_P.l hP)) (ci := 0) (q0 := 0) rfl rfl), hpre.2⟩ rfl rfl hl.1 rfl (lv_room (Nat.le_of_ble_eq_true rfl)) d_w_law_349 ⟨Nat.le_of_ble_eq_true rfl, Nat.le_of_ble_eq_true rfl⟩) (fun r3 F5 H locs h4 hP hD hS => ?_)
  have hP : va_P D rl_cl ((rl_w a kI kZ F5 ++ rl_O kL q (fun _ => 0)) ++ rm_w a2 kI kZ rm_F0) H := hP
  have hD : va_D (fun q : Nat => s.heap.size ≤ q) ((rl_w a kI kZ F5 ++ rl_O kL q (fun _ => 0)) ++ rm_w a2 kI kZ rm_F0) := hD
  refine lv_aload_n hx hb d_w_law_352 rfl (lv_at hl 2 rfl) ?_
  refine lv_aload_n hx hb d_w_law_353 rfl (lv_at hl 4 rfl) ?_
  refine lv_iload hx hb d_w_law_354 (lv_at hl 0 rfl) ?_
  refine lv_iconst (v := 1) hx hb d_w_law_356 (by decide) ?_
  refine lv_iadd hx hb d_w_law_357 ?_
  refine lv_topi (fun v6 ev6 => ?_)
  obtain rfl : v6 = 1 := ev6.trans (by decide)
  refine va_sld hx hb hX hbl hbA hS (rl_in (x := 1) (n := 6) (by decide) (by decide)) d_w_law_358 ?_
  refine lv_aload_n hx hb d_w_law_359 rfl (lv_at hl 4 rfl) ?_
  refine lv_iload hx hb d_w_law_360 (lv_at hl 0 rfl) ?_
  refine lv_iconst (v := 2) hx hb d_w_law_362 (by decide) ?_
  refine lv_iadd hx hb d_w_law_363 ?_
  refine lv_topi (fun v7 ev7 => ?_)
  obtain rfl : v7 = 2 := ev7.trans (by decide)
  refine va_sld hx hb hX hbl hbA hS (rl_in (x := 2) (n := 6) (by decide) (by decide)) d_w_law_364 ?_
  have hpre := rl_B.pre (av := .ref (a2 0) :: [.int (xs (1 : Int32).toNatClampNeg), .int (xs (2 : Int32).toNatClampNeg)]) rl_nw0 (rl_P.r hP) hK2 (rl_D.r hD) rl_N0
  refine rl_calliR hP hD hS hA (va_runV (As := [.int (xs (1 : Int32).toNatClampNeg), .int (xs (2 : Int32).toNatClampNeg)]) (rest := [.int r3]) ⟨hx, hb, hml, hown, hG⟩ (k_m_fee l D a2 kI kZ (xs (1 : Int32).toNatClampNeg) (xs (2 : Int32).toNatClampNeg) _) (cwV 2 hG (rl_gV wd_611 wd_612 wd_613 wd_19 wd_614) rfl rfl rfl (by decide +kernel) ⟨Nat.le_of_ble_eq_true rfl, Nat.le_of_ble_eq_true rfl⟩) ⟨hpre.1, (va_recv hK (rl_P.r hP) (ci := 5) (q0 := 0) rfl rfl), hpre.2⟩ rfl rfl hl.1 rfl (lv_room (Nat.le_of_ble_eq_true rfl)) d_w_law_365 ⟨Nat.le_of_ble_eq_true rfl, Nat.le_of_ble_eq_true rfl⟩) (fun r8 F10 H locs h9 hP hD hS => ?_)
  have hP : va_P D rl_cl ((rl_w a kI kZ F5 ++ rl_O kL q (fun _ => 0)) ++ rm_w a2 kI kZ F10) H := hP
  have hD : va_D (fun q : Nat => s.heap.size ≤ q) ((rl_w a kI kZ F5 ++ rl_O kL q (fun _ => 0)) ++ rm_w a2 kI kZ F10) := hD
  refine lv_icmp_eq (tgt := 931) hx hb d_w_law_368 (by decide) (fun _ => ?_) (fun c9 => absurd (Int32.toInt_inj.mp (by omega)) c9)
  exact law_end hx hb hr hlocks hX hbl hS (Nat.le_of_ble_eq_true rfl) (Nat.le_of_ble_eq_true rfl) (lv_sub hl [0, 4] rfl)
set_option maxHeartbeats 4000000 in
set_option maxRecDepth 100000 in
theorem law_5 {p : Program} {l : Launch} {e : Env} {s : State} {m : MethodId} {below : List Frame} {meth : Method} {c : Code} {b : Nat} {xs : Nat → Int32} {D : va_G} {a a2 : Nat → Nat} {kI kZ kL : ClassId} {q : Nat} {H : Heap} {locs : List Loc} {ls : Array Slot} (C : lw_I p l s m meth c b xs D a a2 kI kZ kL q H locs ls) : W p l e room_1 s m #[Value.ref b] below meth c H locs 60 9971 (lw_Z below #[Value.ref b] s) (F0 m 373 ls []) := by
  obtain ⟨hx, hb, hr, hml, hown, hG, hlocks, hX, hbl, hK, hZ, hC, hlt, hP, hD, hS, hl⟩ := C
  have hA : ∀ q : Nat, s.heap.size ≤ q → (fun q : Nat => s.heap.size ≤ q) q := fun _ h => h
  have hbA : ¬ (fun q : Nat => s.heap.size ≤ q) b := Nat.not_le.mpr hbl
  have hK2 := hK.sub (tys' := rl_tys kI kZ) [0, 1] rfl
  refine lv_aload_n hx hb d_w_law_373 rfl (lv_at hl 3 rfl) ?_
  refine lv_aload_n hx hb d_w_law_374 rfl (lv_at hl 4 rfl) ?_
  refine lv_iload hx hb d_w_law_375 (lv_at hl 0 rfl) ?_
  refine lv_iconst (v := 1) hx hb d_w_law_377 (by decide) ?_
  refine lv_iadd hx hb d_w_law_378 ?_
  refine lv_topi (fun v1 ev1 => ?_)
  obtain rfl : v1 = 1 := ev1.trans (by decide)
  refine va_sld hx hb hX hbl hbA hS (rl_in (x := 1) (n := 6) (by decide) (by decide)) d_w_law_379 ?_
  refine lv_aload_n hx hb d_w_law_380 rfl (lv_at hl 4 rfl) ?_
  refine lv_iload hx hb d_w_law_381 (lv_at hl 0 rfl) ?_
  refine lv_iconst (v := 2) hx hb d_w_law_383 (by decide) ?_
  refine lv_iadd hx hb d_w_law_384 ?_
  refine lv_topi (fun v2 ev2 => ?_)
  obtain rfl : v2 = 2 := ev2.trans (by decide)
  refine va_sld hx hb hX hbl hbA hS (rl_in (x := 2) (n := 6) (by decide) (by decide)) d_w_law_385 ?_
  refine lv_aload_n hx hb d_w_law_386 rfl (lv_at hl 4 rfl) ?_
  refine lv_iload hx hb d_w_law_387 (lv_at hl 0 rfl) ?_
  refine lv_iconst (v := 3) hx hb d_w_law_389 (by decide) ?_
  refine lv_iadd hx hb d_w_law_390 ?_
  refine lv_topi (fun v3 ev3 => ?_)
  obtain rfl : v3 = 3 := ev3.trans (by decide)
  refine va_sld hx hb hX hbl hbA hS (rl_in (x := 3) (n := 6) (by decide) (by decide)) d_w_law_391 ?_
  refine lv_aload_n hx hb d_w_law_392 rfl (lv_at hl 4 rfl) ?_
  refine lv_iload hx hb d_w_law_393 (lv_at hl 0 rfl) ?_
  refine lv_iconst (v := 4) hx hb d_w_law_395 (by decide) ?_
  refine lv_iadd hx hb d_w_law_396 ?_
  refine lv_topi (fun v4 ev4 => ?_)
  obtain rfl : v4 = 4 := ev4.trans (by decide)
  refine va_sld hx hb hX hbl hbA hS (rl_in (x := 4) (n := 6) (by decide) (by decide)) d_w_law_397 ?_
  refine lv_aload_n hx hb d_w_law_398 rfl (lv_at hl 4 rfl) ?_
  refine lv_iload hx hb d_w_law_399 (lv_at hl 0 rfl) ?_
  refine lv_iconst (v := 5) hx hb d_w_law_401 (by decide) ?_
  refine lv_iadd hx hb d_w_law_402 ?_
  refine lv_topi (fun v5 ev5 => ?_)
  obtain rfl : v5 = 5 := ev5.trans (by decide)
  refine va_sld hx hb hX hbl hbA hS (rl_in (x := 5) (n := 6) (by decide) (by decide)) d_w_law_403 ?_
  have hpre := rl_BR.pre (av := .ref (a 0) :: [.int (xs (1 : Int32).toNatClampNeg), .int (xs (2 : Int32).toNatClampNeg), .int (xs (3 : Int32).toNatClampNeg), .int (xs (4 : Int32).toNatClampNeg), .int (xs (5 : Int32).toNatClampNeg)]) rl_nw0 (rl_P.l (rl_P.l hP)) hK2 rl_N0
  refine rl_callr hS (va_runV (As := [.int (xs (1 : Int32).toNatClampNeg), .int (xs (2 : Int32).toNatClampNeg), .int (xs (3 : Int32).toNatClampNeg), .int (xs (4 : Int32).toNatClampNeg), .int (xs (5 : Int32).toNatClampNeg)]) (rest := []) ⟨hx, hb, hml, hown, hG⟩ (k_x_ask l D a kI kZ (xs (1 : Int32).toNatClampNeg) (xs (2 : Int32).toNatClampNeg) (xs (3 : Int32).toNatClampNeg) (xs (4 : Int32).toNatClampNeg) (xs (5 : Int32).toNatClampNeg) _) (cwV 5 hG (rl_gV wd_248 wd_249 wd_250 wd_14 wd_251) rfl rfl rfl (by decide +kernel) ⟨Nat.le_of_ble_eq_true rfl, Nat.le_of_ble_eq_true rfl⟩) ⟨hpre.1, (va_recv hK (rl_P.l (rl_P.l hP)) (ci := 0) (q0 := 0) rfl rfl), hpre.2⟩ rfl rfl hl.1 rfl (lv_room (Nat.le_of_ble_eq_true rfl)) d_w_law_404 ⟨Nat.le_of_ble_eq_true rfl, Nat.le_of_ble_eq_true rfl⟩) (fun r6 locs h7 hS => ?_)
  refine lv_aload_n hx hb d_w_law_407 rfl (lv_at hl 2 rfl) ?_
  refine lv_aload_n hx hb d_w_law_408 rfl (lv_at hl 4 rfl) ?_
  refine lv_iload hx hb d_w_law_409 (lv_at hl 0 rfl) ?_
  refine lv_iconst (v := 1) hx hb d_w_law_411 (by decide) ?_
  refine lv_iadd hx hb d_w_law_412 ?_
  refine lv_topi (fun v8 ev8 => ?_)
  obtain rfl : v8 = 1 := ev8.trans (by decide)
  refine va_sld hx hb hX hbl hbA hS (rl_in (x := 1) (n := 6) (by decide) (by decide)) d_w_law_413 ?_
  refine lv_aload_n hx hb d_w_law_414 rfl (lv_at hl 4 rfl) ?_
  refine lv_iload hx hb d_w_law_415 (lv_at hl 0 rfl) ?_
  refine lv_iconst (v := 2) hx hb d_w_law_417 (by decide) ?_
  refine lv_iadd hx hb d_w_law_418 ?_
  refine lv_topi (fun v9 ev9 => ?_)
  obtain rfl : v9 = 2 := ev9.trans (by decide)
  refine va_sld hx hb hX hbl hbA hS (rl_in (x := 2) (n := 6) (by decide) (by decide)) d_w_law_419 ?_
  refine lv_aload_n hx hb d_w_law_420 rfl (lv_at hl 4 rfl) ?_
  refine lv_iload hx hb d_w_law_421 (lv_at hl 0 rfl) ?_
  refine lv_iconst (v := 3) hx hb d_w_law_423 (by decide) ?_
  refine lv_iadd hx hb d_w_law_424 ?_
  refine lv_topi (fun v10 ev10 => ?_)
  obtain rfl : v10 = 3 := ev10.trans (by decide)
  refine va_sld hx hb hX hbl hbA hS (rl_in (x := 3) (n := 6) (by decide) (by decide)) d_w_law_425 ?_
  refine lv_aload_n hx hb d_w_law_426 rfl (lv_at hl 4 rfl) ?_
  refine lv_iload hx hb d_w_law_427 (lv_at hl 0 rfl) ?_
  refine lv_iconst (v := 4) hx hb d_w_law_429 (by decide) ?_
  refine lv_iadd hx hb d_w_law_430 ?_
  refine lv_topi (fun v11 ev11 => ?_)
  obtain rfl : v11 = 4 := ev11.trans (by decide)
  refine va_sld hx hb hX hbl hbA hS (rl_in (x := 4) (n := 6) (by decide) (by decide)) d_w_law_431 ?_
  refine lv_aload_n hx hb d_w_law_432 rfl (lv_at hl 4 rfl) ?_
  refine lv_iload hx hb d_w_law_433 (lv_at hl 0 rfl) ?_
  refine lv_iconst (v := 5) hx hb d_w_law_435 (by decide) ?_
  refine lv_iadd hx hb d_w_law_436 ?_
  refine lv_topi (fun v12 ev12 => ?_)
  obtain rfl : v12 = 5 := ev12.trans (by decide)
  refine va_sld hx hb hX hbl hbA hS (rl_in (x := 5) (n := 6) (by decide) (by decide)) d_w_law_437 ?_
  have hpre := rl_B.pre (av := .ref (a2 0) :: [.int (xs (1 : Int32).toNatClampNeg), .int (xs (2 : Int32).toNatClampNeg), .int (xs (3 : Int32).toNatClampNeg), .int (xs (4 : Int32).toNatClampNeg), .int (xs (5 : Int32).toNatClampNeg)]) rl_nw0 (rl_P.r hP) hK2 (rl_D.r hD) rl_N0
  refine rl_calliR hP hD hS hA (va_runV (As := [.int (xs (1 : Int32).toNatClampNeg), .int (xs (2 : Int32).toNatClampNeg), .int (xs (3 : Int32).toNatClampNeg), .int (xs (4 : Int32).toNatClampNeg), .int (xs (5 : Int32).toNatClampNeg)]) (rest := [.int r6]) ⟨hx, hb, hml, hown, hG⟩ (k_m_ask l D a2 kI kZ (xs (1 : Int32).toNatClampNeg) (xs (2 : Int32).toNatClampNeg) (xs (3 : Int32).toNatClampNeg) (xs (4 : Int32).toNatClampNeg) (xs (5 : Int32).toNatClampNeg) _) (cwV 5 hG (rl_gV wd_615 wd_616 wd_617 wd_19 wd_618) rfl rfl rfl (by decide +kernel) ⟨Nat.le_of_ble_eq_true rfl, Nat.le_of_ble_eq_true rfl⟩) ⟨hpre.1, (va_recv hK (rl_P.r hP) (ci := 5) (q0 := 0) rfl rfl), hpre.2⟩ rfl rfl hl.1 rfl (lv_room (Nat.le_of_ble_eq_true rfl)) d_w_law_438 ⟨Nat.le_of_ble_eq_true rfl, Nat.le_of_ble_eq_true rfl⟩) (fun r13 F15 H locs h14 hP hD hS => ?_)
  have hP : va_P D rl_cl ((rl_w a kI kZ rl_F0 ++ rl_O kL q (fun _ => 0)) ++ rm_w a2 kI kZ F15) H := hP
  have hD : va_D (fun q : Nat => s.heap.size ≤ q) ((rl_w a kI kZ rl_F0 ++ rl_O kL q (fun _ => 0)) ++ rm_w a2 kI kZ F15) := hD
  refine lv_icmp_eq (tgt := 931) hx hb d_w_law_441 (by decide) (fun _ => ?_) (fun c9 => absurd (Int32.toInt_inj.mp (by omega)) c9)
  exact law_end hx hb hr hlocks hX hbl hS (Nat.le_of_ble_eq_true rfl) (Nat.le_of_ble_eq_true rfl) (lv_sub hl [0, 4] rfl)
set_option maxHeartbeats 4000000 in
set_option maxRecDepth 100000 in
theorem law_6 {p : Program} {l : Launch} {e : Env} {s : State} {m : MethodId} {below : List Frame} {meth : Method} {c : Code} {b : Nat} {xs : Nat → Int32} {D : va_G} {a a2 : Nat → Nat} {kI kZ kL : ClassId} {q : Nat} {H : Heap} {locs : List Loc} {ls : Array Slot} (C : lw_I p l s m meth c b xs D a a2 kI kZ kL q H locs ls) : W p l e room_1 s m #[Value.ref b] below meth c H locs 60 9971 (lw_Z below #[Value.ref b] s) (F0 m 446 ls []) := by
  obtain ⟨hx, hb, hr, hml, hown, hG, hlocks, hX, hbl, hK, hZ, hC, hlt, hP, hD, hS, hl⟩ := C
  have hA : ∀ q : Nat, s.heap.size ≤ q → (fun q : Nat => s.heap.size ≤ q) q := fun _ h => h
  have hbA : ¬ (fun q : Nat => s.heap.size ≤ q) b := Nat.not_le.mpr hbl
  have hK2 := hK.sub (tys' := rl_tys kI kZ) [0, 1] rfl
  refine lv_aload_n hx hb d_w_law_446 rfl (lv_at hl 3 rfl) ?_
  have hpre := rl_BR.pre (av := .ref (a 0) :: []) rl_nw0 (rl_P.l (rl_P.l hP)) hK2 rl_N0
  refine rl_callr hS (va_runV (As := []) (rest := []) ⟨hx, hb, hml, hown, hG⟩ (k_x_why l D a kI kZ _) (cwV 0 hG (rl_gV wd_307 wd_308 wd_309 wd_14 wd_310) rfl rfl rfl (by decide +kernel) ⟨Nat.le_of_ble_eq_true rfl, Nat.le_of_ble_eq_true rfl⟩) ⟨hpre.1, (va_recv hK (rl_P.l (rl_P.l hP)) (ci := 0) (q0 := 0) rfl rfl), hpre.2⟩ rfl rfl hl.1 rfl (lv_room (Nat.le_of_ble_eq_true rfl)) d_w_law_447 ⟨Nat.le_of_ble_eq_true rfl, Nat.le_of_ble_eq_true rfl⟩) (fun r1 locs h2 hS => ?_)
  refine lv_aload_n hx hb d_w_law_450 rfl (lv_at hl 2 rfl) ?_
  have hpre := rl_B.pre (av := .ref (a2 0) :: []) rl_nw0 (rl_P.r hP) hK2 (rl_D.r hD) rl_N0
  refine rl_calliR hP hD hS hA (va_runV (As := []) (rest := [.int r1]) ⟨hx, hb, hml, hown, hG⟩ (k_m_why l D a2 kI kZ _) (cwV 0 hG (rl_gV wd_641 wd_642 wd_643 wd_19 wd_644) rfl rfl rfl (by decide +kernel) ⟨Nat.le_of_ble_eq_true rfl, Nat.le_of_ble_eq_true rfl⟩) ⟨hpre.1, (va_recv hK (rl_P.r hP) (ci := 5) (q0 := 0) rfl rfl), hpre.2⟩ rfl rfl hl.1 rfl (lv_room (Nat.le_of_ble_eq_true rfl)) d_w_law_451 ⟨Nat.le_of_ble_eq_true rfl, Nat.le_of_ble_eq_true rfl⟩) (fun r3 F5 H locs h4 hP hD hS => ?_)
  have hP : va_P D rl_cl ((rl_w a kI kZ rl_F0 ++ rl_O kL q (fun _ => 0)) ++ rm_w a2 kI kZ F5) H := hP
  have hD : va_D (fun q : Nat => s.heap.size ≤ q) ((rl_w a kI kZ rl_F0 ++ rl_O kL q (fun _ => 0)) ++ rm_w a2 kI kZ F5) := hD
  refine lv_icmp_eq (tgt := 931) hx hb d_w_law_454 (by decide) (fun _ => ?_) (fun c9 => absurd (Int32.toInt_inj.mp (by omega)) c9)
  exact law_end hx hb hr hlocks hX hbl hS (Nat.le_of_ble_eq_true rfl) (Nat.le_of_ble_eq_true rfl) (lv_sub hl [0, 4] rfl)
set_option maxHeartbeats 4000000 in
set_option maxRecDepth 100000 in
theorem law_7 {p : Program} {l : Launch} {e : Env} {s : State} {m : MethodId} {below : List Frame} {meth : Method} {c : Code} {b : Nat} {xs : Nat → Int32} {D : va_G} {a a2 : Nat → Nat} {kI kZ kL : ClassId} {q : Nat} {H : Heap} {locs : List Loc} {ls : Array Slot} (C : lw_I p l s m meth c b xs D a a2 kI kZ kL q H locs ls) : W p l e room_1 s m #[Value.ref b] below meth c H locs 60 9971 (lw_Z below #[Value.ref b] s) (F0 m 459 ls []) := by
  obtain ⟨hx, hb, hr, hml, hown, hG, hlocks, hX, hbl, hK, hZ, hC, hlt, hP, hD, hS, hl⟩ := C
  have hA : ∀ q : Nat, s.heap.size ≤ q → (fun q : Nat => s.heap.size ≤ q) q := fun _ h => h
  have hbA : ¬ (fun q : Nat => s.heap.size ≤ q) b := Nat.not_le.mpr hbl
  have hK2 := hK.sub (tys' := rl_tys kI kZ) [0, 1] rfl
  refine lv_aload_n hx hb d_w_law_459 rfl (lv_at hl 3 rfl) ?_
  refine lv_aload_n hx hb d_w_law_460 rfl (lv_at hl 4 rfl) ?_
  refine lv_iload hx hb d_w_law_461 (lv_at hl 0 rfl) ?_
  refine lv_iconst (v := 1) hx hb d_w_law_463 (by decide) ?_
  refine lv_iadd hx hb d_w_law_464 ?_
  refine lv_topi (fun v1 ev1 => ?_)
  obtain rfl : v1 = 1 := ev1.trans (by decide)
  refine va_sld hx hb hX hbl hbA hS (rl_in (x := 1) (n := 6) (by decide) (by decide)) d_w_law_465 ?_
  refine lv_aload_n hx hb d_w_law_466 rfl (lv_at hl 4 rfl) ?_
  refine lv_iload hx hb d_w_law_467 (lv_at hl 0 rfl) ?_
  refine lv_iconst (v := 2) hx hb d_w_law_469 (by decide) ?_
  refine lv_iadd hx hb d_w_law_470 ?_
  refine lv_topi (fun v2 ev2 => ?_)
  obtain rfl : v2 = 2 := ev2.trans (by decide)
  refine va_sld hx hb hX hbl hbA hS (rl_in (x := 2) (n := 6) (by decide) (by decide)) d_w_law_471 ?_
  refine lv_aload_n hx hb d_w_law_472 rfl (lv_at hl 4 rfl) ?_
  refine lv_iload hx hb d_w_law_473 (lv_at hl 0 rfl) ?_
  refine lv_iconst (v := 3) hx hb d_w_law_475 (by decide) ?_
  refine lv_iadd hx hb d_w_law_476 ?_
  refine lv_topi (fun v3 ev3 => ?_)
  obtain rfl : v3 = 3 := ev3.trans (by decide)
  refine va_sld hx hb hX hbl hbA hS (rl_in (x := 3) (n := 6) (by decide) (by decide)) d_w_law_477 ?_
  refine lv_if_eq (tgt := 485) hx hb d_w_law_478 (by decide) (fun _ => ?_) (fun _ => ?_)
  · refine lv_iconst (v := 0) hx hb d_w_law_485 (by decide) ?_
    have hpre := rl_B.pre (av := .ref (a 0) :: [.int (xs (1 : Int32).toNatClampNeg), .int (xs (2 : Int32).toNatClampNeg), .int 0]) rl_nw0 (rl_P.l (rl_P.l hP)) hK2 (rl_D.l (rl_D.l hD)) rl_N0
    refine rl_calliL hP hD hS hA (va_runV (As := [.int (xs (1 : Int32).toNatClampNeg), .int (xs (2 : Int32).toNatClampNeg), .int 0]) (rest := []) ⟨hx, hb, hml, hown, hG⟩ (k_x_give l D a kI kZ (xs (1 : Int32).toNatClampNeg) (xs (2 : Int32).toNatClampNeg) 0 _) (cwV 3 hG (rl_gV wd_311 wd_312 wd_313 wd_14 wd_314) rfl rfl rfl (by decide +kernel) ⟨Nat.le_of_ble_eq_true rfl, Nat.le_of_ble_eq_true rfl⟩) ⟨hpre.1, (va_recv hK (rl_P.l (rl_P.l hP)) (ci := 0) (q0 := 0) rfl rfl), hpre.2⟩ rfl rfl hl.1 rfl (lv_room (Nat.le_of_ble_eq_true rfl)) d_w_law_486 ⟨Nat.le_of_ble_eq_true rfl, Nat.le_of_ble_eq_true rfl⟩) (fun r4 F6 H locs h5 hP hD hS => ?_)
    have hP : va_P D rl_cl ((rl_w a kI kZ F6 ++ rl_O kL q (fun _ => 0)) ++ rm_w a2 kI kZ rm_F0) H := hP
    have hD : va_D (fun q : Nat => s.heap.size ≤ q) ((rl_w a kI kZ F6 ++ rl_O kL q (fun _ => 0)) ++ rm_w a2 kI kZ rm_F0) := hD
    refine lv_aload_n hx hb d_w_law_489 rfl (lv_at hl 2 rfl) ?_
    refine lv_aload_n hx hb d_w_law_490 rfl (lv_at hl 4 rfl) ?_
    refine lv_iload hx hb d_w_law_491 (lv_at hl 0 rfl) ?_
    refine lv_iconst (v := 1) hx hb d_w_law_493 (by decide) ?_
    refine lv_iadd hx hb d_w_law_494 ?_
    refine lv_topi (fun v7 ev7 => ?_)
    obtain rfl : v7 = 1 := ev7.trans (by decide)
    refine va_sld hx hb hX hbl hbA hS (rl_in (x := 1) (n := 6) (by decide) (by decide)) d_w_law_495 ?_
    refine lv_aload_n hx hb d_w_law_496 rfl (lv_at hl 4 rfl) ?_
    refine lv_iload hx hb d_w_law_497 (lv_at hl 0 rfl) ?_
    refine lv_iconst (v := 2) hx hb d_w_law_499 (by decide) ?_
    refine lv_iadd hx hb d_w_law_500 ?_
    refine lv_topi (fun v8 ev8 => ?_)
    obtain rfl : v8 = 2 := ev8.trans (by decide)
    refine va_sld hx hb hX hbl hbA hS (rl_in (x := 2) (n := 6) (by decide) (by decide)) d_w_law_501 ?_
    refine lv_aload_n hx hb d_w_law_502 rfl (lv_at hl 4 rfl) ?_
    refine lv_iload hx hb d_w_law_503 (lv_at hl 0 rfl) ?_
    refine lv_iconst (v := 3) hx hb d_w_law_505 (by decide) ?_
    refine lv_iadd hx hb d_w_law_506 ?_
    refine lv_topi (fun v9 ev9 => ?_)
    obtain rfl : v9 = 3 := ev9.trans (by decide)
    refine va_sld hx hb hX hbl hbA hS (rl_in (x := 3) (n := 6) (by decide) (by decide)) d_w_law_507 ?_
    refine lv_if_eq (tgt := 515) hx hb d_w_law_508 (by decide) (fun _ => ?_) (fun _ => ?_)
    · refine lv_iconst (v := 0) hx hb d_w_law_515 (by decide) ?_
      have hpre := rl_B.pre (av := .ref (a2 0) :: [.int (xs (1 : Int32).toNatClampNeg), .int (xs (2 : Int32).toNatClampNeg), .int 0]) rl_nw0 (rl_P.r hP) hK2 (rl_D.r hD) rl_N0
      refine rl_calliR hP hD hS hA (va_runV (As := [.int (xs (1 : Int32).toNatClampNeg), .int (xs (2 : Int32).toNatClampNeg), .int 0]) (rest := [.int r4]) ⟨hx, hb, hml, hown, hG⟩ (k_m_give l D a2 kI kZ (xs (1 : Int32).toNatClampNeg) (xs (2 : Int32).toNatClampNeg) 0 _) (cwV 3 hG (rl_gV wd_645 wd_646 wd_647 wd_19 wd_648) rfl rfl rfl (by decide +kernel) ⟨Nat.le_of_ble_eq_true rfl, Nat.le_of_ble_eq_true rfl⟩) ⟨hpre.1, (va_recv hK (rl_P.r hP) (ci := 5) (q0 := 0) rfl rfl), hpre.2⟩ rfl rfl hl.1 rfl (lv_room (Nat.le_of_ble_eq_true rfl)) d_w_law_516 ⟨Nat.le_of_ble_eq_true rfl, Nat.le_of_ble_eq_true rfl⟩) (fun r10 F12 H locs h11 hP hD hS => ?_)
      have hP : va_P D rl_cl ((rl_w a kI kZ F6 ++ rl_O kL q (fun _ => 0)) ++ rm_w a2 kI kZ F12) H := hP
      have hD : va_D (fun q : Nat => s.heap.size ≤ q) ((rl_w a kI kZ F6 ++ rl_O kL q (fun _ => 0)) ++ rm_w a2 kI kZ F12) := hD
      refine lv_icmp_eq (tgt := 931) hx hb d_w_law_519 (by decide) (fun _ => ?_) (fun c9 => absurd (Int32.toInt_inj.mp (by omega)) c9)
      exact law_end hx hb hr hlocks hX hbl hS (Nat.le_of_ble_eq_true rfl) (Nat.le_of_ble_eq_true rfl) (lv_sub hl [0, 4] rfl)
    · refine lv_iconst (v := 1) hx hb d_w_law_511 (by decide) ?_
      refine lv_goto (tgt := 516) hx hb d_w_law_512 (by decide) ?_
      have hpre := rl_B.pre (av := .ref (a2 0) :: [.int (xs (1 : Int32).toNatClampNeg), .int (xs (2 : Int32).toNatClampNeg), .int 1]) rl_nw0 (rl_P.r hP) hK2 (rl_D.r hD) rl_N0
      refine rl_calliR hP hD hS hA (va_runV (As := [.int (xs (1 : Int32).toNatClampNeg), .int (xs (2 : Int32).toNatClampNeg), .int 1]) (rest := [.int r4]) ⟨hx, hb, hml, hown, hG⟩ (k_m_give l D a2 kI kZ (xs (1 : Int32).toNatClampNeg) (xs (2 : Int32).toNatClampNeg) 1 _) (cwV 3 hG (rl_gV wd_645 wd_646 wd_647 wd_19 wd_648) rfl rfl rfl (by decide +kernel) ⟨Nat.le_of_ble_eq_true rfl, Nat.le_of_ble_eq_true rfl⟩) ⟨hpre.1, (va_recv hK (rl_P.r hP) (ci := 5) (q0 := 0) rfl rfl), hpre.2⟩ rfl rfl hl.1 rfl (lv_room (Nat.le_of_ble_eq_true rfl)) d_w_law_516 ⟨Nat.le_of_ble_eq_true rfl, Nat.le_of_ble_eq_true rfl⟩) (fun r13 F15 H locs h14 hP hD hS => ?_)
      have hP : va_P D rl_cl ((rl_w a kI kZ F6 ++ rl_O kL q (fun _ => 0)) ++ rm_w a2 kI kZ F15) H := hP
      have hD : va_D (fun q : Nat => s.heap.size ≤ q) ((rl_w a kI kZ F6 ++ rl_O kL q (fun _ => 0)) ++ rm_w a2 kI kZ F15) := hD
      refine lv_icmp_eq (tgt := 931) hx hb d_w_law_519 (by decide) (fun _ => ?_) (fun c9 => absurd (Int32.toInt_inj.mp (by omega)) c9)
      exact law_end hx hb hr hlocks hX hbl hS (Nat.le_of_ble_eq_true rfl) (Nat.le_of_ble_eq_true rfl) (lv_sub hl [0, 4] rfl)
  · refine lv_iconst (v := 1) hx hb d_w_law_481 (by decide) ?_
    refine lv_goto (tgt := 486) hx hb d_w_law_482 (by decide) ?_
    have hpre := rl_B.pre (av := .ref (a 0) :: [.int (xs (1 : Int32).toNatClampNeg), .int (xs (2 : Int32).toNatClampNeg), .int 1]) rl_nw0 (rl_P.l (rl_P.l hP)) hK2 (rl_D.l (rl_D.l hD)) rl_N0
    refine rl_calliL hP hD hS hA (va_runV (As := [.int (xs (1 : Int32).toNatClampNeg), .int (xs (2 : Int32).toNatClampNeg), .int 1]) (rest := []) ⟨hx, hb, hml, hown, hG⟩ (k_x_give l D a kI kZ (xs (1 : Int32).toNatClampNeg) (xs (2 : Int32).toNatClampNeg) 1 _) (cwV 3 hG (rl_gV wd_311 wd_312 wd_313 wd_14 wd_314) rfl rfl rfl (by decide +kernel) ⟨Nat.le_of_ble_eq_true rfl, Nat.le_of_ble_eq_true rfl⟩) ⟨hpre.1, (va_recv hK (rl_P.l (rl_P.l hP)) (ci := 0) (q0 := 0) rfl rfl), hpre.2⟩ rfl rfl hl.1 rfl (lv_room (Nat.le_of_ble_eq_true rfl)) d_w_law_486 ⟨Nat.le_of_ble_eq_true rfl, Nat.le_of_ble_eq_true rfl⟩) (fun r16 F18 H locs h17 hP hD hS => ?_)
    have hP : va_P D rl_cl ((rl_w a kI kZ F18 ++ rl_O kL q (fun _ => 0)) ++ rm_w a2 kI kZ rm_F0) H := hP
    have hD : va_D (fun q : Nat => s.heap.size ≤ q) ((rl_w a kI kZ F18 ++ rl_O kL q (fun _ => 0)) ++ rm_w a2 kI kZ rm_F0) := hD
    refine lv_aload_n hx hb d_w_law_489 rfl (lv_at hl 2 rfl) ?_
    refine lv_aload_n hx hb d_w_law_490 rfl (lv_at hl 4 rfl) ?_
    refine lv_iload hx hb d_w_law_491 (lv_at hl 0 rfl) ?_
    refine lv_iconst (v := 1) hx hb d_w_law_493 (by decide) ?_
    refine lv_iadd hx hb d_w_law_494 ?_
    refine lv_topi (fun v19 ev19 => ?_)
    obtain rfl : v19 = 1 := ev19.trans (by decide)
    refine va_sld hx hb hX hbl hbA hS (rl_in (x := 1) (n := 6) (by decide) (by decide)) d_w_law_495 ?_
    refine lv_aload_n hx hb d_w_law_496 rfl (lv_at hl 4 rfl) ?_
    refine lv_iload hx hb d_w_law_497 (lv_at hl 0 rfl) ?_
    refine lv_iconst (v := 2) hx hb d_w_law_499 (by decide) ?_
    refine lv_iadd hx hb d_w_law_500 ?_
    refine lv_topi (fun v20 ev20 => ?_)
    obtain rfl : v20 = 2 := ev20.trans (by decide)
    refine va_sld hx hb hX hbl hbA hS (rl_in (x := 2) (n := 6) (by decide) (by decide)) d_w_law_501 ?_
    refine lv_aload_n hx hb d_w_law_502 rfl (lv_at hl 4 rfl) ?_
    refine lv_iload hx hb d_w_law_503 (lv_at hl 0 rfl) ?_
    refine lv_iconst (v := 3) hx hb d_w_law_505 (by decide) ?_
    refine lv_iadd hx hb d_w_law_506 ?_
    refine lv_topi (fun v21 ev21 => ?_)
    obtain rfl : v21 = 3 := ev21.trans (by decide)
    refine va_sld hx hb hX hbl hbA hS (rl_in (x := 3) (n := 6) (by decide) (by decide)) d_w_law_507 ?_
    refine lv_if_eq (tgt := 515) hx hb d_w_law_508 (by decide) (fun _ => ?_) (fun _ => ?_)
    · refine lv_iconst (v := 0) hx hb d_w_law_515 (by decide) ?_
      have hpre := rl_B.pre (av := .ref (a2 0) :: [.int (xs (1 : Int32).toNatClampNeg), .int (xs (2 : Int32).toNatClampNeg), .int 0]) rl_nw0 (rl_P.r hP) hK2 (rl_D.r hD) rl_N0
      refine rl_calliR hP hD hS hA (va_runV (As := [.int (xs (1 : Int32).toNatClampNeg), .int (xs (2 : Int32).toNatClampNeg), .int 0]) (rest := [.int r16]) ⟨hx, hb, hml, hown, hG⟩ (k_m_give l D a2 kI kZ (xs (1 : Int32).toNatClampNeg) (xs (2 : Int32).toNatClampNeg) 0 _) (cwV 3 hG (rl_gV wd_645 wd_646 wd_647 wd_19 wd_648) rfl rfl rfl (by decide +kernel) ⟨Nat.le_of_ble_eq_true rfl, Nat.le_of_ble_eq_true rfl⟩) ⟨hpre.1, (va_recv hK (rl_P.r hP) (ci := 5) (q0 := 0) rfl rfl), hpre.2⟩ rfl rfl hl.1 rfl (lv_room (Nat.le_of_ble_eq_true rfl)) d_w_law_516 ⟨Nat.le_of_ble_eq_true rfl, Nat.le_of_ble_eq_true rfl⟩) (fun r22 F24 H locs h23 hP hD hS => ?_)
      have hP : va_P D rl_cl ((rl_w a kI kZ F18 ++ rl_O kL q (fun _ => 0)) ++ rm_w a2 kI kZ F24) H := hP
      have hD : va_D (fun q : Nat => s.heap.size ≤ q) ((rl_w a kI kZ F18 ++ rl_O kL q (fun _ => 0)) ++ rm_w a2 kI kZ F24) := hD
      refine lv_icmp_eq (tgt := 931) hx hb d_w_law_519 (by decide) (fun _ => ?_) (fun c9 => absurd (Int32.toInt_inj.mp (by omega)) c9)
      exact law_end hx hb hr hlocks hX hbl hS (Nat.le_of_ble_eq_true rfl) (Nat.le_of_ble_eq_true rfl) (lv_sub hl [0, 4] rfl)
    · refine lv_iconst (v := 1) hx hb d_w_law_511 (by decide) ?_
      refine lv_goto (tgt := 516) hx hb d_w_law_512 (by decide) ?_
      have hpre := rl_B.pre (av := .ref (a2 0) :: [.int (xs (1 : Int32).toNatClampNeg), .int (xs (2 : Int32).toNatClampNeg), .int 1]) rl_nw0 (rl_P.r hP) hK2 (rl_D.r hD) rl_N0
      refine rl_calliR hP hD hS hA (va_runV (As := [.int (xs (1 : Int32).toNatClampNeg), .int (xs (2 : Int32).toNatClampNeg), .int 1]) (rest := [.int r16]) ⟨hx, hb, hml, hown, hG⟩ (k_m_give l D a2 kI kZ (xs (1 : Int32).toNatClampNeg) (xs (2 : Int32).toNatClampNeg) 1 _) (cwV 3 hG (rl_gV wd_645 wd_646 wd_647 wd_19 wd_648) rfl rfl rfl (by decide +kernel) ⟨Nat.le_of_ble_eq_true rfl, Nat.le_of_ble_eq_true rfl⟩) ⟨hpre.1, (va_recv hK (rl_P.r hP) (ci := 5) (q0 := 0) rfl rfl), hpre.2⟩ rfl rfl hl.1 rfl (lv_room (Nat.le_of_ble_eq_true rfl)) d_w_law_516 ⟨Nat.le_of_ble_eq_true rfl, Nat.le_of_ble_eq_true rfl⟩) (fun r25 F27 H locs h26 hP hD hS => ?_)
      have hP : va_P D rl_cl ((rl_w a kI kZ F18 ++ rl_O kL q (fun _ => 0)) ++ rm_w a2 kI kZ F27) H := hP
      have hD : va_D (fun q : Nat => s.heap.size ≤ q) ((rl_w a kI kZ F18 ++ rl_O kL q (fun _ => 0)) ++ rm_w a2 kI kZ F27) := hD
      refine lv_icmp_eq (tgt := 931) hx hb d_w_law_519 (by decide) (fun _ => ?_) (fun c9 => absurd (Int32.toInt_inj.mp (by omega)) c9)
      exact law_end hx hb hr hlocks hX hbl hS (Nat.le_of_ble_eq_true rfl) (Nat.le_of_ble_eq_true rfl) (lv_sub hl [0, 4] rfl)
set_option maxHeartbeats 4000000 in
set_option maxRecDepth 100000 in
theorem law_8 {p : Program} {l : Launch} {e : Env} {s : State} {m : MethodId} {below : List Frame} {meth : Method} {c : Code} {b : Nat} {xs : Nat → Int32} {D : va_G} {a a2 : Nat → Nat} {kI kZ kL : ClassId} {q : Nat} {H : Heap} {locs : List Loc} {ls : Array Slot} (C : lw_I p l s m meth c b xs D a a2 kI kZ kL q H locs ls) : W p l e room_1 s m #[Value.ref b] below meth c H locs 60 9971 (lw_Z below #[Value.ref b] s) (F0 m 524 ls []) := by
  obtain ⟨hx, hb, hr, hml, hown, hG, hlocks, hX, hbl, hK, hZ, hC, hlt, hP, hD, hS, hl⟩ := C
  have hA : ∀ q : Nat, s.heap.size ≤ q → (fun q : Nat => s.heap.size ≤ q) q := fun _ h => h
  have hbA : ¬ (fun q : Nat => s.heap.size ≤ q) b := Nat.not_le.mpr hbl
  have hK2 := hK.sub (tys' := rl_tys kI kZ) [0, 1] rfl
  refine lv_aload_n hx hb d_w_law_524 rfl (lv_at hl 3 rfl) ?_
  refine lv_aload_n hx hb d_w_law_525 rfl (lv_at hl 4 rfl) ?_
  refine lv_iload hx hb d_w_law_526 (lv_at hl 0 rfl) ?_
  refine lv_iconst (v := 1) hx hb d_w_law_528 (by decide) ?_
  refine lv_iadd hx hb d_w_law_529 ?_
  refine lv_topi (fun v1 ev1 => ?_)
  obtain rfl : v1 = 1 := ev1.trans (by decide)
  refine va_sld hx hb hX hbl hbA hS (rl_in (x := 1) (n := 6) (by decide) (by decide)) d_w_law_530 ?_
  refine lv_aload_n hx hb d_w_law_531 rfl (lv_at hl 4 rfl) ?_
  refine lv_iload hx hb d_w_law_532 (lv_at hl 0 rfl) ?_
  refine lv_iconst (v := 2) hx hb d_w_law_534 (by decide) ?_
  refine lv_iadd hx hb d_w_law_535 ?_
  refine lv_topi (fun v2 ev2 => ?_)
  obtain rfl : v2 = 2 := ev2.trans (by decide)
  refine va_sld hx hb hX hbl hbA hS (rl_in (x := 2) (n := 6) (by decide) (by decide)) d_w_law_536 ?_
  have hpre := rl_BR.pre (av := .ref (a 0) :: [.int (xs (1 : Int32).toNatClampNeg), .int (xs (2 : Int32).toNatClampNeg)]) rl_nw0 (rl_P.l (rl_P.l hP)) hK2 rl_N0
  refine rl_callr hS (va_runV (As := [.int (xs (1 : Int32).toNatClampNeg), .int (xs (2 : Int32).toNatClampNeg)]) (rest := []) ⟨hx, hb, hml, hown, hG⟩ (k_x_right l D a kI kZ (xs (1 : Int32).toNatClampNeg) (xs (2 : Int32).toNatClampNeg) _) (cwV 2 hG (rl_gV wd_315 wd_316 wd_317 wd_14 wd_318) rfl rfl rfl (by decide +kernel) ⟨Nat.le_of_ble_eq_true rfl, Nat.le_of_ble_eq_true rfl⟩) ⟨hpre.1, (va_recv hK (rl_P.l (rl_P.l hP)) (ci := 0) (q0 := 0) rfl rfl), hpre.2⟩ rfl rfl hl.1 rfl (lv_room (Nat.le_of_ble_eq_true rfl)) d_w_law_537 ⟨Nat.le_of_ble_eq_true rfl, Nat.le_of_ble_eq_true rfl⟩) (fun r3 locs h4 hS => ?_)
  refine lv_aload_n hx hb d_w_law_540 rfl (lv_at hl 2 rfl) ?_
  refine lv_aload_n hx hb d_w_law_541 rfl (lv_at hl 4 rfl) ?_
  refine lv_iload hx hb d_w_law_542 (lv_at hl 0 rfl) ?_
  refine lv_iconst (v := 1) hx hb d_w_law_544 (by decide) ?_
  refine lv_iadd hx hb d_w_law_545 ?_
  refine lv_topi (fun v5 ev5 => ?_)
  obtain rfl : v5 = 1 := ev5.trans (by decide)
  refine va_sld hx hb hX hbl hbA hS (rl_in (x := 1) (n := 6) (by decide) (by decide)) d_w_law_546 ?_
  refine lv_aload_n hx hb d_w_law_547 rfl (lv_at hl 4 rfl) ?_
  refine lv_iload hx hb d_w_law_548 (lv_at hl 0 rfl) ?_
  refine lv_iconst (v := 2) hx hb d_w_law_550 (by decide) ?_
  refine lv_iadd hx hb d_w_law_551 ?_
  refine lv_topi (fun v6 ev6 => ?_)
  obtain rfl : v6 = 2 := ev6.trans (by decide)
  refine va_sld hx hb hX hbl hbA hS (rl_in (x := 2) (n := 6) (by decide) (by decide)) d_w_law_552 ?_
  have hpre := rl_B.pre (av := .ref (a2 0) :: [.int (xs (1 : Int32).toNatClampNeg), .int (xs (2 : Int32).toNatClampNeg)]) rl_nw0 (rl_P.r hP) hK2 (rl_D.r hD) rl_N0
  refine rl_calliR hP hD hS hA (va_runV (As := [.int (xs (1 : Int32).toNatClampNeg), .int (xs (2 : Int32).toNatClampNeg)]) (rest := [.int r3]) ⟨hx, hb, hml, hown, hG⟩ (k_m_right l D a2 kI kZ (xs (1 : Int32).toNatClampNeg) (xs (2 : Int32).toNatClampNeg) _) (cwV 2 hG (rl_gV wd_649 wd_650 wd_651 wd_19 wd_652) rfl rfl rfl (by decide +kernel) ⟨Nat.le_of_ble_eq_true rfl, Nat.le_of_ble_eq_true rfl⟩) ⟨hpre.1, (va_recv hK (rl_P.r hP) (ci := 5) (q0 := 0) rfl rfl), hpre.2⟩ rfl rfl hl.1 rfl (lv_room (Nat.le_of_ble_eq_true rfl)) d_w_law_553 ⟨Nat.le_of_ble_eq_true rfl, Nat.le_of_ble_eq_true rfl⟩) (fun r7 F9 H locs h8 hP hD hS => ?_)
  have hP : va_P D rl_cl ((rl_w a kI kZ rl_F0 ++ rl_O kL q (fun _ => 0)) ++ rm_w a2 kI kZ F9) H := hP
  have hD : va_D (fun q : Nat => s.heap.size ≤ q) ((rl_w a kI kZ rl_F0 ++ rl_O kL q (fun _ => 0)) ++ rm_w a2 kI kZ F9) := hD
  refine lv_icmp_eq (tgt := 931) hx hb d_w_law_556 (by decide) (fun _ => ?_) (fun c9 => absurd (Int32.toInt_inj.mp (by omega)) c9)
  exact law_end hx hb hr hlocks hX hbl hS (Nat.le_of_ble_eq_true rfl) (Nat.le_of_ble_eq_true rfl) (lv_sub hl [0, 4] rfl)
set_option maxHeartbeats 4000000 in
set_option maxRecDepth 100000 in
theorem law_9 {p : Program} {l : Launch} {e : Env} {s : State} {m : MethodId} {below : List Frame} {meth : Method} {c : Code} {b : Nat} {xs : Nat → Int32} {D : va_G} {a a2 : Nat → Nat} {kI kZ kL : ClassId} {q : Nat} {H : Heap} {locs : List Loc} {ls : Array Slot} (C : lw_I p l s m meth c b xs D a a2 kI kZ kL q H locs ls) : W p l e room_1 s m #[Value.ref b] below meth c H locs 60 9971 (lw_Z below #[Value.ref b] s) (F0 m 561 ls []) := by
  obtain ⟨hx, hb, hr, hml, hown, hG, hlocks, hX, hbl, hK, hZ, hC, hlt, hP, hD, hS, hl⟩ := C
  have hA : ∀ q : Nat, s.heap.size ≤ q → (fun q : Nat => s.heap.size ≤ q) q := fun _ h => h
  have hbA : ¬ (fun q : Nat => s.heap.size ≤ q) b := Nat.not_le.mpr hbl
  have hK2 := hK.sub (tys' := rl_tys kI kZ) [0, 1] rfl
  refine lv_aload_n hx hb d_w_law_561 rfl (lv_at hl 3 rfl) ?_
  refine lv_aload_n hx hb d_w_law_562 rfl (lv_at hl 4 rfl) ?_
  refine lv_iload hx hb d_w_law_563 (lv_at hl 0 rfl) ?_
  refine lv_iconst (v := 1) hx hb d_w_law_565 (by decide) ?_
  refine lv_iadd hx hb d_w_law_566 ?_
  refine lv_topi (fun v1 ev1 => ?_)
  obtain rfl : v1 = 1 := ev1.trans (by decide)
  refine va_sld hx hb hX hbl hbA hS (rl_in (x := 1) (n := 6) (by decide) (by decide)) d_w_law_567 ?_
  refine lv_aload_n hx hb d_w_law_568 rfl (lv_at hl 4 rfl) ?_
  refine lv_iload hx hb d_w_law_569 (lv_at hl 0 rfl) ?_
  refine lv_iconst (v := 2) hx hb d_w_law_571 (by decide) ?_
  refine lv_iadd hx hb d_w_law_572 ?_
  refine lv_topi (fun v2 ev2 => ?_)
  obtain rfl : v2 = 2 := ev2.trans (by decide)
  refine va_sld hx hb hX hbl hbA hS (rl_in (x := 2) (n := 6) (by decide) (by decide)) d_w_law_573 ?_
  have hpre := rl_BR.pre (av := .ref (a 0) :: [.int (xs (1 : Int32).toNatClampNeg), .int (xs (2 : Int32).toNatClampNeg)]) rl_nw0 (rl_P.l (rl_P.l hP)) hK2 rl_N0
  refine rl_callr hS (va_runV (As := [.int (xs (1 : Int32).toNatClampNeg), .int (xs (2 : Int32).toNatClampNeg)]) (rest := []) ⟨hx, hb, hml, hown, hG⟩ (k_x_waive l D a kI kZ (xs (1 : Int32).toNatClampNeg) (xs (2 : Int32).toNatClampNeg) _) (cwV 2 hG (rl_gV wd_319 wd_320 wd_321 wd_14 wd_322) rfl rfl rfl (by decide +kernel) ⟨Nat.le_of_ble_eq_true rfl, Nat.le_of_ble_eq_true rfl⟩) ⟨hpre.1, (va_recv hK (rl_P.l (rl_P.l hP)) (ci := 0) (q0 := 0) rfl rfl), hpre.2⟩ rfl rfl hl.1 rfl (lv_room (Nat.le_of_ble_eq_true rfl)) d_w_law_574 ⟨Nat.le_of_ble_eq_true rfl, Nat.le_of_ble_eq_true rfl⟩) (fun r3 locs h4 hS => ?_)
  refine lv_aload_n hx hb d_w_law_577 rfl (lv_at hl 2 rfl) ?_
  refine lv_aload_n hx hb d_w_law_578 rfl (lv_at hl 4 rfl) ?_
  refine lv_iload hx hb d_w_law_579 (lv_at hl 0 rfl) ?_
  refine lv_iconst (v := 1) hx hb d_w_law_581 (by decide) ?_
  refine lv_iadd hx hb d_w_law_582 ?_
  refine lv_topi (fun v5 ev5 => ?_)
  obtain rfl : v5 = 1 := ev5.trans (by decide)
  refine va_sld hx hb hX hbl hbA hS (rl_in (x := 1) (n := 6) (by decide) (by decide)) d_w_law_583 ?_
  refine lv_aload_n hx hb d_w_law_584 rfl (lv_at hl 4 rfl) ?_
  refine lv_iload hx hb d_w_law_585 (lv_at hl 0 rfl) ?_
  refine lv_iconst (v := 2) hx hb d_w_law_587 (by decide) ?_
  refine lv_iadd hx hb d_w_law_588 ?_
  refine lv_topi (fun v6 ev6 => ?_)
  obtain rfl : v6 = 2 := ev6.trans (by decide)
  refine va_sld hx hb hX hbl hbA hS (rl_in (x := 2) (n := 6) (by decide) (by decide)) d_w_law_589 ?_
  have hpre := rl_B.pre (av := .ref (a2 0) :: [.int (xs (1 : Int32).toNatClampNeg), .int (xs (2 : Int32).toNatClampNeg)]) rl_nw0 (rl_P.r hP) hK2 (rl_D.r hD) rl_N0
  refine rl_calliR hP hD hS hA (va_runV (As := [.int (xs (1 : Int32).toNatClampNeg), .int (xs (2 : Int32).toNatClampNeg)]) (rest := [.int r3]) ⟨hx, hb, hml, hown, hG⟩ (k_m_waive l D a2 kI kZ (xs (1 : Int32).toNatClampNeg) (xs (2 : Int32).toNatClampNeg) _) (cwV 2 hG (rl_gV wd_653 wd_654 wd_655 wd_19 wd_656) rfl rfl rfl (by decide +kernel) ⟨Nat.le_of_ble_eq_true rfl, Nat.le_of_ble_eq_true rfl⟩) ⟨hpre.1, (va_recv hK (rl_P.r hP) (ci := 5) (q0 := 0) rfl rfl), hpre.2⟩ rfl rfl hl.1 rfl (lv_room (Nat.le_of_ble_eq_true rfl)) d_w_law_590 ⟨Nat.le_of_ble_eq_true rfl, Nat.le_of_ble_eq_true rfl⟩) (fun r7 F9 H locs h8 hP hD hS => ?_)
  have hP : va_P D rl_cl ((rl_w a kI kZ rl_F0 ++ rl_O kL q (fun _ => 0)) ++ rm_w a2 kI kZ F9) H := hP
  have hD : va_D (fun q : Nat => s.heap.size ≤ q) ((rl_w a kI kZ rl_F0 ++ rl_O kL q (fun _ => 0)) ++ rm_w a2 kI kZ F9) := hD
  refine lv_icmp_eq (tgt := 931) hx hb d_w_law_593 (by decide) (fun _ => ?_) (fun c9 => absurd (Int32.toInt_inj.mp (by omega)) c9)
  exact law_end hx hb hr hlocks hX hbl hS (Nat.le_of_ble_eq_true rfl) (Nat.le_of_ble_eq_true rfl) (lv_sub hl [0, 4] rfl)
set_option maxHeartbeats 4000000 in
set_option maxRecDepth 100000 in
theorem law_10 {p : Program} {l : Launch} {e : Env} {s : State} {m : MethodId} {below : List Frame} {meth : Method} {c : Code} {b : Nat} {xs : Nat → Int32} {D : va_G} {a a2 : Nat → Nat} {kI kZ kL : ClassId} {q : Nat} {H : Heap} {locs : List Loc} {ls : Array Slot} (C : lw_I p l s m meth c b xs D a a2 kI kZ kL q H locs ls) : W p l e room_1 s m #[Value.ref b] below meth c H locs 60 9971 (lw_Z below #[Value.ref b] s) (F0 m 598 ls []) := by
  obtain ⟨hx, hb, hr, hml, hown, hG, hlocks, hX, hbl, hK, hZ, hC, hlt, hP, hD, hS, hl⟩ := C
  have hA : ∀ q : Nat, s.heap.size ≤ q → (fun q : Nat => s.heap.size ≤ q) q := fun _ h => h
  have hbA : ¬ (fun q : Nat => s.heap.size ≤ q) b := Nat.not_le.mpr hbl
  have hK2 := hK.sub (tys' := rl_tys kI kZ) [0, 1] rfl
  refine lv_aload_n hx hb d_w_law_598 rfl (lv_at hl 3 rfl) ?_
  refine lv_aload_n hx hb d_w_law_599 rfl (lv_at hl 4 rfl) ?_
  refine lv_iload hx hb d_w_law_600 (lv_at hl 0 rfl) ?_
  refine lv_iconst (v := 1) hx hb d_w_law_602 (by decide) ?_
  refine lv_iadd hx hb d_w_law_603 ?_
  refine lv_topi (fun v1 ev1 => ?_)
  obtain rfl : v1 = 1 := ev1.trans (by decide)
  refine va_sld hx hb hX hbl hbA hS (rl_in (x := 1) (n := 6) (by decide) (by decide)) d_w_law_604 ?_
  refine lv_aload_n hx hb d_w_law_605 rfl (lv_at hl 4 rfl) ?_
  refine lv_iload hx hb d_w_law_606 (lv_at hl 0 rfl) ?_
  refine lv_iconst (v := 2) hx hb d_w_law_608 (by decide) ?_
  refine lv_iadd hx hb d_w_law_609 ?_
  refine lv_topi (fun v2 ev2 => ?_)
  obtain rfl : v2 = 2 := ev2.trans (by decide)
  refine va_sld hx hb hX hbl hbA hS (rl_in (x := 2) (n := 6) (by decide) (by decide)) d_w_law_610 ?_
  have hpre := rl_BR.pre (av := .ref (a 0) :: [.int (xs (1 : Int32).toNatClampNeg), .int (xs (2 : Int32).toNatClampNeg)]) rl_nw0 (rl_P.l (rl_P.l hP)) hK2 rl_N0
  refine rl_callr hS (va_runV (As := [.int (xs (1 : Int32).toNatClampNeg), .int (xs (2 : Int32).toNatClampNeg)]) (rest := []) ⟨hx, hb, hml, hown, hG⟩ (k_x_renew l D a kI kZ (xs (1 : Int32).toNatClampNeg) (xs (2 : Int32).toNatClampNeg) _) (cwV 2 hG (rl_gV wd_327 wd_328 wd_329 wd_14 wd_330) rfl rfl rfl (by decide +kernel) ⟨Nat.le_of_ble_eq_true rfl, Nat.le_of_ble_eq_true rfl⟩) ⟨hpre.1, (va_recv hK (rl_P.l (rl_P.l hP)) (ci := 0) (q0 := 0) rfl rfl), hpre.2⟩ rfl rfl hl.1 rfl (lv_room (Nat.le_of_ble_eq_true rfl)) d_w_law_611 ⟨Nat.le_of_ble_eq_true rfl, Nat.le_of_ble_eq_true rfl⟩) (fun r3 locs h4 hS => ?_)
  refine lv_aload_n hx hb d_w_law_614 rfl (lv_at hl 2 rfl) ?_
  refine lv_aload_n hx hb d_w_law_615 rfl (lv_at hl 4 rfl) ?_
  refine lv_iload hx hb d_w_law_616 (lv_at hl 0 rfl) ?_
  refine lv_iconst (v := 1) hx hb d_w_law_618 (by decide) ?_
  refine lv_iadd hx hb d_w_law_619 ?_
  refine lv_topi (fun v5 ev5 => ?_)
  obtain rfl : v5 = 1 := ev5.trans (by decide)
  refine va_sld hx hb hX hbl hbA hS (rl_in (x := 1) (n := 6) (by decide) (by decide)) d_w_law_620 ?_
  refine lv_aload_n hx hb d_w_law_621 rfl (lv_at hl 4 rfl) ?_
  refine lv_iload hx hb d_w_law_622 (lv_at hl 0 rfl) ?_
  refine lv_iconst (v := 2) hx hb d_w_law_624 (by decide) ?_
  refine lv_iadd hx hb d_w_law_625 ?_
  refine lv_topi (fun v6 ev6 => ?_)
  obtain rfl : v6 = 2 := ev6.trans (by decide)
  refine va_sld hx hb hX hbl hbA hS (rl_in (x := 2) (n := 6) (by decide) (by decide)) d_w_law_626 ?_
  have hpre := rl_B.pre (av := .ref (a2 0) :: [.int (xs (1 : Int32).toNatClampNeg), .int (xs (2 : Int32).toNatClampNeg)]) rl_nw0 (rl_P.r hP) hK2 (rl_D.r hD) rl_N0
  refine rl_calliR hP hD hS hA (va_runV (As := [.int (xs (1 : Int32).toNatClampNeg), .int (xs (2 : Int32).toNatClampNeg)]) (rest := [.int r3]) ⟨hx, hb, hml, hown, hG⟩ (k_m_renew l D a2 kI kZ (xs (1 : Int32).toNatClampNeg) (xs (2 : Int32).toNatClampNeg) _) (cwV 2 hG (rl_gV wd_657 wd_658 wd_659 wd_19 wd_660) rfl rfl rfl (by decide +kernel) ⟨Nat.le_of_ble_eq_true rfl, Nat.le_of_ble_eq_true rfl⟩) ⟨hpre.1, (va_recv hK (rl_P.r hP) (ci := 5) (q0 := 0) rfl rfl), hpre.2⟩ rfl rfl hl.1 rfl (lv_room (Nat.le_of_ble_eq_true rfl)) d_w_law_627 ⟨Nat.le_of_ble_eq_true rfl, Nat.le_of_ble_eq_true rfl⟩) (fun r7 F9 H locs h8 hP hD hS => ?_)
  have hP : va_P D rl_cl ((rl_w a kI kZ rl_F0 ++ rl_O kL q (fun _ => 0)) ++ rm_w a2 kI kZ F9) H := hP
  have hD : va_D (fun q : Nat => s.heap.size ≤ q) ((rl_w a kI kZ rl_F0 ++ rl_O kL q (fun _ => 0)) ++ rm_w a2 kI kZ F9) := hD
  refine lv_icmp_eq (tgt := 931) hx hb d_w_law_630 (by decide) (fun _ => ?_) (fun c9 => absurd (Int32.toInt_inj.mp (by omega)) c9)
  exact law_end hx hb hr hlocks hX hbl hS (Nat.le_of_ble_eq_true rfl) (Nat.le_of_ble_eq_true rfl) (lv_sub hl [0, 4] rfl)
set_option maxHeartbeats 4000000 in
set_option maxRecDepth 100000 in
theorem law_11 {p : Program} {l : Launch} {e : Env} {s : State} {m : MethodId} {below : List Frame} {meth : Method} {c : Code} {b : Nat} {xs : Nat → Int32} {D : va_G} {a a2 : Nat → Nat} {kI kZ kL : ClassId} {q : Nat} {H : Heap} {locs : List Loc} {ls : Array Slot} (C : lw_I p l s m meth c b xs D a a2 kI kZ kL q H locs ls) : W p l e room_1 s m #[Value.ref b] below meth c H locs 60 9971 (lw_Z below #[Value.ref b] s) (F0 m 635 ls []) := by
  obtain ⟨hx, hb, hr, hml, hown, hG, hlocks, hX, hbl, hK, hZ, hC, hlt, hP, hD, hS, hl⟩ := C
  have hA : ∀ q : Nat, s.heap.size ≤ q → (fun q : Nat => s.heap.size ≤ q) q := fun _ h => h
  have hbA : ¬ (fun q : Nat => s.heap.size ≤ q) b := Nat.not_le.mpr hbl
  have hK2 := hK.sub (tys' := rl_tys kI kZ) [0, 1] rfl
  refine lv_aload_n hx hb d_w_law_635 rfl (lv_at hl 3 rfl) ?_
  refine lv_aload_n hx hb d_w_law_636 rfl (lv_at hl 4 rfl) ?_
  refine lv_iload hx hb d_w_law_637 (lv_at hl 0 rfl) ?_
  refine lv_iconst (v := 1) hx hb d_w_law_639 (by decide) ?_
  refine lv_iadd hx hb d_w_law_640 ?_
  refine lv_topi (fun v1 ev1 => ?_)
  obtain rfl : v1 = 1 := ev1.trans (by decide)
  refine va_sld hx hb hX hbl hbA hS (rl_in (x := 1) (n := 6) (by decide) (by decide)) d_w_law_641 ?_
  refine lv_aload_n hx hb d_w_law_642 rfl (lv_at hl 4 rfl) ?_
  refine lv_iload hx hb d_w_law_643 (lv_at hl 0 rfl) ?_
  refine lv_iconst (v := 2) hx hb d_w_law_645 (by decide) ?_
  refine lv_iadd hx hb d_w_law_646 ?_
  refine lv_topi (fun v2 ev2 => ?_)
  obtain rfl : v2 = 2 := ev2.trans (by decide)
  refine va_sld hx hb hX hbl hbA hS (rl_in (x := 2) (n := 6) (by decide) (by decide)) d_w_law_647 ?_
  have hpre := rl_BR.pre (av := .ref (a 0) :: [.int (xs (1 : Int32).toNatClampNeg), .int (xs (2 : Int32).toNatClampNeg)]) rl_nw0 (rl_P.l (rl_P.l hP)) hK2 rl_N0
  refine rl_callr hS (va_runV (As := [.int (xs (1 : Int32).toNatClampNeg), .int (xs (2 : Int32).toNatClampNeg)]) (rest := []) ⟨hx, hb, hml, hown, hG⟩ (k_x_delete l D a kI kZ (xs (1 : Int32).toNatClampNeg) (xs (2 : Int32).toNatClampNeg) _) (cwV 2 hG (rl_gV wd_352 wd_353 wd_354 wd_14 wd_355) rfl rfl rfl (by decide +kernel) ⟨Nat.le_of_ble_eq_true rfl, Nat.le_of_ble_eq_true rfl⟩) ⟨hpre.1, (va_recv hK (rl_P.l (rl_P.l hP)) (ci := 0) (q0 := 0) rfl rfl), hpre.2⟩ rfl rfl hl.1 rfl (lv_room (Nat.le_of_ble_eq_true rfl)) d_w_law_648 ⟨Nat.le_of_ble_eq_true rfl, Nat.le_of_ble_eq_true rfl⟩) (fun r3 locs h4 hS => ?_)
  refine lv_aload_n hx hb d_w_law_651 rfl (lv_at hl 2 rfl) ?_
  refine lv_aload_n hx hb d_w_law_652 rfl (lv_at hl 4 rfl) ?_
  refine lv_iload hx hb d_w_law_653 (lv_at hl 0 rfl) ?_
  refine lv_iconst (v := 1) hx hb d_w_law_655 (by decide) ?_
  refine lv_iadd hx hb d_w_law_656 ?_
  refine lv_topi (fun v5 ev5 => ?_)
  obtain rfl : v5 = 1 := ev5.trans (by decide)
  refine va_sld hx hb hX hbl hbA hS (rl_in (x := 1) (n := 6) (by decide) (by decide)) d_w_law_657 ?_
  refine lv_aload_n hx hb d_w_law_658 rfl (lv_at hl 4 rfl) ?_
  refine lv_iload hx hb d_w_law_659 (lv_at hl 0 rfl) ?_
  refine lv_iconst (v := 2) hx hb d_w_law_661 (by decide) ?_
  refine lv_iadd hx hb d_w_law_662 ?_
  refine lv_topi (fun v6 ev6 => ?_)
  obtain rfl : v6 = 2 := ev6.trans (by decide)
  refine va_sld hx hb hX hbl hbA hS (rl_in (x := 2) (n := 6) (by decide) (by decide)) d_w_law_663 ?_
  have hpre := rl_B.pre (av := .ref (a2 0) :: [.int (xs (1 : Int32).toNatClampNeg), .int (xs (2 : Int32).toNatClampNeg)]) rl_nw0 (rl_P.r hP) hK2 (rl_D.r hD) rl_N0
  refine rl_calliR hP hD hS hA (va_runV (As := [.int (xs (1 : Int32).toNatClampNeg), .int (xs (2 : Int32).toNatClampNeg)]) (rest := [.int r3]) ⟨hx, hb, hml, hown, hG⟩ (k_m_delete l D a2 kI kZ (xs (1 : Int32).toNatClampNeg) (xs (2 : Int32).toNatClampNeg) _) (cwV 2 hG (rl_gV wd_661 wd_662 wd_663 wd_19 wd_664) rfl rfl rfl (by decide +kernel) ⟨Nat.le_of_ble_eq_true rfl, Nat.le_of_ble_eq_true rfl⟩) ⟨hpre.1, (va_recv hK (rl_P.r hP) (ci := 5) (q0 := 0) rfl rfl), hpre.2⟩ rfl rfl hl.1 rfl (lv_room (Nat.le_of_ble_eq_true rfl)) d_w_law_664 ⟨Nat.le_of_ble_eq_true rfl, Nat.le_of_ble_eq_true rfl⟩) (fun r7 F9 H locs h8 hP hD hS => ?_)
  have hP : va_P D rl_cl ((rl_w a kI kZ rl_F0 ++ rl_O kL q (fun _ => 0)) ++ rm_w a2 kI kZ F9) H := hP
  have hD : va_D (fun q : Nat => s.heap.size ≤ q) ((rl_w a kI kZ rl_F0 ++ rl_O kL q (fun _ => 0)) ++ rm_w a2 kI kZ F9) := hD
  refine lv_icmp_eq (tgt := 931) hx hb d_w_law_667 (by decide) (fun _ => ?_) (fun c9 => absurd (Int32.toInt_inj.mp (by omega)) c9)
  exact law_end hx hb hr hlocks hX hbl hS (Nat.le_of_ble_eq_true rfl) (Nat.le_of_ble_eq_true rfl) (lv_sub hl [0, 4] rfl)
set_option maxHeartbeats 4000000 in
set_option maxRecDepth 100000 in
theorem law_12 {p : Program} {l : Launch} {e : Env} {s : State} {m : MethodId} {below : List Frame} {meth : Method} {c : Code} {b : Nat} {xs : Nat → Int32} {D : va_G} {a a2 : Nat → Nat} {kI kZ kL : ClassId} {q : Nat} {H : Heap} {locs : List Loc} {ls : Array Slot} (C : lw_I p l s m meth c b xs D a a2 kI kZ kL q H locs ls) : W p l e room_1 s m #[Value.ref b] below meth c H locs 60 9971 (lw_Z below #[Value.ref b] s) (F0 m 672 ls []) := by
  obtain ⟨hx, hb, hr, hml, hown, hG, hlocks, hX, hbl, hK, hZ, hC, hlt, hP, hD, hS, hl⟩ := C
  have hA : ∀ q : Nat, s.heap.size ≤ q → (fun q : Nat => s.heap.size ≤ q) q := fun _ h => h
  have hbA : ¬ (fun q : Nat => s.heap.size ≤ q) b := Nat.not_le.mpr hbl
  have hK2 := hK.sub (tys' := rl_tys kI kZ) [0, 1] rfl
  refine lv_aload_n hx hb d_w_law_672 rfl (lv_at hl 3 rfl) ?_
  refine lv_aload_n hx hb d_w_law_673 rfl (lv_at hl 4 rfl) ?_
  refine lv_iload hx hb d_w_law_674 (lv_at hl 0 rfl) ?_
  refine lv_iconst (v := 1) hx hb d_w_law_676 (by decide) ?_
  refine lv_iadd hx hb d_w_law_677 ?_
  refine lv_topi (fun v1 ev1 => ?_)
  obtain rfl : v1 = 1 := ev1.trans (by decide)
  refine va_sld hx hb hX hbl hbA hS (rl_in (x := 1) (n := 6) (by decide) (by decide)) d_w_law_678 ?_
  refine lv_aload_n hx hb d_w_law_679 rfl (lv_at hl 4 rfl) ?_
  refine lv_iload hx hb d_w_law_680 (lv_at hl 0 rfl) ?_
  refine lv_iconst (v := 2) hx hb d_w_law_682 (by decide) ?_
  refine lv_iadd hx hb d_w_law_683 ?_
  refine lv_topi (fun v2 ev2 => ?_)
  obtain rfl : v2 = 2 := ev2.trans (by decide)
  refine va_sld hx hb hX hbl hbA hS (rl_in (x := 2) (n := 6) (by decide) (by decide)) d_w_law_684 ?_
  refine lv_aload_n hx hb d_w_law_685 rfl (lv_at hl 4 rfl) ?_
  refine lv_iload hx hb d_w_law_686 (lv_at hl 0 rfl) ?_
  refine lv_iconst (v := 3) hx hb d_w_law_688 (by decide) ?_
  refine lv_iadd hx hb d_w_law_689 ?_
  refine lv_topi (fun v3 ev3 => ?_)
  obtain rfl : v3 = 3 := ev3.trans (by decide)
  refine va_sld hx hb hX hbl hbA hS (rl_in (x := 3) (n := 6) (by decide) (by decide)) d_w_law_690 ?_
  refine lv_aload_n hx hb d_w_law_691 rfl (lv_at hl 4 rfl) ?_
  refine lv_iload hx hb d_w_law_692 (lv_at hl 0 rfl) ?_
  refine lv_iconst (v := 4) hx hb d_w_law_694 (by decide) ?_
  refine lv_iadd hx hb d_w_law_695 ?_
  refine lv_topi (fun v4 ev4 => ?_)
  obtain rfl : v4 = 4 := ev4.trans (by decide)
  refine va_sld hx hb hX hbl hbA hS (rl_in (x := 4) (n := 6) (by decide) (by decide)) d_w_law_696 ?_
  have hpre := rl_BR.pre (av := .ref (a 0) :: [.int (xs (1 : Int32).toNatClampNeg), .int (xs (2 : Int32).toNatClampNeg), .int (xs (3 : Int32).toNatClampNeg), .int (xs (4 : Int32).toNatClampNeg)]) rl_nw0 (rl_P.l (rl_P.l hP)) hK2 rl_N0
  refine rl_callr hS (va_runV (As := [.int (xs (1 : Int32).toNatClampNeg), .int (xs (2 : Int32).toNatClampNeg), .int (xs (3 : Int32).toNatClampNeg), .int (xs (4 : Int32).toNatClampNeg)]) (rest := []) ⟨hx, hb, hml, hown, hG⟩ (k_x_counted l D a kI kZ (xs (1 : Int32).toNatClampNeg) (xs (2 : Int32).toNatClampNeg) (xs (3 : Int32).toNatClampNeg) (xs (4 : Int32).toNatClampNeg) _) (cwV 4 hG (rl_gV wd_358 wd_359 wd_360 wd_14 wd_361) rfl rfl rfl (by decide +kernel) ⟨Nat.le_of_ble_eq_true rfl, Nat.le_of_ble_eq_true rfl⟩) ⟨hpre.1, (va_recv hK (rl_P.l (rl_P.l hP)) (ci := 0) (q0 := 0) rfl rfl), hpre.2⟩ rfl rfl hl.1 rfl (lv_room (Nat.le_of_ble_eq_true rfl)) d_w_law_697 ⟨Nat.le_of_ble_eq_true rfl, Nat.le_of_ble_eq_true rfl⟩) (fun r5 locs h6 hS => ?_)
  refine lv_aload_n hx hb d_w_law_700 rfl (lv_at hl 2 rfl) ?_
  refine lv_aload_n hx hb d_w_law_701 rfl (lv_at hl 4 rfl) ?_
  refine lv_iload hx hb d_w_law_702 (lv_at hl 0 rfl) ?_
  refine lv_iconst (v := 1) hx hb d_w_law_704 (by decide) ?_
  refine lv_iadd hx hb d_w_law_705 ?_
  refine lv_topi (fun v7 ev7 => ?_)
  obtain rfl : v7 = 1 := ev7.trans (by decide)
  refine va_sld hx hb hX hbl hbA hS (rl_in (x := 1) (n := 6) (by decide) (by decide)) d_w_law_706 ?_
  refine lv_aload_n hx hb d_w_law_707 rfl (lv_at hl 4 rfl) ?_
  refine lv_iload hx hb d_w_law_708 (lv_at hl 0 rfl) ?_
  refine lv_iconst (v := 2) hx hb d_w_law_710 (by decide) ?_
  refine lv_iadd hx hb d_w_law_711 ?_
  refine lv_topi (fun v8 ev8 => ?_)
  obtain rfl : v8 = 2 := ev8.trans (by decide)
  refine va_sld hx hb hX hbl hbA hS (rl_in (x := 2) (n := 6) (by decide) (by decide)) d_w_law_712 ?_
  refine lv_aload_n hx hb d_w_law_713 rfl (lv_at hl 4 rfl) ?_
  refine lv_iload hx hb d_w_law_714 (lv_at hl 0 rfl) ?_
  refine lv_iconst (v := 3) hx hb d_w_law_716 (by decide) ?_
  refine lv_iadd hx hb d_w_law_717 ?_
  refine lv_topi (fun v9 ev9 => ?_)
  obtain rfl : v9 = 3 := ev9.trans (by decide)
  refine va_sld hx hb hX hbl hbA hS (rl_in (x := 3) (n := 6) (by decide) (by decide)) d_w_law_718 ?_
  refine lv_aload_n hx hb d_w_law_719 rfl (lv_at hl 4 rfl) ?_
  refine lv_iload hx hb d_w_law_720 (lv_at hl 0 rfl) ?_
  refine lv_iconst (v := 4) hx hb d_w_law_722 (by decide) ?_
  refine lv_iadd hx hb d_w_law_723 ?_
  refine lv_topi (fun v10 ev10 => ?_)
  obtain rfl : v10 = 4 := ev10.trans (by decide)
  refine va_sld hx hb hX hbl hbA hS (rl_in (x := 4) (n := 6) (by decide) (by decide)) d_w_law_724 ?_
  have hpre := rl_B.pre (av := .ref (a2 0) :: [.int (xs (1 : Int32).toNatClampNeg), .int (xs (2 : Int32).toNatClampNeg), .int (xs (3 : Int32).toNatClampNeg), .int (xs (4 : Int32).toNatClampNeg)]) rl_nw0 (rl_P.r hP) hK2 (rl_D.r hD) rl_N0
  refine rl_calliR hP hD hS hA (va_runV (As := [.int (xs (1 : Int32).toNatClampNeg), .int (xs (2 : Int32).toNatClampNeg), .int (xs (3 : Int32).toNatClampNeg), .int (xs (4 : Int32).toNatClampNeg)]) (rest := [.int r5]) ⟨hx, hb, hml, hown, hG⟩ (k_m_counted l D a2 kI kZ (xs (1 : Int32).toNatClampNeg) (xs (2 : Int32).toNatClampNeg) (xs (3 : Int32).toNatClampNeg) (xs (4 : Int32).toNatClampNeg) _) (cwV 4 hG (rl_gV wd_665 wd_666 wd_667 wd_19 wd_668) rfl rfl rfl (by decide +kernel) ⟨Nat.le_of_ble_eq_true rfl, Nat.le_of_ble_eq_true rfl⟩) ⟨hpre.1, (va_recv hK (rl_P.r hP) (ci := 5) (q0 := 0) rfl rfl), hpre.2⟩ rfl rfl hl.1 rfl (lv_room (Nat.le_of_ble_eq_true rfl)) d_w_law_725 ⟨Nat.le_of_ble_eq_true rfl, Nat.le_of_ble_eq_true rfl⟩) (fun r11 F13 H locs h12 hP hD hS => ?_)
  have hP : va_P D rl_cl ((rl_w a kI kZ rl_F0 ++ rl_O kL q (fun _ => 0)) ++ rm_w a2 kI kZ F13) H := hP
  have hD : va_D (fun q : Nat => s.heap.size ≤ q) ((rl_w a kI kZ rl_F0 ++ rl_O kL q (fun _ => 0)) ++ rm_w a2 kI kZ F13) := hD
  refine lv_icmp_eq (tgt := 931) hx hb d_w_law_728 (by decide) (fun _ => ?_) (fun c9 => absurd (Int32.toInt_inj.mp (by omega)) c9)
  exact law_end hx hb hr hlocks hX hbl hS (Nat.le_of_ble_eq_true rfl) (Nat.le_of_ble_eq_true rfl) (lv_sub hl [0, 4] rfl)
set_option maxHeartbeats 4000000 in
set_option maxRecDepth 100000 in
theorem law_13 {p : Program} {l : Launch} {e : Env} {s : State} {m : MethodId} {below : List Frame} {meth : Method} {c : Code} {b : Nat} {xs : Nat → Int32} {D : va_G} {a a2 : Nat → Nat} {kI kZ kL : ClassId} {q : Nat} {H : Heap} {locs : List Loc} {ls : Array Slot} (C : lw_I p l s m meth c b xs D a a2 kI kZ kL q H locs ls) : W p l e room_1 s m #[Value.ref b] below meth c H locs 60 9971 (lw_Z below #[Value.ref b] s) (F0 m 733 ls []) := by
  obtain ⟨hx, hb, hr, hml, hown, hG, hlocks, hX, hbl, hK, hZ, hC, hlt, hP, hD, hS, hl⟩ := C
  have hA : ∀ q : Nat, s.heap.size ≤ q → (fun q : Nat => s.heap.size ≤ q) q := fun _ h => h
  have hbA : ¬ (fun q : Nat => s.heap.size ≤ q) b := Nat.not_le.mpr hbl
  have hK2 := hK.sub (tys' := rl_tys kI kZ) [0, 1] rfl
  refine lv_aload_n hx hb d_w_law_733 rfl (lv_at hl 3 rfl) ?_
  refine lv_aload_n hx hb d_w_law_734 rfl (lv_at hl 4 rfl) ?_
  refine lv_iload hx hb d_w_law_735 (lv_at hl 0 rfl) ?_
  refine lv_iconst (v := 1) hx hb d_w_law_737 (by decide) ?_
  refine lv_iadd hx hb d_w_law_738 ?_
  refine lv_topi (fun v1 ev1 => ?_)
  obtain rfl : v1 = 1 := ev1.trans (by decide)
  refine va_sld hx hb hX hbl hbA hS (rl_in (x := 1) (n := 6) (by decide) (by decide)) d_w_law_739 ?_
  refine lv_aload_n hx hb d_w_law_740 rfl (lv_at hl 4 rfl) ?_
  refine lv_iload hx hb d_w_law_741 (lv_at hl 0 rfl) ?_
  refine lv_iconst (v := 2) hx hb d_w_law_743 (by decide) ?_
  refine lv_iadd hx hb d_w_law_744 ?_
  refine lv_topi (fun v2 ev2 => ?_)
  obtain rfl : v2 = 2 := ev2.trans (by decide)
  refine va_sld hx hb hX hbl hbA hS (rl_in (x := 2) (n := 6) (by decide) (by decide)) d_w_law_745 ?_
  refine lv_aload_n hx hb d_w_law_746 rfl (lv_at hl 1 rfl) ?_
  have hh9 : ∀ (q : Nat) (cell : Cell), s.heap[q]? = some cell → H[q]? = some cell := fun q cell h => by rw [hS.2.1 q (Array.getElem?_eq_some_iff.mp h).1 (Nat.not_le.mpr (Array.getElem?_eq_some_iff.mp h).1)]; exact h
  refine rl_calli (w' := fun _ : Unit => rl_w a kI kZ rl_F0 ++ rl_O kL q (fun _ => 0)) hP hD hS hA (rl_runH (n := 4) (As := [.ref (a 0), .int (xs (1 : Int32).toNatClampNeg), .int (xs (2 : Int32).toNatClampNeg), .ref q]) (rest := []) ⟨hx, hb, hml, hown, hG⟩ (k_w_request l D a kI kZ kL q (fun _ => 0) (xs (1 : Int32).toNatClampNeg) (xs (2 : Int32).toNatClampNeg) hlt _) (rl_gH wd_390 wd_391 wd_13 wd_392) rfl rfl rfl (by decide +kernel) ⟨Nat.le_of_ble_eq_true rfl, Nat.le_of_ble_eq_true rfl⟩ (rl_BH.pre (rl_P.l hP) hK (rl_D.l hD) hh9 hZ hC) rfl rfl hl.1 rfl (lv_room (Nat.le_of_ble_eq_true rfl)) d_w_law_747 ⟨Nat.le_of_ble_eq_true rfl, Nat.le_of_ble_eq_true rfl⟩) (fun r3 u9 H locs h4 hP hD hS => ?_)
  obtain rfl := h4
  refine lv_istore (lv' := [(5, .int 1), (4, .int 0), (3, .ref q), (2, .ref (a2 0)), (1, .ref (a 0)), (0, .ref b)]) hx hb d_w_law_750 hl (by decide) rfl (fun ls hl => ?_)
  refine lv_aload_n hx hb d_w_law_752 rfl (lv_at hl 3 rfl) ?_
  refine lv_aload_n hx hb d_w_law_753 rfl (lv_at hl 5 rfl) ?_
  refine lv_iload hx hb d_w_law_754 (lv_at hl 1 rfl) ?_
  refine lv_iconst (v := 1) hx hb d_w_law_756 (by decide) ?_
  refine lv_iadd hx hb d_w_law_757 ?_
  refine lv_topi (fun v5 ev5 => ?_)
  obtain rfl : v5 = 1 := ev5.trans (by decide)
  refine va_sld hx hb hX hbl hbA hS (rl_in (x := 1) (n := 6) (by decide) (by decide)) d_w_law_758 ?_
  refine lv_aload_n hx hb d_w_law_759 rfl (lv_at hl 5 rfl) ?_
  refine lv_iload hx hb d_w_law_760 (lv_at hl 1 rfl) ?_
  refine lv_iconst (v := 2) hx hb d_w_law_762 (by decide) ?_
  refine lv_iadd hx hb d_w_law_763 ?_
  refine lv_topi (fun v6 ev6 => ?_)
  obtain rfl : v6 = 2 := ev6.trans (by decide)
  refine va_sld hx hb hX hbl hbA hS (rl_in (x := 2) (n := 6) (by decide) (by decide)) d_w_law_764 ?_
  have hpre := rl_B.pre (av := .ref (a2 0) :: [.int (xs (1 : Int32).toNatClampNeg), .int (xs (2 : Int32).toNatClampNeg)]) rl_nw0 (rl_P.r hP) hK2 (rl_D.r hD) rl_N0
  refine rl_calliR hP hD hS hA (va_runV (As := [.int (xs (1 : Int32).toNatClampNeg), .int (xs (2 : Int32).toNatClampNeg)]) (rest := []) ⟨hx, hb, hml, hown, hG⟩ (k_m_request l D a2 kI kZ (xs (1 : Int32).toNatClampNeg) (xs (2 : Int32).toNatClampNeg) _) (cwV 2 hG (rl_gV wd_669 wd_670 wd_671 wd_19 wd_672) rfl rfl rfl (by decide +kernel) ⟨Nat.le_of_ble_eq_true rfl, Nat.le_of_ble_eq_true rfl⟩) ⟨hpre.1, (va_recv hK (rl_P.r hP) (ci := 5) (q0 := 0) rfl rfl), hpre.2⟩ rfl rfl hl.1 rfl (lv_room (Nat.le_of_ble_eq_true rfl)) d_w_law_765 ⟨Nat.le_of_ble_eq_true rfl, Nat.le_of_ble_eq_true rfl⟩) (fun r7 F9 H locs h8 hP hD hS => ?_)
  have hP : va_P D rl_cl ((rl_w a kI kZ rl_F0 ++ rl_O kL q (fun _ => 0)) ++ rm_w a2 kI kZ F9) H := hP
  have hD : va_D (fun q : Nat => s.heap.size ≤ q) ((rl_w a kI kZ rl_F0 ++ rl_O kL q (fun _ => 0)) ++ rm_w a2 kI kZ F9) := hD
  refine lv_istore (lv' := [(6, .int r7), (5, .int 1), (4, .int 0), (3, .ref q), (2, .ref (a2 0)), (1, .ref (a 0)), (0, .ref b)]) hx hb d_w_law_768 hl (by decide) rfl (fun ls hl => ?_)
  refine lv_aload_n hx hb d_w_law_770 rfl (lv_at hl 4 rfl) ?_
  have hpre := rl_BR.pre (av := .ref (a2 0) :: []) rl_nw0 (rl_P.r hP) hK2 rl_N0
  refine rl_callr hS (va_runV (As := []) (rest := []) ⟨hx, hb, hml, hown, hG⟩ (k_m_thrown l D a2 kI kZ F9 _) (cwV 0 hG (rl_gV wd_583 wd_584 wd_585 wd_19 wd_586) rfl rfl rfl (by decide +kernel) ⟨Nat.le_of_ble_eq_true rfl, Nat.le_of_ble_eq_true rfl⟩) ⟨hpre.1, (va_recv hK (rl_P.r hP) (ci := 5) (q0 := 0) rfl rfl), hpre.2⟩ rfl rfl hl.1 rfl (lv_room (Nat.le_of_ble_eq_true rfl)) d_w_law_771 ⟨Nat.le_of_ble_eq_true rfl, Nat.le_of_ble_eq_true rfl⟩) (fun r10 locs h11 hS => ?_)
  obtain rfl : r10 = 1 := h11.trans h8.2
  refine lv_iload hx hb d_w_law_774 (lv_at hl 1 rfl) ?_
  refine lv_icmp_eq (tgt := 781) hx hb d_w_law_776 (by decide) (fun _ => ?_) (fun c9 => absurd c9 (by decide))
  refine lv_iload hx hb d_w_law_781 (lv_at hl 1 rfl) ?_
  refine lv_if_ne (tgt := 798) hx hb d_w_law_783 (by decide) (fun _ => ?_) (fun c9 => absurd c9 (by decide))
  refine lv_goto (tgt := 931) hx hb d_w_law_798 (by decide) ?_
  exact law_end hx hb hr hlocks hX hbl hS (Nat.le_of_ble_eq_true rfl) (Nat.le_of_ble_eq_true rfl) (lv_sub hl [2, 6] rfl)
set_option maxHeartbeats 4000000 in
set_option maxRecDepth 100000 in
theorem law_14 {p : Program} {l : Launch} {e : Env} {s : State} {m : MethodId} {below : List Frame} {meth : Method} {c : Code} {b : Nat} {xs : Nat → Int32} {D : va_G} {a a2 : Nat → Nat} {kI kZ kL : ClassId} {q : Nat} {H : Heap} {locs : List Loc} {ls : Array Slot} (C : lw_I p l s m meth c b xs D a a2 kI kZ kL q H locs ls) : W p l e room_1 s m #[Value.ref b] below meth c H locs 60 9971 (lw_Z below #[Value.ref b] s) (F0 m 801 ls []) := by
  obtain ⟨hx, hb, hr, hml, hown, hG, hlocks, hX, hbl, hK, hZ, hC, hlt, hP, hD, hS, hl⟩ := C
  have hA : ∀ q : Nat, s.heap.size ≤ q → (fun q : Nat => s.heap.size ≤ q) q := fun _ h => h
  have hbA : ¬ (fun q : Nat => s.heap.size ≤ q) b := Nat.not_le.mpr hbl
  have hK2 := hK.sub (tys' := rl_tys kI kZ) [0, 1] rfl
  refine lv_aload_n hx hb d_w_law_801 rfl (lv_at hl 3 rfl) ?_
  refine lv_aload_n hx hb d_w_law_802 rfl (lv_at hl 4 rfl) ?_
  refine lv_iload hx hb d_w_law_803 (lv_at hl 0 rfl) ?_
  refine lv_iconst (v := 1) hx hb d_w_law_805 (by decide) ?_
  refine lv_iadd hx hb d_w_law_806 ?_
  refine lv_topi (fun v1 ev1 => ?_)
  obtain rfl : v1 = 1 := ev1.trans (by decide)
  refine va_sld hx hb hX hbl hbA hS (rl_in (x := 1) (n := 6) (by decide) (by decide)) d_w_law_807 ?_
  have hpre := rl_BR.pre (av := .ref (a 0) :: [.int (xs (1 : Int32).toNatClampNeg)]) rl_nw0 (rl_P.l (rl_P.l hP)) hK2 rl_N0
  refine rl_callr hS (va_runV (As := [.int (xs (1 : Int32).toNatClampNeg)]) (rest := []) ⟨hx, hb, hml, hown, hG⟩ (k_x_left l D a kI kZ (xs (1 : Int32).toNatClampNeg) _) (cwV 1 hG (rl_gV wd_362 wd_363 wd_364 wd_14 wd_365) rfl rfl rfl (by decide +kernel) ⟨Nat.le_of_ble_eq_true rfl, Nat.le_of_ble_eq_true rfl⟩) ⟨hpre.1, (va_recv hK (rl_P.l (rl_P.l hP)) (ci := 0) (q0 := 0) rfl rfl), hpre.2⟩ rfl rfl hl.1 rfl (lv_room (Nat.le_of_ble_eq_true rfl)) d_w_law_808 ⟨Nat.le_of_ble_eq_true rfl, Nat.le_of_ble_eq_true rfl⟩) (fun r2 locs h3 hS => ?_)
  refine lv_aload_n hx hb d_w_law_811 rfl (lv_at hl 2 rfl) ?_
  refine lv_aload_n hx hb d_w_law_812 rfl (lv_at hl 4 rfl) ?_
  refine lv_iload hx hb d_w_law_813 (lv_at hl 0 rfl) ?_
  refine lv_iconst (v := 1) hx hb d_w_law_815 (by decide) ?_
  refine lv_iadd hx hb d_w_law_816 ?_
  refine lv_topi (fun v4 ev4 => ?_)
  obtain rfl : v4 = 1 := ev4.trans (by decide)
  refine va_sld hx hb hX hbl hbA hS (rl_in (x := 1) (n := 6) (by decide) (by decide)) d_w_law_817 ?_
  have hpre := rl_B.pre (av := .ref (a2 0) :: [.int (xs (1 : Int32).toNatClampNeg)]) rl_nw0 (rl_P.r hP) hK2 (rl_D.r hD) rl_N0
  refine rl_calliR hP hD hS hA (va_runV (As := [.int (xs (1 : Int32).toNatClampNeg)]) (rest := [.int r2]) ⟨hx, hb, hml, hown, hG⟩ (k_m_left l D a2 kI kZ (xs (1 : Int32).toNatClampNeg) _) (cwV 1 hG (rl_gV wd_677 wd_678 wd_679 wd_19 wd_680) rfl rfl rfl (by decide +kernel) ⟨Nat.le_of_ble_eq_true rfl, Nat.le_of_ble_eq_true rfl⟩) ⟨hpre.1, (va_recv hK (rl_P.r hP) (ci := 5) (q0 := 0) rfl rfl), hpre.2⟩ rfl rfl hl.1 rfl (lv_room (Nat.le_of_ble_eq_true rfl)) d_w_law_818 ⟨Nat.le_of_ble_eq_true rfl, Nat.le_of_ble_eq_true rfl⟩) (fun r5 F7 H locs h6 hP hD hS => ?_)
  have hP : va_P D rl_cl ((rl_w a kI kZ rl_F0 ++ rl_O kL q (fun _ => 0)) ++ rm_w a2 kI kZ F7) H := hP
  have hD : va_D (fun q : Nat => s.heap.size ≤ q) ((rl_w a kI kZ rl_F0 ++ rl_O kL q (fun _ => 0)) ++ rm_w a2 kI kZ F7) := hD
  refine lv_icmp_eq (tgt := 931) hx hb d_w_law_821 (by decide) (fun _ => ?_) (fun c9 => absurd (Int32.toInt_inj.mp (by omega)) c9)
  exact law_end hx hb hr hlocks hX hbl hS (Nat.le_of_ble_eq_true rfl) (Nat.le_of_ble_eq_true rfl) (lv_sub hl [0, 4] rfl)
set_option maxHeartbeats 4000000 in
set_option maxRecDepth 100000 in
theorem law_15 {p : Program} {l : Launch} {e : Env} {s : State} {m : MethodId} {below : List Frame} {meth : Method} {c : Code} {b : Nat} {xs : Nat → Int32} {D : va_G} {a a2 : Nat → Nat} {kI kZ kL : ClassId} {q : Nat} {H : Heap} {locs : List Loc} {ls : Array Slot} (C : lw_I p l s m meth c b xs D a a2 kI kZ kL q H locs ls) : W p l e room_1 s m #[Value.ref b] below meth c H locs 60 9971 (lw_Z below #[Value.ref b] s) (F0 m 826 ls []) := by
  obtain ⟨hx, hb, hr, hml, hown, hG, hlocks, hX, hbl, hK, hZ, hC, hlt, hP, hD, hS, hl⟩ := C
  have hA : ∀ q : Nat, s.heap.size ≤ q → (fun q : Nat => s.heap.size ≤ q) q := fun _ h => h
  have hbA : ¬ (fun q : Nat => s.heap.size ≤ q) b := Nat.not_le.mpr hbl
  have hK2 := hK.sub (tys' := rl_tys kI kZ) [0, 1] rfl
  refine lv_aload_n hx hb d_w_law_826 rfl (lv_at hl 3 rfl) ?_
  refine lv_aload_n hx hb d_w_law_827 rfl (lv_at hl 4 rfl) ?_
  refine lv_iload hx hb d_w_law_828 (lv_at hl 0 rfl) ?_
  refine lv_iconst (v := 1) hx hb d_w_law_830 (by decide) ?_
  refine lv_iadd hx hb d_w_law_831 ?_
  refine lv_topi (fun v1 ev1 => ?_)
  obtain rfl : v1 = 1 := ev1.trans (by decide)
  refine va_sld hx hb hX hbl hbA hS (rl_in (x := 1) (n := 6) (by decide) (by decide)) d_w_law_832 ?_
  refine lv_aload_n hx hb d_w_law_833 rfl (lv_at hl 4 rfl) ?_
  refine lv_iload hx hb d_w_law_834 (lv_at hl 0 rfl) ?_
  refine lv_iconst (v := 2) hx hb d_w_law_836 (by decide) ?_
  refine lv_iadd hx hb d_w_law_837 ?_
  refine lv_topi (fun v2 ev2 => ?_)
  obtain rfl : v2 = 2 := ev2.trans (by decide)
  refine va_sld hx hb hX hbl hbA hS (rl_in (x := 2) (n := 6) (by decide) (by decide)) d_w_law_838 ?_
  have hpre := rl_BR.pre (av := .ref (a 0) :: [.int (xs (1 : Int32).toNatClampNeg), .int (xs (2 : Int32).toNatClampNeg)]) rl_nw0 (rl_P.l (rl_P.l hP)) hK2 rl_N0
  refine rl_callr hS (va_runV (As := [.int (xs (1 : Int32).toNatClampNeg), .int (xs (2 : Int32).toNatClampNeg)]) (rest := []) ⟨hx, hb, hml, hown, hG⟩ (k_x_statistics l D a kI kZ (xs (1 : Int32).toNatClampNeg) (xs (2 : Int32).toNatClampNeg) _) (cwV 2 hG (rl_gV wd_370 wd_371 wd_372 wd_14 wd_373) rfl rfl rfl (by decide +kernel) ⟨Nat.le_of_ble_eq_true rfl, Nat.le_of_ble_eq_true rfl⟩) ⟨hpre.1, (va_recv hK (rl_P.l (rl_P.l hP)) (ci := 0) (q0 := 0) rfl rfl), hpre.2⟩ rfl rfl hl.1 rfl (lv_room (Nat.le_of_ble_eq_true rfl)) d_w_law_839 ⟨Nat.le_of_ble_eq_true rfl, Nat.le_of_ble_eq_true rfl⟩) (fun r3 locs h4 hS => ?_)
  refine lv_aload_n hx hb d_w_law_842 rfl (lv_at hl 2 rfl) ?_
  refine lv_aload_n hx hb d_w_law_843 rfl (lv_at hl 4 rfl) ?_
  refine lv_iload hx hb d_w_law_844 (lv_at hl 0 rfl) ?_
  refine lv_iconst (v := 1) hx hb d_w_law_846 (by decide) ?_
  refine lv_iadd hx hb d_w_law_847 ?_
  refine lv_topi (fun v5 ev5 => ?_)
  obtain rfl : v5 = 1 := ev5.trans (by decide)
  refine va_sld hx hb hX hbl hbA hS (rl_in (x := 1) (n := 6) (by decide) (by decide)) d_w_law_848 ?_
  refine lv_aload_n hx hb d_w_law_849 rfl (lv_at hl 4 rfl) ?_
  refine lv_iload hx hb d_w_law_850 (lv_at hl 0 rfl) ?_
  refine lv_iconst (v := 2) hx hb d_w_law_852 (by decide) ?_
  refine lv_iadd hx hb d_w_law_853 ?_
  refine lv_topi (fun v6 ev6 => ?_)
  obtain rfl : v6 = 2 := ev6.trans (by decide)
  refine va_sld hx hb hX hbl hbA hS (rl_in (x := 2) (n := 6) (by decide) (by decide)) d_w_law_854 ?_
  have hpre := rl_B.pre (av := .ref (a2 0) :: [.int (xs (1 : Int32).toNatClampNeg), .int (xs (2 : Int32).toNatClampNeg)]) rl_nw0 (rl_P.r hP) hK2 (rl_D.r hD) rl_N0
  refine rl_calliR hP hD hS hA (va_runV (As := [.int (xs (1 : Int32).toNatClampNeg), .int (xs (2 : Int32).toNatClampNeg)]) (rest := [.int r3]) ⟨hx, hb, hml, hown, hG⟩ (k_m_statistics l D a2 kI kZ (xs (1 : Int32).toNatClampNeg) (xs (2 : Int32).toNatClampNeg) _) (cwV 2 hG (rl_gV wd_681 wd_682 wd_683 wd_19 wd_684) rfl rfl rfl (by decide +kernel) ⟨Nat.le_of_ble_eq_true rfl, Nat.le_of_ble_eq_true rfl⟩) ⟨hpre.1, (va_recv hK (rl_P.r hP) (ci := 5) (q0 := 0) rfl rfl), hpre.2⟩ rfl rfl hl.1 rfl (lv_room (Nat.le_of_ble_eq_true rfl)) d_w_law_855 ⟨Nat.le_of_ble_eq_true rfl, Nat.le_of_ble_eq_true rfl⟩) (fun r7 F9 H locs h8 hP hD hS => ?_)
  have hP : va_P D rl_cl ((rl_w a kI kZ rl_F0 ++ rl_O kL q (fun _ => 0)) ++ rm_w a2 kI kZ F9) H := hP
  have hD : va_D (fun q : Nat => s.heap.size ≤ q) ((rl_w a kI kZ rl_F0 ++ rl_O kL q (fun _ => 0)) ++ rm_w a2 kI kZ F9) := hD
  refine lv_icmp_eq (tgt := 931) hx hb d_w_law_858 (by decide) (fun _ => ?_) (fun c9 => absurd (Int32.toInt_inj.mp (by omega)) c9)
  exact law_end hx hb hr hlocks hX hbl hS (Nat.le_of_ble_eq_true rfl) (Nat.le_of_ble_eq_true rfl) (lv_sub hl [0, 4] rfl)
set_option maxHeartbeats 4000000 in
set_option maxRecDepth 100000 in
theorem law_16 {p : Program} {l : Launch} {e : Env} {s : State} {m : MethodId} {below : List Frame} {meth : Method} {c : Code} {b : Nat} {xs : Nat → Int32} {D : va_G} {a a2 : Nat → Nat} {kI kZ kL : ClassId} {q : Nat} {H : Heap} {locs : List Loc} {ls : Array Slot} (C : lw_I p l s m meth c b xs D a a2 kI kZ kL q H locs ls) : W p l e room_1 s m #[Value.ref b] below meth c H locs 60 9971 (lw_Z below #[Value.ref b] s) (F0 m 863 ls []) := by
  obtain ⟨hx, hb, hr, hml, hown, hG, hlocks, hX, hbl, hK, hZ, hC, hlt, hP, hD, hS, hl⟩ := C
  have hA : ∀ q : Nat, s.heap.size ≤ q → (fun q : Nat => s.heap.size ≤ q) q := fun _ h => h
  have hbA : ¬ (fun q : Nat => s.heap.size ≤ q) b := Nat.not_le.mpr hbl
  have hK2 := hK.sub (tys' := rl_tys kI kZ) [0, 1] rfl
  refine lv_aload_n hx hb d_w_law_863 rfl (lv_at hl 3 rfl) ?_
  refine lv_aload_n hx hb d_w_law_864 rfl (lv_at hl 4 rfl) ?_
  refine lv_iload hx hb d_w_law_865 (lv_at hl 0 rfl) ?_
  refine lv_iconst (v := 1) hx hb d_w_law_867 (by decide) ?_
  refine lv_iadd hx hb d_w_law_868 ?_
  refine lv_topi (fun v1 ev1 => ?_)
  obtain rfl : v1 = 1 := ev1.trans (by decide)
  refine va_sld hx hb hX hbl hbA hS (rl_in (x := 1) (n := 6) (by decide) (by decide)) d_w_law_869 ?_
  refine lv_aload_n hx hb d_w_law_870 rfl (lv_at hl 4 rfl) ?_
  refine lv_iload hx hb d_w_law_871 (lv_at hl 0 rfl) ?_
  refine lv_iconst (v := 2) hx hb d_w_law_873 (by decide) ?_
  refine lv_iadd hx hb d_w_law_874 ?_
  refine lv_topi (fun v2 ev2 => ?_)
  obtain rfl : v2 = 2 := ev2.trans (by decide)
  refine va_sld hx hb hX hbl hbA hS (rl_in (x := 2) (n := 6) (by decide) (by decide)) d_w_law_875 ?_
  refine lv_aload_n hx hb d_w_law_876 rfl (lv_at hl 1 rfl) ?_
  have hh9 : ∀ (q : Nat) (cell : Cell), s.heap[q]? = some cell → H[q]? = some cell := fun q cell h => by rw [hS.2.1 q (Array.getElem?_eq_some_iff.mp h).1 (Nat.not_le.mpr (Array.getElem?_eq_some_iff.mp h).1)]; exact h
  refine rl_calli (w' := fun _ : Unit => rl_w a kI kZ rl_F0 ++ rl_O kL q (fun _ => 0)) hP hD hS hA (rl_runH (n := 4) (As := [.ref (a 0), .int (xs (1 : Int32).toNatClampNeg), .int (xs (2 : Int32).toNatClampNeg), .ref q]) (rest := []) ⟨hx, hb, hml, hown, hG⟩ (k_w_past l D a kI kZ kL q (fun _ => 0) (xs (1 : Int32).toNatClampNeg) (xs (2 : Int32).toNatClampNeg) hlt _) (rl_gH wd_465 wd_466 wd_13 wd_467) rfl rfl rfl (by decide +kernel) ⟨Nat.le_of_ble_eq_true rfl, Nat.le_of_ble_eq_true rfl⟩ (rl_BH.pre (rl_P.l hP) hK (rl_D.l hD) hh9 hZ hC) rfl rfl hl.1 rfl (lv_room (Nat.le_of_ble_eq_true rfl)) d_w_law_877 ⟨Nat.le_of_ble_eq_true rfl, Nat.le_of_ble_eq_true rfl⟩) (fun r3 u9 H locs h4 hP hD hS => ?_)
  obtain rfl := h4
  refine lv_istore (lv' := [(5, .int 1), (4, .int 0), (3, .ref q), (2, .ref (a2 0)), (1, .ref (a 0)), (0, .ref b)]) hx hb d_w_law_880 hl (by decide) rfl (fun ls hl => ?_)
  refine lv_aload_n hx hb d_w_law_882 rfl (lv_at hl 3 rfl) ?_
  refine lv_aload_n hx hb d_w_law_883 rfl (lv_at hl 5 rfl) ?_
  refine lv_iload hx hb d_w_law_884 (lv_at hl 1 rfl) ?_
  refine lv_iconst (v := 1) hx hb d_w_law_886 (by decide) ?_
  refine lv_iadd hx hb d_w_law_887 ?_
  refine lv_topi (fun v5 ev5 => ?_)
  obtain rfl : v5 = 1 := ev5.trans (by decide)
  refine va_sld hx hb hX hbl hbA hS (rl_in (x := 1) (n := 6) (by decide) (by decide)) d_w_law_888 ?_
  refine lv_aload_n hx hb d_w_law_889 rfl (lv_at hl 5 rfl) ?_
  refine lv_iload hx hb d_w_law_890 (lv_at hl 1 rfl) ?_
  refine lv_iconst (v := 2) hx hb d_w_law_892 (by decide) ?_
  refine lv_iadd hx hb d_w_law_893 ?_
  refine lv_topi (fun v6 ev6 => ?_)
  obtain rfl : v6 = 2 := ev6.trans (by decide)
  refine va_sld hx hb hX hbl hbA hS (rl_in (x := 2) (n := 6) (by decide) (by decide)) d_w_law_894 ?_
  have hpre := rl_B.pre (av := .ref (a2 0) :: [.int (xs (1 : Int32).toNatClampNeg), .int (xs (2 : Int32).toNatClampNeg)]) rl_nw0 (rl_P.r hP) hK2 (rl_D.r hD) rl_N0
  refine rl_calliR hP hD hS hA (va_runV (As := [.int (xs (1 : Int32).toNatClampNeg), .int (xs (2 : Int32).toNatClampNeg)]) (rest := []) ⟨hx, hb, hml, hown, hG⟩ (k_m_past l D a2 kI kZ (xs (1 : Int32).toNatClampNeg) (xs (2 : Int32).toNatClampNeg) _) (cwV 2 hG (rl_gV wd_685 wd_686 wd_687 wd_19 wd_688) rfl rfl rfl (by decide +kernel) ⟨Nat.le_of_ble_eq_true rfl, Nat.le_of_ble_eq_true rfl⟩) ⟨hpre.1, (va_recv hK (rl_P.r hP) (ci := 5) (q0 := 0) rfl rfl), hpre.2⟩ rfl rfl hl.1 rfl (lv_room (Nat.le_of_ble_eq_true rfl)) d_w_law_895 ⟨Nat.le_of_ble_eq_true rfl, Nat.le_of_ble_eq_true rfl⟩) (fun r7 F9 H locs h8 hP hD hS => ?_)
  have hP : va_P D rl_cl ((rl_w a kI kZ rl_F0 ++ rl_O kL q (fun _ => 0)) ++ rm_w a2 kI kZ F9) H := hP
  have hD : va_D (fun q : Nat => s.heap.size ≤ q) ((rl_w a kI kZ rl_F0 ++ rl_O kL q (fun _ => 0)) ++ rm_w a2 kI kZ F9) := hD
  refine lv_istore (lv' := [(6, .int r7), (5, .int 1), (4, .int 0), (3, .ref q), (2, .ref (a2 0)), (1, .ref (a 0)), (0, .ref b)]) hx hb d_w_law_898 hl (by decide) rfl (fun ls hl => ?_)
  refine lv_aload_n hx hb d_w_law_900 rfl (lv_at hl 4 rfl) ?_
  have hpre := rl_BR.pre (av := .ref (a2 0) :: []) rl_nw0 (rl_P.r hP) hK2 rl_N0
  refine rl_callr hS (va_runV (As := []) (rest := []) ⟨hx, hb, hml, hown, hG⟩ (k_m_thrown l D a2 kI kZ F9 _) (cwV 0 hG (rl_gV wd_583 wd_584 wd_585 wd_19 wd_586) rfl rfl rfl (by decide +kernel) ⟨Nat.le_of_ble_eq_true rfl, Nat.le_of_ble_eq_true rfl⟩) ⟨hpre.1, (va_recv hK (rl_P.r hP) (ci := 5) (q0 := 0) rfl rfl), hpre.2⟩ rfl rfl hl.1 rfl (lv_room (Nat.le_of_ble_eq_true rfl)) d_w_law_901 ⟨Nat.le_of_ble_eq_true rfl, Nat.le_of_ble_eq_true rfl⟩) (fun r10 locs h11 hS => ?_)
  obtain rfl : r10 = 1 := h11.trans h8.2
  refine lv_iload hx hb d_w_law_904 (lv_at hl 1 rfl) ?_
  refine lv_icmp_eq (tgt := 911) hx hb d_w_law_906 (by decide) (fun _ => ?_) (fun c9 => absurd c9 (by decide))
  refine lv_iload hx hb d_w_law_911 (lv_at hl 1 rfl) ?_
  refine lv_if_ne (tgt := 928) hx hb d_w_law_913 (by decide) (fun _ => ?_) (fun c9 => absurd c9 (by decide))
  refine lv_goto (tgt := 931) hx hb d_w_law_928 (by decide) ?_
  exact law_end hx hb hr hlocks hX hbl hS (Nat.le_of_ble_eq_true rfl) (Nat.le_of_ble_eq_true rfl) (lv_sub hl [2, 6] rfl)
