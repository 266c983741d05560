set_option maxHeartbeats 4000000 in
set_option maxRecDepth 100000 in
theorem k_m_ask_292 (l : Launch) (D : va_G) (a : Nat → Nat) (kI kZ : ClassId) (F : Nat → Nat → Int32) (jn jt jk jg ju : Int32) (hI : rm_I F) {p : Program} {e : Env} {s : State} {m : MethodId} {below : List Frame} {meth : Method} {c : Code} {A : Nat → Prop} (hx : p.tables.exec = Jvm.exec) (hb : c.code = prog_7_method_15_code) (hr : meth.sig.returnType = (some .int)) (hml : c.maxLocals = 8) (hown : s.vm.findClass "RightsLimitModel" = some m.cls) (hG : ∀ x ∈ rl_G, x.before ([.ref (a 0), .int jn, .int jt, .int jk, .int jg, .int ju] : List Value).toArray s = true) (hlocks : meth.locks = false) (hK : va_K D rl_cl (rl_tys kI kZ) s) (hA : ∀ q : Nat, s.heap.size ≤ q → A q) (hN : ∀ x ∈ ([] : List Cond), va_Nw x s) (Fz : Nat → Nat → Int32) (tFz : (Fz 27 2).toInt = (F 27 2).toInt ∧ (Fz 27 3).toInt = (F 27 3).toInt ∧ (Fz 27 4).toInt = (F 27 4).toInt ∧ (Fz 27 5).toInt = (F 27 5).toInt) (hRFz : rm_R Fz) (i6 how : Int32) (h6 : i6.toInt = (F 27 5).toInt) (h6a : i6.toInt < 300) (hh0 : 0 ≤ how.toInt) (hh5 : how.toInt ≤ 5) (hjt0 : 0 ≤ jt.toInt) (hjt1 : jt.toInt < (F 27 2).toInt) {H : Heap} {locs : List Loc} {ls : Array Slot} (hP : va_P D rl_cl (rm_w a kI kZ Fz) H) (hD : va_D A (rm_w a kI kZ Fz)) (hS : va_S A s.heap H locs) (hl : lv_has ls 8 [(7, .int how), (6, .int i6), (0, .ref (a 0)), (1, .int jn), (2, .int jt), (3, .int jk), (4, .int jg), (5, .int ju)]) : W p l e ({ frames := 3, cells := 0, slots := 0, locals := 73 } : Room) s m ([.ref (a 0), .int jn, .int jt, .int jk, .int jg, .int ju] : List Value).toArray below meth c H locs 0 0 (MQ below (va_Qi (S := Nat → Nat → Int32) (fun (r : Int32) (F' : Nat → Nat → Int32) => rm_R F' ∧ ((F' 27 2).toInt = (F 27 2).toInt ∧ (F' 27 3).toInt = (F 27 3).toInt ∧ (F' 27 4).toInt = (F 27 4).toInt ∧ 0 ≤ (F' 27 5).toInt ∧ (F' 27 5).toInt ≤ 300)) (fun u t => va_P D rl_cl (rm_w a kI kZ u) t.heap ∧ va_D A (rm_w a kI kZ u)) A) ([.ref (a 0), .int jn, .int jt, .int jk, .int jg, .int ju] : List Value).toArray s 0 0 A) (F0 m 292 ls []) := by
  obtain ⟨hcnt, hR⟩ := id hI
  refine lv_aload_n hx hb d_m_ask_292 rfl (lv_at hl 2 rfl) ?_
  refine lv_dup hx hb d_m_ask_293 rfl ?_
  refine va_get (D := D) (ci := 5) (v := .int (Fz 27 5)) (C := "RightsLimitModel") (T := fT_m) (N := 33) hx hb hG fi_m hown hK hP 0 rfl rfl 20 (by decide) (hG _ wd_503) (fun _ h9 => h9) rfl d_m_ask_294 ?_
  refine lv_iconst (v := 1) hx hb d_m_ask_297 (by decide) ?_
  refine lv_iadd hx hb d_m_ask_298 ?_
  refine lv_topi (fun v1 ev1 => ?_)
  have iv1 : v1.toInt = (Fz 27 5).toInt + 1 := by rw [ev1]; exact rl_addk (by decide) (by omega) (by omega)
  refine va_put (D := D) (ci := 5) (v := .int v1) (ty := .int) (C := "RightsLimitModel") (T := fT_m) (N := 33) hx hb hG fi_m fy_m fo_m fn_m hown hK hP hD hS 0 rfl rfl 20 (by decide) (hG _ wd_503) (fun _ h9 => h9) rfl (by decide +kernel) rfl rfl (Nat.le_of_ble_eq_true rfl) d_m_ask_299 (fun H locs hP hD hS => ?_)
  obtain ⟨F2, eF2⟩ : ∃ G, G = rl_st Fz 27 5 v1 := ⟨_, rfl⟩
  have hP : va_P D rl_cl (rm_w a kI kZ F2) H := by rw [eF2]; exact hP
  have hD : va_D A (rm_w a kI kZ F2) := by rw [eF2]; exact hD
  obtain ⟨tF2, hRF2⟩ := rm_put5 eF2 hRFz
  rw [tFz.1, tFz.2.1, tFz.2.2.1] at tF2
  refine lv_iload hx hb d_m_ask_302 (lv_at hl 0 rfl) ?_
  refine lv_if_ne (tgt := 315) hx hb d_m_ask_304 (by decide) (fun c3 => ?_) (fun c3 => ?_)
  · have ic3 := rl_ine c3
    simp only [rl_n0] at ic3
    have nc3 : 0 < how.toInt := by omega
    clear ic3
    refine lv_iload hx hb d_m_ask_315 (lv_at hl 1 rfl) ?_
    exact W.iret (v := i6) hx hb hr (fun t ht hW => ⟨⟨i6, F2, rfl, ⟨hRF2, (show (F2 27 2).toInt = (F 27 2).toInt ∧ (F2 27 3).toInt = (F 27 3).toInt ∧ (F2 27 4).toInt = (F 27 4).toInt ∧ 0 ≤ (F2 27 5).toInt ∧ (F2 27 5).toInt ≤ 300 by omega)⟩, ⟨by rw [ht]; exact hP, hD⟩⟩, hS.F ht⟩) hS.2.2 d_m_ask_317
  · have ic3 := rl_ieq c3
    simp only [rl_n0] at ic3
    refine lv_bipush (v := (-10)) hx hb d_m_ask_307 (by decide) ?_
    refine lv_iload hx hb d_m_ask_309 (lv_at hl 1 rfl) ?_
    refine lv_isub hx hb d_m_ask_311 ?_
    refine lv_topi (fun v4 ev4 => ?_)
    refine lv_goto (tgt := 317) hx hb d_m_ask_312 (by decide) ?_
    exact W.iret (v := v4) hx hb hr (fun t ht hW => ⟨⟨v4, F2, rfl, ⟨hRF2, (show (F2 27 2).toInt = (F 27 2).toInt ∧ (F2 27 3).toInt = (F 27 3).toInt ∧ (F2 27 4).toInt = (F 27 4).toInt ∧ 0 ≤ (F2 27 5).toInt ∧ (F2 27 5).toInt ≤ 300 by omega)⟩, ⟨by rw [ht]; exact hP, hD⟩⟩, hS.F ht⟩) hS.2.2 d_m_ask_317
set_option maxHeartbeats 4000000 in
set_option maxRecDepth 100000 in
theorem k_m_ask_275 (l : Launch) (D : va_G) (a : Nat → Nat) (kI kZ : ClassId) (F : Nat → Nat → Int32) (jn jt jk jg ju : Int32) (hI : rm_I F) {p : Program} {e : Env} {s : State} {m : MethodId} {below : List Frame} {meth : Method} {c : Code} {A : Nat → Prop} (hx : p.tables.exec = Jvm.exec) (hb : c.code = prog_7_method_15_code) (hr : meth.sig.returnType = (some .int)) (hml : c.maxLocals = 8) (hown : s.vm.findClass "RightsLimitModel" = some m.cls) (hG : ∀ x ∈ rl_G, x.before ([.ref (a 0), .int jn, .int jt, .int jk, .int jg, .int ju] : List Value).toArray s = true) (hlocks : meth.locks = false) (hK : va_K D rl_cl (rl_tys kI kZ) s) (hA : ∀ q : Nat, s.heap.size ≤ q → A q) (hN : ∀ x ∈ ([] : List Cond), va_Nw x s) (Fz : Nat → Nat → Int32) (tFz : (Fz 27 2).toInt = (F 27 2).toInt ∧ (Fz 27 3).toInt = (F 27 3).toInt ∧ (Fz 27 4).toInt = (F 27 4).toInt ∧ (Fz 27 5).toInt = (F 27 5).toInt) (hRFz : rm_R Fz) (i6 how : Int32) (h6 : i6.toInt = (F 27 5).toInt) (h6a : i6.toInt < 300) (hh0 : 0 ≤ how.toInt) (hh5 : how.toInt ≤ 5) (hjt0 : 0 ≤ jt.toInt) (hjt1 : jt.toInt < (F 27 2).toInt) {H : Heap} {locs : List Loc} {ls : Array Slot} (hP : va_P D rl_cl (rm_w a kI kZ Fz) H) (hD : va_D A (rm_w a kI kZ Fz)) (hS : va_S A s.heap H locs) (hl : lv_has ls 8 [(7, .int how), (6, .int i6), (0, .ref (a 0)), (1, .int jn), (2, .int jt), (3, .int jk), (4, .int jg), (5, .int ju)]) : W p l e ({ frames := 3, cells := 0, slots := 0, locals := 73 } : Room) s m ([.ref (a 0), .int jn, .int jt, .int jk, .int jg, .int ju] : List Value).toArray below meth c H locs 0 0 (MQ below (va_Qi (S := Nat → Nat → Int32) (fun (r : Int32) (F' : Nat → Nat → Int32) => rm_R F' ∧ ((F' 27 2).toInt = (F 27 2).toInt ∧ (F' 27 3).toInt = (F 27 3).toInt ∧ (F' 27 4).toInt = (F 27 4).toInt ∧ 0 ≤ (F' 27 5).toInt ∧ (F' 27 5).toInt ≤ 300)) (fun u t => va_P D rl_cl (rm_w a kI kZ u) t.heap ∧ va_D A (rm_w a kI kZ u)) A) ([.ref (a 0), .int jn, .int jt, .int jk, .int jg, .int ju] : List Value).toArray s 0 0 A) (F0 m 275 ls []) := by
  obtain ⟨hcnt, hR⟩ := id hI
  refine lv_iload hx hb d_m_ask_275 (lv_at hl 0 rfl) ?_
  refine lv_if_ne (tgt := 292) hx hb d_m_ask_277 (by decide) (fun c1 => ?_) (fun c1 => ?_)
  · have ic1 := rl_ine c1
    simp only [rl_n0] at ic1
    have nc1 : 0 < how.toInt := by omega
    clear ic1
    exact k_m_ask_292 l D a kI kZ F jn jt jk jg ju hI hx hb hr hml hown hG hlocks hK hA hN Fz ⟨by omega, by omega, by omega, by omega⟩ hRFz i6 how (by omega) (by omega) (by omega) (by omega) (by omega) (by omega) hP hD hS (lv_sub hl [0, 1, 2, 3, 4, 5, 6, 7] rfl)
  · have ic1 := rl_ieq c1
    simp only [rl_n0] at ic1
    refine lv_aload_n hx hb d_m_ask_280 rfl (lv_at hl 2 rfl) ?_
    refine lv_aload_n hx hb d_m_ask_281 rfl (lv_at hl 2 rfl) ?_
    refine lv_iload_n hx hb d_m_ask_282 rfl (lv_at hl 4 rfl) ?_
    refine lv_iload_n hx hb d_m_ask_283 rfl (lv_at hl 5 rfl) ?_
    refine lv_iload hx hb d_m_ask_284 (lv_at hl 7 rfl) ?_
    have hpre := rl_BR.pre (av := .ref (a 0) :: [.int jt, .int jk, .int ju]) rl_nw0 hP hK hN
    refine rl_callr hS (va_runV (As := [.int jt, .int jk, .int ju]) (rest := [.ref (a 0)]) ⟨hx, hb, hml, hown, hG⟩ (k_m_barrier l D a kI kZ Fz jt jk ju ⟨by omega, hRFz⟩ _) (cwV 3 hG (rl_gV wd_627 wd_629 wd_10 wd_19 wd_630) rfl rfl rfl (by decide +kernel) ⟨Nat.le_of_ble_eq_true rfl, Nat.le_of_ble_eq_true rfl⟩) ⟨hpre.1, (va_recv hK hP (ci := 5) (q0 := 0) rfl rfl), hpre.2⟩ rfl rfl hl.1 rfl (lv_room (Nat.le_of_ble_eq_true rfl)) d_m_ask_286 ⟨Nat.le_of_ble_eq_true rfl, Nat.le_of_ble_eq_true rfl⟩) (fun r2 locs hw hS => ?_)
    have hwr2 := hw
    refine va_put (D := D) (ci := 5) (v := .int r2) (ty := .int) (C := "RightsLimitModel") (T := fT_m) (N := 33) hx hb hG fi_m fy_m fo_m fn_m hown hK hP hD hS 0 rfl rfl 32 (by decide) (hG _ wd_515) (fun _ h9 => h9) rfl (by decide +kernel) rfl rfl (Nat.le_of_ble_eq_true rfl) d_m_ask_289 (fun H locs hP hD hS => ?_)
    obtain ⟨F3, eF3⟩ : ∃ G, G = rl_st Fz 27 6 r2 := ⟨_, rfl⟩
    have hP : va_P D rl_cl (rm_w a kI kZ F3) H := by rw [eF3]; exact hP
    have hD : va_D A (rm_w a kI kZ F3) := by rw [eF3]; exact hD
    obtain ⟨tF3, hRF3⟩ := rm_putS eF3 (by decide) (by decide) (by decide) (by decide) hRFz
    rw [tFz.1, tFz.2.1, tFz.2.2.1, tFz.2.2.2] at tF3
    exact k_m_ask_292 l D a kI kZ F jn jt jk jg ju hI hx hb hr hml hown hG hlocks hK hA hN F3 ⟨by omega, by omega, by omega, by omega⟩ hRF3 i6 how (by omega) (by omega) (by omega) (by omega) (by omega) (by omega) hP hD hS (lv_sub hl [0, 1, 2, 3, 4, 5, 6, 7] rfl)
set_option maxHeartbeats 4000000 in
set_option maxRecDepth 100000 in
theorem k_m_ask_259 (l : Launch) (D : va_G) (a : Nat → Nat) (kI kZ : ClassId) (F : Nat → Nat → Int32) (jn jt jk jg ju : Int32) (hI : rm_I F) {p : Program} {e : Env} {s : State} {m : MethodId} {below : List Frame} {meth : Method} {c : Code} {A : Nat → Prop} (hx : p.tables.exec = Jvm.exec) (hb : c.code = prog_7_method_15_code) (hr : meth.sig.returnType = (some .int)) (hml : c.maxLocals = 8) (hown : s.vm.findClass "RightsLimitModel" = some m.cls) (hG : ∀ x ∈ rl_G, x.before ([.ref (a 0), .int jn, .int jt, .int jk, .int jg, .int ju] : List Value).toArray s = true) (hlocks : meth.locks = false) (hK : va_K D rl_cl (rl_tys kI kZ) s) (hA : ∀ q : Nat, s.heap.size ≤ q → A q) (hN : ∀ x ∈ ([] : List Cond), va_Nw x s) (Fz : Nat → Nat → Int32) (tFz : (Fz 27 2).toInt = (F 27 2).toInt ∧ (Fz 27 3).toInt = (F 27 3).toInt ∧ (Fz 27 4).toInt = (F 27 4).toInt ∧ (Fz 27 5).toInt = (F 27 5).toInt) (hRFz : rm_R Fz) (i6 how : Int32) (h6 : i6.toInt = (F 27 5).toInt) (h6a : i6.toInt < 300) (hh0 : 0 ≤ how.toInt) (hh5 : how.toInt ≤ 5) (hjt0 : 0 ≤ jt.toInt) (hjt1 : jt.toInt < (F 27 2).toInt) {H : Heap} {locs : List Loc} {ls : Array Slot} (hP : va_P D rl_cl (rm_w a kI kZ Fz) H) (hD : va_D A (rm_w a kI kZ Fz)) (hS : va_S A s.heap H locs) (hl : lv_has ls 8 [(7, .int how), (6, .int i6), (0, .ref (a 0)), (1, .int jn), (2, .int jt), (3, .int jk), (4, .int jg), (5, .int ju)]) : W p l e ({ frames := 3, cells := 0, slots := 0, locals := 73 } : Room) s m ([.ref (a 0), .int jn, .int jt, .int jk, .int jg, .int ju] : List Value).toArray below meth c H locs 0 0 (MQ below (va_Qi (S := Nat → Nat → Int32) (fun (r : Int32) (F' : Nat → Nat → Int32) => rm_R F' ∧ ((F' 27 2).toInt = (F 27 2).toInt ∧ (F' 27 3).toInt = (F 27 3).toInt ∧ (F' 27 4).toInt = (F 27 4).toInt ∧ 0 ≤ (F' 27 5).toInt ∧ (F' 27 5).toInt ≤ 300)) (fun u t => va_P D rl_cl (rm_w a kI kZ u) t.heap ∧ va_D A (rm_w a kI kZ u)) A) ([.ref (a 0), .int jn, .int jt, .int jk, .int jg, .int ju] : List Value).toArray s 0 0 A) (F0 m 259 ls []) := by
  obtain ⟨hcnt, hR⟩ := id hI
  refine lv_iload hx hb d_m_ask_259 (lv_at hl 0 rfl) ?_
  refine lv_iconst (v := 4) hx hb d_m_ask_261 (by decide) ?_
  refine lv_icmp_ne (tgt := 275) hx hb d_m_ask_262 (by decide) (fun c1 => ?_) (fun c1 => ?_)
  · have ic1 := rl_ine c1
    simp only [rl_n4] at ic1
    exact k_m_ask_275 l D a kI kZ F jn jt jk jg ju hI hx hb hr hml hown hG hlocks hK hA hN Fz ⟨by omega, by omega, by omega, by omega⟩ hRFz i6 how (by omega) (by omega) (by omega) (by omega) (by omega) (by omega) hP hD hS (lv_sub hl [0, 1, 2, 3, 4, 5, 6, 7] rfl)
  · have ic1 := rl_ieq c1
    simp only [rl_n4] at ic1
    refine lv_aload_n hx hb d_m_ask_265 rfl (lv_at hl 2 rfl) ?_
    refine va_get (D := D) (ci := 5) (v := .ref (a 4)) (C := "RightsLimitModel") (T := fT_m) (N := 33) hx hb hG fi_m hown hK hP 0 rfl rfl 6 (by decide) (hG _ wd_489) (fun _ h9 => h9) rfl d_m_ask_266 ?_
    refine lv_iload_n hx hb d_m_ask_269 rfl (lv_at hl 4 rfl) ?_
    refine lv_dup2_11 hx hb d_m_ask_270 rfl rfl ?_
    refine va_iald hx hb hK hP 4 0 rfl rfl (rl_in (n := 50) (by omega) (by omega)) d_m_ask_271 ?_
    refine lv_topi (fun v2 ev2 => ?_)
    refine lv_iconst (v := 1) hx hb d_m_ask_272 (by decide) ?_
    refine lv_isub hx hb d_m_ask_273 ?_
    refine lv_topi (fun v3 ev3 => ?_)
    refine va_iast hx hb hK hP hD hS 4 0 rfl rfl (rl_in (n := 50) (by omega) (by omega)) d_m_ask_274 (fun H locs hP hD hS => ?_)
    obtain ⟨F4, eF4⟩ : ∃ G, G = rl_st Fz 3 jt.toNatClampNeg v3 := ⟨_, rfl⟩
    have hP : va_P D rl_cl (rm_w a kI kZ F4) H := by rw [eF4]; exact hP
    have hD : va_D A (rm_w a kI kZ F4) := by rw [eF4]; exact hD
    obtain ⟨tF4, hRF4⟩ := rm_keep eF4 (by decide) (by decide) (by decide) hRFz
    rw [tFz.1, tFz.2.1, tFz.2.2.1, tFz.2.2.2] at tF4
    exact k_m_ask_275 l D a kI kZ F jn jt jk jg ju hI hx hb hr hml hown hG hlocks hK hA hN F4 ⟨by omega, by omega, by omega, by omega⟩ hRF4 i6 how (by omega) (by omega) (by omega) (by omega) (by omega) (by omega) hP hD hS (lv_sub hl [0, 1, 2, 3, 4, 5, 6, 7] rfl)
set_option maxHeartbeats 4000000 in
set_option maxRecDepth 100000 in
theorem k_m_ask_237 (l : Launch) (D : va_G) (a : Nat → Nat) (kI kZ : ClassId) (F : Nat → Nat → Int32) (jn jt jk jg ju : Int32) (hI : rm_I F) {p : Program} {e : Env} {s : State} {m : MethodId} {below : List Frame} {meth : Method} {c : Code} {A : Nat → Prop} (hx : p.tables.exec = Jvm.exec) (hb : c.code = prog_7_method_15_code) (hr : meth.sig.returnType = (some .int)) (hml : c.maxLocals = 8) (hown : s.vm.findClass "RightsLimitModel" = some m.cls) (hG : ∀ x ∈ rl_G, x.before ([.ref (a 0), .int jn, .int jt, .int jk, .int jg, .int ju] : List Value).toArray s = true) (hlocks : meth.locks = false) (hK : va_K D rl_cl (rl_tys kI kZ) s) (hA : ∀ q : Nat, s.heap.size ≤ q → A q) (hN : ∀ x ∈ ([] : List Cond), va_Nw x s) (Fz : Nat → Nat → Int32) (tFz : (Fz 27 2).toInt = (F 27 2).toInt ∧ (Fz 27 3).toInt = (F 27 3).toInt ∧ (Fz 27 4).toInt = (F 27 4).toInt ∧ (Fz 27 5).toInt = (F 27 5).toInt) (hRFz : rm_R Fz) (i6 how w9 : Int32) (h6 : i6.toInt = (F 27 5).toInt) (h6a : i6.toInt < 300) (hh0 : 0 ≤ how.toInt) (hh5 : how.toInt ≤ 5) (hjt0 : 0 ≤ jt.toInt) (hjt1 : jt.toInt < (F 27 2).toInt) (hw9 : Fz 21 i6.toNatClampNeg = w9) (hw8 : how.toInt = 2 → 0 ≤ w9.toInt ∧ w9.toInt < 50) {H : Heap} {locs : List Loc} {ls : Array Slot} (hP : va_P D rl_cl (rm_w a kI kZ Fz) H) (hD : va_D A (rm_w a kI kZ Fz)) (hS : va_S A s.heap H locs) (hl : lv_has ls 8 [(7, .int how), (6, .int i6), (0, .ref (a 0)), (1, .int jn), (2, .int jt), (3, .int jk), (4, .int jg), (5, .int ju)]) : W p l e ({ frames := 3, cells := 0, slots := 0, locals := 73 } : Room) s m ([.ref (a 0), .int jn, .int jt, .int jk, .int jg, .int ju] : List Value).toArray below meth c H locs 0 0 (MQ below (va_Qi (S := Nat → Nat → Int32) (fun (r : Int32) (F' : Nat → Nat → Int32) => rm_R F' ∧ ((F' 27 2).toInt = (F 27 2).toInt ∧ (F' 27 3).toInt = (F 27 3).toInt ∧ (F' 27 4).toInt = (F 27 4).toInt ∧ 0 ≤ (F' 27 5).toInt ∧ (F' 27 5).toInt ≤ 300)) (fun u t => va_P D rl_cl (rm_w a kI kZ u) t.heap ∧ va_D A (rm_w a kI kZ u)) A) ([.ref (a 0), .int jn, .int jt, .int jk, .int jg, .int ju] : List Value).toArray s 0 0 A) (F0 m 237 ls []) := by
  obtain ⟨hcnt, hR⟩ := id hI
  refine lv_iload hx hb d_m_ask_237 (lv_at hl 0 rfl) ?_
  refine lv_iconst (v := 2) hx hb d_m_ask_239 (by decide) ?_
  refine lv_icmp_ne (tgt := 259) hx hb d_m_ask_240 (by decide) (fun c1 => ?_) (fun c1 => ?_)
  · have ic1 := rl_ine c1
    simp only [rl_n2] at ic1
    exact k_m_ask_259 l D a kI kZ F jn jt jk jg ju hI hx hb hr hml hown hG hlocks hK hA hN Fz ⟨by omega, by omega, by omega, by omega⟩ hRFz i6 how (by omega) (by omega) (by omega) (by omega) (by omega) (by omega) hP hD hS (lv_sub hl [0, 1, 2, 3, 4, 5, 6, 7] rfl)
  · have ic1 := rl_ieq c1
    simp only [rl_n2] at ic1
    refine lv_aload_n hx hb d_m_ask_243 rfl (lv_at hl 2 rfl) ?_
    refine va_get (D := D) (ci := 5) (v := .ref (a 13)) (C := "RightsLimitModel") (T := fT_m) (N := 33) hx hb hG fi_m hown hK hP 0 rfl rfl 17 (by decide) (hG _ wd_500) (fun _ h9 => h9) rfl d_m_ask_244 ?_
    refine lv_aload_n hx hb d_m_ask_247 rfl (lv_at hl 2 rfl) ?_
    refine va_get (D := D) (ci := 5) (v := .ref (a 22)) (C := "RightsLimitModel") (T := fT_m) (N := 33) hx hb hG fi_m hown hK hP 0 rfl rfl 27 (by decide) (hG _ wd_510) (fun _ h9 => h9) rfl d_m_ask_248 ?_
    refine lv_iload hx hb d_m_ask_251 (lv_at hl 1 rfl) ?_
    refine va_iald hx hb hK hP 22 0 rfl rfl (rl_in (n := 300) (by omega) (by omega)) d_m_ask_253 ?_
    refine lv_topi (fun v2 ev2 => ?_)
    have kv2 : v2.toInt = w9.toInt := by rw [ev2, hw9]
    refine lv_dup2_11 hx hb d_m_ask_254 rfl rfl ?_
    refine va_iald hx hb hK hP 13 0 rfl rfl (rl_in (n := 50) (by omega) (by omega)) d_m_ask_255 ?_
    refine lv_topi (fun v3 ev3 => ?_)
    refine lv_iconst (v := 1) hx hb d_m_ask_256 (by decide) ?_
    refine lv_isub hx hb d_m_ask_257 ?_
    refine lv_topi (fun v4 ev4 => ?_)
    refine va_iast hx hb hK hP hD hS 13 0 rfl rfl (rl_in (n := 50) (by omega) (by omega)) d_m_ask_258 (fun H locs hP hD hS => ?_)
    obtain ⟨F5, eF5⟩ : ∃ G, G = rl_st Fz 12 v2.toNatClampNeg v4 := ⟨_, rfl⟩
    have hP : va_P D rl_cl (rm_w a kI kZ F5) H := by rw [eF5]; exact hP
    have hD : va_D A (rm_w a kI kZ F5) := by rw [eF5]; exact hD
    obtain ⟨tF5, hRF5⟩ := rm_keep eF5 (by decide) (by decide) (by decide) hRFz
    rw [tFz.1, tFz.2.1, tFz.2.2.1, tFz.2.2.2] at tF5
    have w6 : F5 21 i6.toNatClampNeg = w9 := by rw [eF5, rl_stne (by decide)]; exact hw9
    exact k_m_ask_259 l D a kI kZ F jn jt jk jg ju hI hx hb hr hml hown hG hlocks hK hA hN F5 ⟨by omega, by omega, by omega, by omega⟩ hRF5 i6 how (by omega) (by omega) (by omega) (by omega) (by omega) (by omega) hP hD hS (lv_sub hl [0, 1, 2, 3, 4, 5, 6, 7] rfl)
set_option maxHeartbeats 4000000 in
set_option maxRecDepth 100000 in
theorem k_m_ask_200 (l : Launch) (D : va_G) (a : Nat → Nat) (kI kZ : ClassId) (F : Nat → Nat → Int32) (jn jt jk jg ju : Int32) (hI : rm_I F) {p : Program} {e : Env} {s : State} {m : MethodId} {below : List Frame} {meth : Method} {c : Code} {A : Nat → Prop} (hx : p.tables.exec = Jvm.exec) (hb : c.code = prog_7_method_15_code) (hr : meth.sig.returnType = (some .int)) (hml : c.maxLocals = 8) (hown : s.vm.findClass "RightsLimitModel" = some m.cls) (hG : ∀ x ∈ rl_G, x.before ([.ref (a 0), .int jn, .int jt, .int jk, .int jg, .int ju] : List Value).toArray s = true) (hlocks : meth.locks = false) (hK : va_K D rl_cl (rl_tys kI kZ) s) (hA : ∀ q : Nat, s.heap.size ≤ q → A q) (hN : ∀ x ∈ ([] : List Cond), va_Nw x s) (Fz : Nat → Nat → Int32) (tFz : (Fz 27 2).toInt = (F 27 2).toInt ∧ (Fz 27 3).toInt = (F 27 3).toInt ∧ (Fz 27 4).toInt = (F 27 4).toInt ∧ (Fz 27 5).toInt = (F 27 5).toInt) (hRFz : rm_R Fz) (i6 how w9 : Int32) (h6 : i6.toInt = (F 27 5).toInt) (h6a : i6.toInt < 300) (hh0 : 0 ≤ how.toInt) (hh5 : how.toInt ≤ 5) (hjt0 : 0 ≤ jt.toInt) (hjt1 : jt.toInt < (F 27 2).toInt) (hw9 : Fz 21 i6.toNatClampNeg = w9) (hw8 : how.toInt = 2 → 0 ≤ w9.toInt ∧ w9.toInt < 50) {H : Heap} {locs : List Loc} {ls : Array Slot} (hP : va_P D rl_cl (rm_w a kI kZ Fz) H) (hD : va_D A (rm_w a kI kZ Fz)) (hS : va_S A s.heap H locs) (hl : lv_has ls 8 [(7, .int how), (6, .int i6), (0, .ref (a 0)), (1, .int jn), (2, .int jt), (3, .int jk), (4, .int jg), (5, .int ju)]) : W p l e ({ frames := 3, cells := 0, slots := 0, locals := 73 } : Room) s m ([.ref (a 0), .int jn, .int jt, .int jk, .int jg, .int ju] : List Value).toArray below meth c H locs 0 0 (MQ below (va_Qi (S := Nat → Nat → Int32) (fun (r : Int32) (F' : Nat → Nat → Int32) => rm_R F' ∧ ((F' 27 2).toInt = (F 27 2).toInt ∧ (F' 27 3).toInt = (F 27 3).toInt ∧ (F' 27 4).toInt = (F 27 4).toInt ∧ 0 ≤ (F' 27 5).toInt ∧ (F' 27 5).toInt ≤ 300)) (fun u t => va_P D rl_cl (rm_w a kI kZ u) t.heap ∧ va_D A (rm_w a kI kZ u)) A) ([.ref (a 0), .int jn, .int jt, .int jk, .int jg, .int ju] : List Value).toArray s 0 0 A) (F0 m 200 ls []) := by
  obtain ⟨hcnt, hR⟩ := id hI
  refine lv_aload_n hx hb d_m_ask_200 rfl (lv_at hl 2 rfl) ?_
  refine va_get (D := D) (ci := 5) (v := .ref (a 24)) (C := "RightsLimitModel") (T := fT_m) (N := 33) hx hb hG fi_m hown hK hP 0 rfl rfl 29 (by decide) (hG _ wd_512) (fun _ h9 => h9) rfl d_m_ask_201 ?_
  refine lv_iload hx hb d_m_ask_204 (lv_at hl 1 rfl) ?_
  refine lv_iload hx hb d_m_ask_206 (lv_at hl 0 rfl) ?_
  refine lv_if_ne (tgt := 215) hx hb d_m_ask_208 (by decide) (fun c1 => ?_) (fun c1 => ?_)
  · have ic1 := rl_ine c1
    simp only [rl_n0] at ic1
    have nc1 : 0 < how.toInt := by omega
    clear ic1
    refine lv_iload hx hb d_m_ask_215 (lv_at hl 7 rfl) ?_
    refine lv_ldc (v := 2592000) hx hb hown (hG _ wd_636) d_m_ask_217 ?_
    refine lv_iadd hx hb d_m_ask_219 ?_
    refine lv_topi (fun v2 ev2 => ?_)
    refine va_iast hx hb hK hP hD hS 24 0 rfl rfl (rl_in (n := 300) (by omega) (by omega)) d_m_ask_220 (fun H locs hP hD hS => ?_)
    obtain ⟨F3, eF3⟩ : ∃ G, G = rl_st Fz 23 i6.toNatClampNeg v2 := ⟨_, rfl⟩
    have hP : va_P D rl_cl (rm_w a kI kZ F3) H := by rw [eF3]; exact hP
    have hD : va_D A (rm_w a kI kZ F3) := by rw [eF3]; exact hD
    obtain ⟨tF3, hRF3⟩ := rm_keep eF3 (by decide) (by decide) (by decide) hRFz
    rw [tFz.1, tFz.2.1, tFz.2.2.1, tFz.2.2.2] at tF3
    have w4 : F3 21 i6.toNatClampNeg = w9 := by rw [eF3, rl_stne (by decide)]; exact hw9
    refine lv_aload_n hx hb d_m_ask_221 rfl (lv_at hl 2 rfl) ?_
    refine va_get (D := D) (ci := 5) (v := .ref (a 25)) (C := "RightsLimitModel") (T := fT_m) (N := 33) hx hb hG fi_m hown hK hP 0 rfl rfl 30 (by decide) (hG _ wd_513) (fun _ h9 => h9) rfl d_m_ask_222 ?_
    refine lv_iload hx hb d_m_ask_225 (lv_at hl 1 rfl) ?_
    refine lv_iconst (v := 0) hx hb d_m_ask_227 (by decide) ?_
    refine va_iast hx hb hK hP hD hS 25 0 rfl rfl (rl_in (n := 300) (by omega) (by omega)) d_m_ask_228 (fun H locs hP hD hS => ?_)
    obtain ⟨F5, eF5⟩ : ∃ G, G = rl_st F3 24 i6.toNatClampNeg 0 := ⟨_, rfl⟩
    have hP : va_P D rl_cl (rm_w a kI kZ F5) H := by rw [eF5]; exact hP
    have hD : va_D A (rm_w a kI kZ F5) := by rw [eF5]; exact hD
    obtain ⟨tF5, hRF5⟩ := rm_keep eF5 (by decide) (by decide) (by decide) hRF3
    rw [tF3.1, tF3.2.1, tF3.2.2.1, tF3.2.2.2] at tF5
    clear tF3
    have w6 : F5 21 i6.toNatClampNeg = w9 := by rw [eF5, rl_stne (by decide)]; exact w4
    refine lv_aload_n hx hb d_m_ask_229 rfl (lv_at hl 2 rfl) ?_
    refine va_get (D := D) (ci := 5) (v := .ref (a 26)) (C := "RightsLimitModel") (T := fT_m) (N := 33) hx hb hG fi_m hown hK hP 0 rfl rfl 31 (by decide) (hG _ wd_514) (fun _ h9 => h9) rfl d_m_ask_230 ?_
    refine lv_iload hx hb d_m_ask_233 (lv_at hl 1 rfl) ?_
    refine lv_iconst (v := (-1)) hx hb d_m_ask_235 (by decide) ?_
    refine va_iast hx hb hK hP hD hS 26 0 rfl rfl (rl_in (n := 300) (by omega) (by omega)) d_m_ask_236 (fun H locs hP hD hS => ?_)
    obtain ⟨F7, eF7⟩ : ∃ G, G = rl_st F5 25 i6.toNatClampNeg (-1) := ⟨_, rfl⟩
    have hP : va_P D rl_cl (rm_w a kI kZ F7) H := by rw [eF7]; exact hP
    have hD : va_D A (rm_w a kI kZ F7) := by rw [eF7]; exact hD
    obtain ⟨tF7, hRF7⟩ := rm_keep eF7 (by decide) (by decide) (by decide) hRF5
    rw [tF5.1, tF5.2.1, tF5.2.2.1, tF5.2.2.2] at tF7
    clear tF5
    have w8 : F7 21 i6.toNatClampNeg = w9 := by rw [eF7, rl_stne (by decide)]; exact w6
    exact k_m_ask_237 l D a kI kZ F jn jt jk jg ju hI hx hb hr hml hown hG hlocks hK hA hN F7 ⟨by omega, by omega, by omega, by omega⟩ hRF7 i6 how w9 (by omega) (by omega) (by omega) (by omega) (by omega) (by omega) w8 (fun h9 => ⟨by omega, by omega⟩) hP hD hS (lv_sub hl [0, 1, 2, 3, 4, 5, 6, 7] rfl)
  · have ic1 := rl_ieq c1
    simp only [rl_n0] at ic1
    refine lv_iconst (v := (-1)) hx hb d_m_ask_211 (by decide) ?_
    refine lv_goto (tgt := 220) hx hb d_m_ask_212 (by decide) ?_
    refine va_iast hx hb hK hP hD hS 24 0 rfl rfl (rl_in (n := 300) (by omega) (by omega)) d_m_ask_220 (fun H locs hP hD hS => ?_)
    obtain ⟨F9, eF9⟩ : ∃ G, G = rl_st Fz 23 i6.toNatClampNeg (-1) := ⟨_, rfl⟩
    have hP : va_P D rl_cl (rm_w a kI kZ F9) H := by rw [eF9]; exact hP
    have hD : va_D A (rm_w a kI kZ F9) := by rw [eF9]; exact hD
    obtain ⟨tF9, hRF9⟩ := rm_keep eF9 (by decide) (by decide) (by decide) hRFz
    rw [tFz.1, tFz.2.1, tFz.2.2.1, tFz.2.2.2] at tF9
    have w10 : F9 21 i6.toNatClampNeg = w9 := by rw [eF9, rl_stne (by decide)]; exact hw9
    refine lv_aload_n hx hb d_m_ask_221 rfl (lv_at hl 2 rfl) ?_
    refine va_get (D := D) (ci := 5) (v := .ref (a 25)) (C := "RightsLimitModel") (T := fT_m) (N := 33) hx hb hG fi_m hown hK hP 0 rfl rfl 30 (by decide) (hG _ wd_513) (fun _ h9 => h9) rfl d_m_ask_222 ?_
    refine lv_iload hx hb d_m_ask_225 (lv_at hl 1 rfl) ?_
    refine lv_iconst (v := 0) hx hb d_m_ask_227 (by decide) ?_
    refine va_iast hx hb hK hP hD hS 25 0 rfl rfl (rl_in (n := 300) (by omega) (by omega)) d_m_ask_228 (fun H locs hP hD hS => ?_)
    obtain ⟨F11, eF11⟩ : ∃ G, G = rl_st F9 24 i6.toNatClampNeg 0 := ⟨_, rfl⟩
    have hP : va_P D rl_cl (rm_w a kI kZ F11) H := by rw [eF11]; exact hP
    have hD : va_D A (rm_w a kI kZ F11) := by rw [eF11]; exact hD
    obtain ⟨tF11, hRF11⟩ := rm_keep eF11 (by decide) (by decide) (by decide) hRF9
    rw [tF9.1, tF9.2.1, tF9.2.2.1, tF9.2.2.2] at tF11
    clear tF9
    have w12 : F11 21 i6.toNatClampNeg = w9 := by rw [eF11, rl_stne (by decide)]; exact w10
    refine lv_aload_n hx hb d_m_ask_229 rfl (lv_at hl 2 rfl) ?_
    refine va_get (D := D) (ci := 5) (v := .ref (a 26)) (C := "RightsLimitModel") (T := fT_m) (N := 33) hx hb hG fi_m hown hK hP 0 rfl rfl 31 (by decide) (hG _ wd_514) (fun _ h9 => h9) rfl d_m_ask_230 ?_
    refine lv_iload hx hb d_m_ask_233 (lv_at hl 1 rfl) ?_
    refine lv_iconst (v := (-1)) hx hb d_m_ask_235 (by decide) ?_
    refine va_iast hx hb hK hP hD hS 26 0 rfl rfl (rl_in (n := 300) (by omega) (by omega)) d_m_ask_236 (fun H locs hP hD hS => ?_)
    obtain ⟨F13, eF13⟩ : ∃ G, G = rl_st F11 25 i6.toNatClampNeg (-1) := ⟨_, rfl⟩
    have hP : va_P D rl_cl (rm_w a kI kZ F13) H := by rw [eF13]; exact hP
    have hD : va_D A (rm_w a kI kZ F13) := by rw [eF13]; exact hD
    obtain ⟨tF13, hRF13⟩ := rm_keep eF13 (by decide) (by decide) (by decide) hRF11
    rw [tF11.1, tF11.2.1, tF11.2.2.1, tF11.2.2.2] at tF13
    clear tF11
    have w14 : F13 21 i6.toNatClampNeg = w9 := by rw [eF13, rl_stne (by decide)]; exact w12
    exact k_m_ask_237 l D a kI kZ F jn jt jk jg ju hI hx hb hr hml hown hG hlocks hK hA hN F13 ⟨by omega, by omega, by omega, by omega⟩ hRF13 i6 how w9 (by omega) (by omega) (by omega) (by omega) (by omega) (by omega) w14 (fun h9 => ⟨by omega, by omega⟩) hP hD hS (lv_sub hl [0, 1, 2, 3, 4, 5, 6, 7] rfl)
set_option maxHeartbeats 4000000 in
set_option maxRecDepth 100000 in
theorem k_m_ask_169 (l : Launch) (D : va_G) (a : Nat → Nat) (kI kZ : ClassId) (F : Nat → Nat → Int32) (jn jt jk jg ju : Int32) (hI : rm_I F) {p : Program} {e : Env} {s : State} {m : MethodId} {below : List Frame} {meth : Method} {c : Code} {A : Nat → Prop} (hx : p.tables.exec = Jvm.exec) (hb : c.code = prog_7_method_15_code) (hr : meth.sig.returnType = (some .int)) (hml : c.maxLocals = 8) (hown : s.vm.findClass "RightsLimitModel" = some m.cls) (hG : ∀ x ∈ rl_G, x.before ([.ref (a 0), .int jn, .int jt, .int jk, .int jg, .int ju] : List Value).toArray s = true) (hlocks : meth.locks = false) (hK : va_K D rl_cl (rl_tys kI kZ) s) (hA : ∀ q : Nat, s.heap.size ≤ q → A q) (hN : ∀ x ∈ ([] : List Cond), va_Nw x s) (Fz : Nat → Nat → Int32) (tFz : (Fz 27 2).toInt = (F 27 2).toInt ∧ (Fz 27 3).toInt = (F 27 3).toInt ∧ (Fz 27 4).toInt = (F 27 4).toInt ∧ (Fz 27 5).toInt = (F 27 5).toInt) (hRFz : rm_R Fz) (i6 how w9 : Int32) (h6 : i6.toInt = (F 27 5).toInt) (h6a : i6.toInt < 300) (hh0 : 0 ≤ how.toInt) (hh5 : how.toInt ≤ 5) (hjt0 : 0 ≤ jt.toInt) (hjt1 : jt.toInt < (F 27 2).toInt) (hw9 : Fz 21 i6.toNatClampNeg = w9) (hw8 : how.toInt = 2 → 0 ≤ w9.toInt ∧ w9.toInt < 50) {H : Heap} {locs : List Loc} {ls : Array Slot} (hP : va_P D rl_cl (rm_w a kI kZ Fz) H) (hD : va_D A (rm_w a kI kZ Fz)) (hS : va_S A s.heap H locs) (hl : lv_has ls 8 [(7, .int how), (6, .int i6), (0, .ref (a 0)), (1, .int jn), (2, .int jt), (3, .int jk), (4, .int jg), (5, .int ju)]) : W p l e ({ frames := 3, cells := 0, slots := 0, locals := 73 } : Room) s m ([.ref (a 0), .int jn, .int jt, .int jk, .int jg, .int ju] : List Value).toArray below meth c H locs 0 0 (MQ below (va_Qi (S := Nat → Nat → Int32) (fun (r : Int32) (F' : Nat → Nat → Int32) => rm_R F' ∧ ((F' 27 2).toInt = (F 27 2).toInt ∧ (F' 27 3).toInt = (F 27 3).toInt ∧ (F' 27 4).toInt = (F 27 4).toInt ∧ 0 ≤ (F' 27 5).toInt ∧ (F' 27 5).toInt ≤ 300)) (fun u t => va_P D rl_cl (rm_w a kI kZ u) t.heap ∧ va_D A (rm_w a kI kZ u)) A) ([.ref (a 0), .int jn, .int jt, .int jk, .int jg, .int ju] : List Value).toArray s 0 0 A) (F0 m 169 ls []) := by
  obtain ⟨hcnt, hR⟩ := id hI
  refine lv_aload_n hx hb d_m_ask_169 rfl (lv_at hl 2 rfl) ?_
  refine va_get (D := D) (ci := 5) (v := .ref (a 23)) (C := "RightsLimitModel") (T := fT_m) (N := 33) hx hb hG fi_m hown hK hP 0 rfl rfl 28 (by decide) (hG _ wd_511) (fun _ h9 => h9) rfl d_m_ask_170 ?_
  refine lv_iload hx hb d_m_ask_173 (lv_at hl 1 rfl) ?_
  refine lv_iload hx hb d_m_ask_175 (lv_at hl 0 rfl) ?_
  refine lv_iconst (v := 5) hx hb d_m_ask_177 (by decide) ?_
  refine lv_icmp_ne (tgt := 198) hx hb d_m_ask_178 (by decide) (fun c1 => ?_) (fun c1 => ?_)
  · have ic1 := rl_ine c1
    simp only [rl_n5] at ic1
    have nc1 : how.toInt < 5 := by omega
    clear ic1
    refine lv_iconst (v := 0) hx hb d_m_ask_198 (by decide) ?_
    refine va_iast hx hb hK hP hD hS 23 0 rfl rfl (rl_in (n := 300) (by omega) (by omega)) d_m_ask_199 (fun H locs hP hD hS => ?_)
    obtain ⟨F2, eF2⟩ : ∃ G, G = rl_st Fz 22 i6.toNatClampNeg 0 := ⟨_, rfl⟩
    have hP : va_P D rl_cl (rm_w a kI kZ F2) H := by rw [eF2]; exact hP
    have hD : va_D A (rm_w a kI kZ F2) := by rw [eF2]; exact hD
    obtain ⟨tF2, hRF2⟩ := rm_keep eF2 (by decide) (by decide) (by decide) hRFz
    rw [tFz.1, tFz.2.1, tFz.2.2.1, tFz.2.2.2] at tF2
    have w3 : F2 21 i6.toNatClampNeg = w9 := by rw [eF2, rl_stne (by decide)]; exact hw9
    exact k_m_ask_200 l D a kI kZ F jn jt jk jg ju hI hx hb hr hml hown hG hlocks hK hA hN F2 ⟨by omega, by omega, by omega, by omega⟩ hRF2 i6 how w9 (by omega) (by omega) (by omega) (by omega) (by omega) (by omega) w3 (fun h9 => ⟨by omega, by omega⟩) hP hD hS (lv_sub hl [0, 1, 2, 3, 4, 5, 6, 7] rfl)
  · have ic1 := rl_ieq c1
    simp only [rl_n5] at ic1
    refine lv_iload hx hb d_m_ask_181 (lv_at hl 6 rfl) ?_
    refine lv_aload_n hx hb d_m_ask_183 rfl (lv_at hl 2 rfl) ?_
    refine va_get (D := D) (ci := 5) (v := .ref (a 5)) (C := "RightsLimitModel") (T := fT_m) (N := 33) hx hb hG fi_m hown hK hP 0 rfl rfl 7 (by decide) (hG _ wd_490) (fun _ h9 => h9) rfl d_m_ask_184 ?_
    refine lv_aload_n hx hb d_m_ask_187 rfl (lv_at hl 2 rfl) ?_
    refine va_get (D := D) (ci := 5) (v := .ref (a 1)) (C := "RightsLimitModel") (T := fT_m) (N := 33) hx hb hG fi_m hown hK hP 0 rfl rfl 3 (by decide) (hG _ wd_486) (fun _ h9 => h9) rfl d_m_ask_188 ?_
    refine lv_iload_n hx hb d_m_ask_191 rfl (lv_at hl 4 rfl) ?_
    refine va_iald hx hb hK hP 1 0 rfl rfl (rl_in (n := 50) (by omega) (by omega)) d_m_ask_192 ?_
    refine lv_topi (fun v4 ev4 => ?_)
    have iv4 : 0 ≤ v4.toInt ∧ v4.toInt < 100 := by rw [ev4]; exact hRFz.1 _
    refine va_iald hx hb hK hP 5 0 rfl rfl (rl_in (n := 100) (by omega) (by omega)) d_m_ask_193 ?_
    refine lv_topi (fun v5 ev5 => ?_)
    refine lv_imul hx hb d_m_ask_194 ?_
    refine lv_topi (fun v6 ev6 => ?_)
    refine lv_goto (tgt := 199) hx hb d_m_ask_195 (by decide) ?_
    refine va_iast hx hb hK hP hD hS 23 0 rfl rfl (rl_in (n := 300) (by omega) (by omega)) d_m_ask_199 (fun H locs hP hD hS => ?_)
    obtain ⟨F7, eF7⟩ : ∃ G, G = rl_st Fz 22 i6.toNatClampNeg v6 := ⟨_, rfl⟩
    have hP : va_P D rl_cl (rm_w a kI kZ F7) H := by rw [eF7]; exact hP
    have hD : va_D A (rm_w a kI kZ F7) := by rw [eF7]; exact hD
    obtain ⟨tF7, hRF7⟩ := rm_keep eF7 (by decide) (by decide) (by decide) hRFz
    rw [tFz.1, tFz.2.1, tFz.2.2.1, tFz.2.2.2] at tF7
    have w8 : F7 21 i6.toNatClampNeg = w9 := by rw [eF7, rl_stne (by decide)]; exact hw9
    exact k_m_ask_200 l D a kI kZ F jn jt jk jg ju hI hx hb hr hml hown hG hlocks hK hA hN F7 ⟨by omega, by omega, by omega, by omega⟩ hRF7 i6 how w9 (by omega) (by omega) (by omega) (by omega) (by omega) (by omega) w8 (fun h9 => ⟨by omega, by omega⟩) hP hD hS (lv_sub hl [0, 1, 2, 3, 4, 5, 6, 7] rfl)
set_option maxHeartbeats 4000000 in
set_option maxRecDepth 100000 in
theorem k_m_ask_144 (l : Launch) (D : va_G) (a : Nat → Nat) (kI kZ : ClassId) (F : Nat → Nat → Int32) (jn jt jk jg ju : Int32) (hI : rm_I F) {p : Program} {e : Env} {s : State} {m : MethodId} {below : List Frame} {meth : Method} {c : Code} {A : Nat → Prop} (hx : p.tables.exec = Jvm.exec) (hb : c.code = prog_7_method_15_code) (hr : meth.sig.returnType = (some .int)) (hml : c.maxLocals = 8) (hown : s.vm.findClass "RightsLimitModel" = some m.cls) (hG : ∀ x ∈ rl_G, x.before ([.ref (a 0), .int jn, .int jt, .int jk, .int jg, .int ju] : List Value).toArray s = true) (hlocks : meth.locks = false) (hK : va_K D rl_cl (rl_tys kI kZ) s) (hA : ∀ q : Nat, s.heap.size ≤ q → A q) (hN : ∀ x ∈ ([] : List Cond), va_Nw x s) (Fz : Nat → Nat → Int32) (tFz : (Fz 27 2).toInt = (F 27 2).toInt ∧ (Fz 27 3).toInt = (F 27 3).toInt ∧ (Fz 27 4).toInt = (F 27 4).toInt ∧ (Fz 27 5).toInt = (F 27 5).toInt) (hRFz : rm_R Fz) (i6 how : Int32) (h6 : i6.toInt = (F 27 5).toInt) (h6a : i6.toInt < 300) (hh0 : 0 ≤ how.toInt) (hh5 : how.toInt ≤ 5) (hjt0 : 0 ≤ jt.toInt) (hjt1 : jt.toInt < (F 27 2).toInt) (hEx : rm_Ix how Fz jt jk ju) {H : Heap} {locs : List Loc} {ls : Array Slot} (hP : va_P D rl_cl (rm_w a kI kZ Fz) H) (hD : va_D A (rm_w a kI kZ Fz)) (hS : va_S A s.heap H locs) (hl : lv_has ls 8 [(7, .int how), (6, .int i6), (0, .ref (a 0)), (1, .int jn), (2, .int jt), (3, .int jk), (4, .int jg), (5, .int ju)]) : W p l e ({ frames := 3, cells := 0, slots := 0, locals := 73 } : Room) s m ([.ref (a 0), .int jn, .int jt, .int jk, .int jg, .int ju] : List Value).toArray below meth c H locs 0 0 (MQ below (va_Qi (S := Nat → Nat → Int32) (fun (r : Int32) (F' : Nat → Nat → Int32) => rm_R F' ∧ ((F' 27 2).toInt = (F 27 2).toInt ∧ (F' 27 3).toInt = (F 27 3).toInt ∧ (F' 27 4).toInt = (F 27 4).toInt ∧ 0 ≤ (F' 27 5).toInt ∧ (F' 27 5).toInt ≤ 300)) (fun u t => va_P D rl_cl (rm_w a kI kZ u) t.heap ∧ va_D A (rm_w a kI kZ u)) A) ([.ref (a 0), .int jn, .int jt, .int jk, .int jg, .int ju] : List Value).toArray s 0 0 A) (F0 m 144 ls []) := by
  obtain ⟨hcnt, hR⟩ := id hI
  refine lv_aload_n hx hb d_m_ask_144 rfl (lv_at hl 2 rfl) ?_
  refine va_get (D := D) (ci := 5) (v := .ref (a 22)) (C := "RightsLimitModel") (T := fT_m) (N := 33) hx hb hG fi_m hown hK hP 0 rfl rfl 27 (by decide) (hG _ wd_510) (fun _ h9 => h9) rfl d_m_ask_145 ?_
  refine lv_iload hx hb d_m_ask_148 (lv_at hl 1 rfl) ?_
  refine lv_iload hx hb d_m_ask_150 (lv_at hl 0 rfl) ?_
  refine lv_iconst (v := 2) hx hb d_m_ask_152 (by decide) ?_
  refine lv_icmp_ne (tgt := 167) hx hb d_m_ask_153 (by decide) (fun c1 => ?_) (fun c1 => ?_)
  · have ic1 := rl_ine c1
    simp only [rl_n2] at ic1
    refine lv_iconst (v := (-1)) hx hb d_m_ask_167 (by decide) ?_
    refine va_iast hx hb hK hP hD hS 22 0 rfl rfl (rl_in (n := 300) (by omega) (by omega)) d_m_ask_168 (fun H locs hP hD hS => ?_)
    obtain ⟨F2, eF2⟩ : ∃ G, G = rl_st Fz 21 i6.toNatClampNeg (-1) := ⟨_, rfl⟩
    have hP : va_P D rl_cl (rm_w a kI kZ F2) H := by rw [eF2]; exact hP
    have hD : va_D A (rm_w a kI kZ F2) := by rw [eF2]; exact hD
    obtain ⟨tF2, hRF2⟩ := rm_keep eF2 (by decide) (by decide) (by decide) hRFz
    rw [tFz.1, tFz.2.1, tFz.2.2.1, tFz.2.2.2] at tF2
    have w3 : F2 21 i6.toNatClampNeg = (-1) := by rw [eF2]; exact rl_steq
    have x4 : rm_Ix how F2 jt jk ju := fun h => rm_Ex.st eF2 (by decide) (hEx h)
    exact k_m_ask_169 l D a kI kZ F jn jt jk jg ju hI hx hb hr hml hown hG hlocks hK hA hN F2 ⟨by omega, by omega, by omega, by omega⟩ hRF2 i6 how (-1) (by omega) (by omega) (by omega) (by omega) (by omega) (by omega) w3 (fun h9 => ⟨by omega, by omega⟩) hP hD hS (lv_sub hl [0, 1, 2, 3, 4, 5, 6, 7] rfl)
  · have ic1 := rl_ieq c1
    simp only [rl_n2] at ic1
    refine lv_aload_n hx hb d_m_ask_156 rfl (lv_at hl 2 rfl) ?_
    refine lv_iload_n hx hb d_m_ask_157 rfl (lv_at hl 4 rfl) ?_
    refine lv_iload_n hx hb d_m_ask_158 rfl (lv_at hl 5 rfl) ?_
    refine lv_iload hx hb d_m_ask_159 (lv_at hl 7 rfl) ?_
    have hpre := rl_BR.pre (av := .ref (a 0) :: [.int jt, .int jk, .int ju]) rl_nw0 hP hK hN
    refine rl_callr hS (va_runV (As := [.int jt, .int jk, .int ju]) (rest := [.int i6, .ref (a 22)]) ⟨hx, hb, hml, hown, hG⟩ (k_m_licenceFor l D a kI kZ Fz jt jk ju ⟨by omega, hRFz⟩ _) (cwV 3 hG (rl_gV wd_623 wd_625 wd_9 wd_19 wd_626) rfl rfl rfl (by decide +kernel) ⟨Nat.le_of_ble_eq_true rfl, Nat.le_of_ble_eq_true rfl⟩) ⟨hpre.1, (va_recv hK hP (ci := 5) (q0 := 0) rfl rfl), hpre.2⟩ rfl rfl hl.1 rfl (lv_room (Nat.le_of_ble_eq_true rfl)) d_m_ask_161 ⟨Nat.le_of_ble_eq_true rfl, Nat.le_of_ble_eq_true rfl⟩) (fun r5 locs hw hS => ?_)
    have hwr5 := hw
    have yr5 : 0 ≤ r5.toInt ∧ r5.toInt < (Fz 27 4).toInt := by
      rcases hw with ⟨_, h⟩ | h
      · exact absurd (hEx (by omega)) h
      · exact h.1
    have zr5 : r5.toInt < 50 := by omega
    refine lv_goto (tgt := 168) hx hb d_m_ask_164 (by decide) ?_
    refine va_iast hx hb hK hP hD hS 22 0 rfl rfl (rl_in (n := 300) (by omega) (by omega)) d_m_ask_168 (fun H locs hP hD hS => ?_)
    obtain ⟨F6, eF6⟩ : ∃ G, G = rl_st Fz 21 i6.toNatClampNeg r5 := ⟨_, rfl⟩
    have hP : va_P D rl_cl (rm_w a kI kZ F6) H := by rw [eF6]; exact hP
    have hD : va_D A (rm_w a kI kZ F6) := by rw [eF6]; exact hD
    obtain ⟨tF6, hRF6⟩ := rm_keep eF6 (by decide) (by decide) (by decide) hRFz
    rw [tFz.1, tFz.2.1, tFz.2.2.1, tFz.2.2.2] at tF6
    have w7 : F6 21 i6.toNatClampNeg = r5 := by rw [eF6]; exact rl_steq
    have x8 : rm_Ix how F6 jt jk ju := fun h => rm_Ex.st eF6 (by decide) (hEx h)
    exact k_m_ask_169 l D a kI kZ F jn jt jk jg ju hI hx hb hr hml hown hG hlocks hK hA hN F6 ⟨by omega, by omega, by omega, by omega⟩ hRF6 i6 how r5 (by omega) (by omega) (by omega) (by omega) (by omega) (by omega) w7 (fun h9 => ⟨by omega, by omega⟩) hP hD hS (lv_sub hl [0, 1, 2, 3, 4, 5, 6, 7] rfl)
set_option maxHeartbeats 4000000 in
set_option maxRecDepth 100000 in
theorem k_m_ask_93 (l : Launch) (D : va_G) (a : Nat → Nat) (kI kZ : ClassId) (F : Nat → Nat → Int32) (jn jt jk jg ju : Int32) (hI : rm_I F) {p : Program} {e : Env} {s : State} {m : MethodId} {below : List Frame} {meth : Method} {c : Code} {A : Nat → Prop} (hx : p.tables.exec = Jvm.exec) (hb : c.code = prog_7_method_15_code) (hr : meth.sig.returnType = (some .int)) (hml : c.maxLocals = 8) (hown : s.vm.findClass "RightsLimitModel" = some m.cls) (hG : ∀ x ∈ rl_G, x.before ([.ref (a 0), .int jn, .int jt, .int jk, .int jg, .int ju] : List Value).toArray s = true) (hlocks : meth.locks = false) (hK : va_K D rl_cl (rl_tys kI kZ) s) (hA : ∀ q : Nat, s.heap.size ≤ q → A q) (hN : ∀ x ∈ ([] : List Cond), va_Nw x s) (Fz : Nat → Nat → Int32) (tFz : (Fz 27 2).toInt = (F 27 2).toInt ∧ (Fz 27 3).toInt = (F 27 3).toInt ∧ (Fz 27 4).toInt = (F 27 4).toInt ∧ (Fz 27 5).toInt = (F 27 5).toInt) (hRFz : rm_R Fz) (i6 how : Int32) (h6 : i6.toInt = (F 27 5).toInt) (h6a : i6.toInt < 300) (hh0 : 0 ≤ how.toInt) (hh5 : how.toInt ≤ 5) (hjt0 : 0 ≤ jt.toInt) (hjt1 : jt.toInt < (F 27 2).toInt) (hEx : rm_Ix how Fz jt jk ju) {H : Heap} {locs : List Loc} {ls : Array Slot} (hP : va_P D rl_cl (rm_w a kI kZ Fz) H) (hD : va_D A (rm_w a kI kZ Fz)) (hS : va_S A s.heap H locs) (hl : lv_has ls 8 [(7, .int how), (6, .int i6), (0, .ref (a 0)), (1, .int jn), (2, .int jt), (3, .int jk), (4, .int jg), (5, .int ju)]) : W p l e ({ frames := 3, cells := 0, slots := 0, locals := 73 } : Room) s m ([.ref (a 0), .int jn, .int jt, .int jk, .int jg, .int ju] : List Value).toArray below meth c H locs 0 0 (MQ below (va_Qi (S := Nat → Nat → Int32) (fun (r : Int32) (F' : Nat → Nat → Int32) => rm_R F' ∧ ((F' 27 2).toInt = (F 27 2).toInt ∧ (F' 27 3).toInt = (F 27 3).toInt ∧ (F' 27 4).toInt = (F 27 4).toInt ∧ 0 ≤ (F' 27 5).toInt ∧ (F' 27 5).toInt ≤ 300)) (fun u t => va_P D rl_cl (rm_w a kI kZ u) t.heap ∧ va_D A (rm_w a kI kZ u)) A) ([.ref (a 0), .int jn, .int jt, .int jk, .int jg, .int ju] : List Value).toArray s 0 0 A) (F0 m 93 ls []) := by
  obtain ⟨hcnt, hR⟩ := id hI
  refine lv_aload_n hx hb d_m_ask_93 rfl (lv_at hl 2 rfl) ?_
  refine va_get (D := D) (ci := 5) (v := .ref (a 16)) (C := "RightsLimitModel") (T := fT_m) (N := 33) hx hb hG fi_m hown hK hP 0 rfl rfl 21 (by decide) (hG _ wd_504) (fun _ h9 => h9) rfl d_m_ask_94 ?_
  refine lv_iload hx hb d_m_ask_97 (lv_at hl 1 rfl) ?_
  refine lv_iload_n hx hb d_m_ask_99 rfl (lv_at hl 3 rfl) ?_
  refine va_iast hx hb hK hP hD hS 16 0 rfl rfl (rl_in (n := 300) (by omega) (by omega)) d_m_ask_100 (fun H locs hP hD hS => ?_)
  obtain ⟨F1, eF1⟩ : ∃ G, G = rl_st Fz 15 i6.toNatClampNeg jn := ⟨_, rfl⟩
  have hP : va_P D rl_cl (rm_w a kI kZ F1) H := by rw [eF1]; exact hP
  have hD : va_D A (rm_w a kI kZ F1) := by rw [eF1]; exact hD
  obtain ⟨tF1, hRF1⟩ := rm_keep eF1 (by decide) (by decide) (by decide) hRFz
  rw [tFz.1, tFz.2.1, tFz.2.2.1, tFz.2.2.2] at tF1
  have x2 : rm_Ix how F1 jt jk ju := fun h => rm_Ex.st eF1 (by decide) (hEx h)
  refine lv_aload_n hx hb d_m_ask_101 rfl (lv_at hl 2 rfl) ?_
  refine va_get (D := D) (ci := 5) (v := .ref (a 17)) (C := "RightsLimitModel") (T := fT_m) (N := 33) hx hb hG fi_m hown hK hP 0 rfl rfl 22 (by decide) (hG _ wd_505) (fun _ h9 => h9) rfl d_m_ask_102 ?_
  refine lv_iload hx hb d_m_ask_105 (lv_at hl 1 rfl) ?_
  refine lv_iload_n hx hb d_m_ask_107 rfl (lv_at hl 4 rfl) ?_
  refine va_iast hx hb hK hP hD hS 17 0 rfl rfl (rl_in (n := 300) (by omega) (by omega)) d_m_ask_108 (fun H locs hP hD hS => ?_)
  obtain ⟨F3, eF3⟩ : ∃ G, G = rl_st F1 16 i6.toNatClampNeg jt := ⟨_, rfl⟩
  have hP : va_P D rl_cl (rm_w a kI kZ F3) H := by rw [eF3]; exact hP
  have hD : va_D A (rm_w a kI kZ F3) := by rw [eF3]; exact hD
  obtain ⟨tF3, hRF3⟩ := rm_keep eF3 (by decide) (by decide) (by decide) hRF1
  rw [tF1.1, tF1.2.1, tF1.2.2.1, tF1.2.2.2] at tF3
  clear tF1
  have x4 : rm_Ix how F3 jt jk ju := fun h => rm_Ex.st eF3 (by decide) (x2 h)
  refine lv_aload_n hx hb d_m_ask_109 rfl (lv_at hl 2 rfl) ?_
  refine va_get (D := D) (ci := 5) (v := .ref (a 18)) (C := "RightsLimitModel") (T := fT_m) (N := 33) hx hb hG fi_m hown hK hP 0 rfl rfl 23 (by decide) (hG _ wd_506) (fun _ h9 => h9) rfl d_m_ask_110 ?_
  refine lv_iload hx hb d_m_ask_113 (lv_at hl 1 rfl) ?_
  refine lv_iload_n hx hb d_m_ask_115 rfl (lv_at hl 5 rfl) ?_
  refine va_iast hx hb hK hP hD hS 18 0 rfl rfl (rl_in (n := 300) (by omega) (by omega)) d_m_ask_116 (fun H locs hP hD hS => ?_)
  obtain ⟨F5, eF5⟩ : ∃ G, G = rl_st F3 17 i6.toNatClampNeg jk := ⟨_, rfl⟩
  have hP : va_P D rl_cl (rm_w a kI kZ F5) H := by rw [eF5]; exact hP
  have hD : va_D A (rm_w a kI kZ F5) := by rw [eF5]; exact hD
  obtain ⟨tF5, hRF5⟩ := rm_keep eF5 (by decide) (by decide) (by decide) hRF3
  rw [tF3.1, tF3.2.1, tF3.2.2.1, tF3.2.2.2] at tF5
  clear tF3
  have x6 : rm_Ix how F5 jt jk ju := fun h => rm_Ex.st eF5 (by decide) (x4 h)
  refine lv_aload_n hx hb d_m_ask_117 rfl (lv_at hl 2 rfl) ?_
  refine va_get (D := D) (ci := 5) (v := .ref (a 19)) (C := "RightsLimitModel") (T := fT_m) (N := 33) hx hb hG fi_m hown hK hP 0 rfl rfl 24 (by decide) (hG _ wd_507) (fun _ h9 => h9) rfl d_m_ask_118 ?_
  refine lv_iload hx hb d_m_ask_121 (lv_at hl 1 rfl) ?_
  refine lv_iload hx hb d_m_ask_123 (lv_at hl 6 rfl) ?_
  refine va_iast hx hb hK hP hD hS 19 0 rfl rfl (rl_in (n := 300) (by omega) (by omega)) d_m_ask_125 (fun H locs hP hD hS => ?_)
  obtain ⟨F7, eF7⟩ : ∃ G, G = rl_st F5 18 i6.toNatClampNeg jg := ⟨_, rfl⟩
  have hP : va_P D rl_cl (rm_w a kI kZ F7) H := by rw [eF7]; exact hP
  have hD : va_D A (rm_w a kI kZ F7) := by rw [eF7]; exact hD
  obtain ⟨tF7, hRF7⟩ := rm_keep eF7 (by decide) (by decide) (by decide) hRF5
  rw [tF5.1, tF5.2.1, tF5.2.2.1, tF5.2.2.2] at tF7
  clear tF5
  have x8 : rm_Ix how F7 jt jk ju := fun h => rm_Ex.st eF7 (by decide) (x6 h)
  refine lv_aload_n hx hb d_m_ask_126 rfl (lv_at hl 2 rfl) ?_
  refine va_get (D := D) (ci := 5) (v := .ref (a 20)) (C := "RightsLimitModel") (T := fT_m) (N := 33) hx hb hG fi_m hown hK hP 0 rfl rfl 25 (by decide) (hG _ wd_508) (fun _ h9 => h9) rfl d_m_ask_127 ?_
  refine lv_iload hx hb d_m_ask_130 (lv_at hl 1 rfl) ?_
  refine lv_iload hx hb d_m_ask_132 (lv_at hl 7 rfl) ?_
  refine va_iast hx hb hK hP hD hS 20 0 rfl rfl (rl_in (n := 300) (by omega) (by omega)) d_m_ask_134 (fun H locs hP hD hS => ?_)
  obtain ⟨F9, eF9⟩ : ∃ G, G = rl_st F7 19 i6.toNatClampNeg ju := ⟨_, rfl⟩
  have hP : va_P D rl_cl (rm_w a kI kZ F9) H := by rw [eF9]; exact hP
  have hD : va_D A (rm_w a kI kZ F9) := by rw [eF9]; exact hD
  obtain ⟨tF9, hRF9⟩ := rm_keep eF9 (by decide) (by decide) (by decide) hRF7
  rw [tF7.1, tF7.2.1, tF7.2.2.1, tF7.2.2.2] at tF9
  clear tF7
  have x10 : rm_Ix how F9 jt jk ju := fun h => rm_Ex.st eF9 (by decide) (x8 h)
  refine lv_aload_n hx hb d_m_ask_135 rfl (lv_at hl 2 rfl) ?_
  refine va_get (D := D) (ci := 5) (v := .ref (a 21)) (C := "RightsLimitModel") (T := fT_m) (N := 33) hx hb hG fi_m hown hK hP 0 rfl rfl 26 (by decide) (hG _ wd_509) (fun _ h9 => h9) rfl d_m_ask_136 ?_
  refine lv_iload hx hb d_m_ask_139 (lv_at hl 1 rfl) ?_
  refine lv_iload hx hb d_m_ask_141 (lv_at hl 0 rfl) ?_
  refine va_iast hx hb hK hP hD hS 21 0 rfl rfl (rl_in (n := 300) (by omega) (by omega)) d_m_ask_143 (fun H locs hP hD hS => ?_)
  obtain ⟨F11, eF11⟩ : ∃ G, G = rl_st F9 20 i6.toNatClampNeg how := ⟨_, rfl⟩
  have hP : va_P D rl_cl (rm_w a kI kZ F11) H := by rw [eF11]; exact hP
  have hD : va_D A (rm_w a kI kZ F11) := by rw [eF11]; exact hD
  obtain ⟨tF11, hRF11⟩ := rm_keep eF11 (by decide) (by decide) (by decide) hRF9
  rw [tF9.1, tF9.2.1, tF9.2.2.1, tF9.2.2.2] at tF11
  clear tF9
  have x12 : rm_Ix how F11 jt jk ju := fun h => rm_Ex.st eF11 (by decide) (x10 h)
  exact k_m_ask_144 l D a kI kZ F jn jt jk jg ju hI hx hb hr hml hown hG hlocks hK hA hN F11 ⟨by omega, by omega, by omega, by omega⟩ hRF11 i6 how (by omega) (by omega) (by omega) (by omega) (by omega) (by omega) x12 hP hD hS (lv_sub hl [0, 1, 2, 3, 4, 5, 6, 7] rfl)
set_option maxHeartbeats 4000000 in
set_option maxRecDepth 100000 in
theorem k_m_ask (l : Launch) (D : va_G) (a : Nat → Nat) (kI kZ : ClassId) (F : Nat → Nat → Int32) (jn jt jk jg ju : Int32) (hI : rm_I F) (sz : Nat) : rl_Ci (S := Nat → Nat → Int32) l ⟨"RightsLimitModel", "ask", "(IIIII)I"⟩ (Cond.code ⟨"RightsLimitModel", "ask", "(IIIII)I"⟩ prog_7_method_15_code 8 (some .int) :: rl_G) { frames := 3, cells := 0, slots := 0, locals := 73 } D rl_cl (rl_tys kI kZ) [] [.ref (a 0), .int jn, .int jt, .int jk, .int jg, .int ju] (rm_w a kI kZ F) sz (fun (r : Int32) (F' : Nat → Nat → Int32) => rm_R F' ∧ ((F' 27 2).toInt = (F 27 2).toInt ∧ (F' 27 3).toInt = (F 27 3).toInt ∧ (F' 27 4).toInt = (F 27 4).toInt ∧ 0 ≤ (F' 27 5).toInt ∧ (F' 27 5).toInt ≤ 300)) (fun F' => rm_w a kI kZ F') 0 0 := by
  refine rl_meti (cc := prog_7_method_15_code) (maxL := 8) (ret := (some .int)) (by decide) rfl (Nat.le_of_ble_eq_true rfl) ?_
  intro p e s m below meth c A ls hx hb hr hml hown hts hlocks hnm hP hK hD hS hA hN hl
  have hown : s.vm.findClass "RightsLimitModel" = some m.cls := hown
  have hG : ∀ x ∈ rl_G, x.before _ s = true := fun x h => hts x (List.mem_cons_of_mem _ h)
  have hl : lv_has ls 8 [(0, .ref (a 0)), (1, .int jn), (2, .int jt), (3, .int jk), (4, .int jg), (5, .int ju)] := hl
  obtain ⟨hcnt, hR⟩ := id hI
  refine lv_aload_n hx hb d_m_ask_0 rfl (lv_at hl 0 rfl) ?_
  refine lv_iconst (v := 0) hx hb d_m_ask_1 (by decide) ?_
  refine va_put (D := D) (ci := 5) (v := .int 0) (ty := .int) (C := "RightsLimitModel") (T := fT_m) (N := 33) hx hb hG fi_m fy_m fo_m fn_m hown hK hP hD hS 0 rfl rfl 0 (by decide) (hG _ wd_483) (fun _ h9 => h9) rfl (by decide +kernel) rfl rfl (Nat.le_of_ble_eq_true rfl) d_m_ask_2 (fun H locs hP hD hS => ?_)
  obtain ⟨F1, eF1⟩ : ∃ G, G = rl_st F 27 0 0 := ⟨_, rfl⟩
  have hP : va_P D rl_cl (rm_w a kI kZ F1) H := by rw [eF1]; exact hP
  have hD : va_D A (rm_w a kI kZ F1) := by rw [eF1]; exact hD
  obtain ⟨tF1, hRF1⟩ := rm_putS eF1 (by decide) (by decide) (by decide) (by decide) hR
  refine lv_aload_n hx hb d_m_ask_5 rfl (lv_at hl 0 rfl) ?_
  refine lv_iload_n hx hb d_m_ask_6 rfl (lv_at hl 2 rfl) ?_
  have hpre := rl_BR.pre (av := .ref (a 0) :: [.int jt]) rl_nw0 hP hK hN
  refine rl_callr hS (va_runV (As := [.int jt]) (rest := []) ⟨hx, hb, hml, hown, hG⟩ (k_m_isTitle l D a kI kZ F1 jt ⟨by omega, hRF1⟩ _) (cwV 1 hG (rl_gV wd_594 wd_596 wd_6 wd_19 wd_597) rfl rfl rfl (by decide +kernel) ⟨Nat.le_of_ble_eq_true rfl, Nat.le_of_ble_eq_true rfl⟩) ⟨hpre.1, (va_recv hK hP (ci := 5) (q0 := 0) rfl rfl), hpre.2⟩ rfl rfl hl.1 rfl (lv_room (Nat.le_of_ble_eq_true rfl)) d_m_ask_7 ⟨Nat.le_of_ble_eq_true rfl, Nat.le_of_ble_eq_true rfl⟩) (fun r2 locs hw hS => ?_)
  rcases hw with ⟨rfl, h3⟩ | ⟨rfl, h3⟩
  · refine lv_if_ne (tgt := 15) hx hb d_m_ask_10 (by decide) (fun _ => ?_) (fun c9 => absurd c9 (by decide))
    refine lv_iload_n hx hb d_m_ask_15 rfl (lv_at hl 1 rfl) ?_
    refine lv_iconst (v := 0) hx hb d_m_ask_16 (by decide) ?_
    refine lv_bipush (v := 99) hx hb d_m_ask_17 (by decide) ?_
    refine rl_callr hS (va_runS (As := [.int jn, .int 0, .int 99]) (rest := []) ⟨hx, hb, hml, hown, hG⟩ (k_m_in l D a kI kZ jn 0 99 _) (cwS 3 hG (rl_gS wd_587 wd_588 wd_19 wd_589) rfl rfl rfl (by decide +kernel) ⟨Nat.le_of_ble_eq_true rfl, Nat.le_of_ble_eq_true rfl⟩) (rl_BR.pre rl_nw0 rl_P0 hK hN) rfl rfl hl.1 rfl (lv_room (Nat.le_of_ble_eq_true rfl)) d_m_ask_19 ⟨Nat.le_of_ble_eq_true rfl, Nat.le_of_ble_eq_true rfl⟩) (fun r4 locs hw hS => ?_)
    try simp only [rl_n0, rl_n99] at hw
    rcases hw with ⟨rfl, h5⟩ | ⟨rfl, h5⟩
    · refine lv_if_eq (tgt := 55) hx hb d_m_ask_22 (by decide) (fun c9 => absurd c9 (by decide)) (fun _ => ?_)
      refine lv_iload_n hx hb d_m_ask_25 rfl (lv_at hl 3 rfl) ?_
      refine lv_iconst (v := 0) hx hb d_m_ask_26 (by decide) ?_
      refine lv_iconst (v := 1) hx hb d_m_ask_27 (by decide) ?_
      refine rl_callr hS (va_runS (As := [.int jk, .int 0, .int 1]) (rest := []) ⟨hx, hb, hml, hown, hG⟩ (k_m_in l D a kI kZ jk 0 1 _) (cwS 3 hG (rl_gS wd_587 wd_588 wd_19 wd_589) rfl rfl rfl (by decide +kernel) ⟨Nat.le_of_ble_eq_true rfl, Nat.le_of_ble_eq_true rfl⟩) (rl_BR.pre rl_nw0 rl_P0 hK hN) rfl rfl hl.1 rfl (lv_room (Nat.le_of_ble_eq_true rfl)) d_m_ask_28 ⟨Nat.le_of_ble_eq_true rfl, Nat.le_of_ble_eq_true rfl⟩) (fun r6 locs hw hS => ?_)
      try simp only [rl_n0, rl_n1] at hw
      rcases hw with ⟨rfl, h7⟩ | ⟨rfl, h7⟩
      · refine lv_if_eq (tgt := 55) hx hb d_m_ask_31 (by decide) (fun c9 => absurd c9 (by decide)) (fun _ => ?_)
        refine lv_iload hx hb d_m_ask_34 (lv_at hl 4 rfl) ?_
        refine lv_iconst (v := 1) hx hb d_m_ask_36 (by decide) ?_
        refine lv_sipush (v := 1000) hx hb d_m_ask_37 (by decide) ?_
        refine rl_callr hS (va_runS (As := [.int jg, .int 1, .int 1000]) (rest := []) ⟨hx, hb, hml, hown, hG⟩ (k_m_in l D a kI kZ jg 1 1000 _) (cwS 3 hG (rl_gS wd_587 wd_588 wd_19 wd_589) rfl rfl rfl (by decide +kernel) ⟨Nat.le_of_ble_eq_true rfl, Nat.le_of_ble_eq_true rfl⟩) (rl_BR.pre rl_nw0 rl_P0 hK hN) rfl rfl hl.1 rfl (lv_room (Nat.le_of_ble_eq_true rfl)) d_m_ask_40 ⟨Nat.le_of_ble_eq_true rfl, Nat.le_of_ble_eq_true rfl⟩) (fun r8 locs hw hS => ?_)
        try simp only [rl_n1, rl_n1000] at hw
        rcases hw with ⟨rfl, h9⟩ | ⟨rfl, h9⟩
        · refine lv_if_eq (tgt := 55) hx hb d_m_ask_43 (by decide) (fun c9 => absurd c9 (by decide)) (fun _ => ?_)
          refine lv_aload_n hx hb d_m_ask_46 rfl (lv_at hl 0 rfl) ?_
          refine lv_iload hx hb d_m_ask_47 (lv_at hl 5 rfl) ?_
          have hpre := rl_BR.pre (av := .ref (a 0) :: [.int ju]) rl_nw0 hP hK hN
          refine rl_callr hS (va_runV (As := [.int ju]) (rest := []) ⟨hx, hb, hml, hown, hG⟩ (k_m_isNow l D a kI kZ F1 ju ⟨by omega, hRF1⟩ _) (cwV 1 hG (rl_gV wd_615 wd_617 wd_7 wd_19 wd_618) rfl rfl rfl (by decide +kernel) ⟨Nat.le_of_ble_eq_true rfl, Nat.le_of_ble_eq_true rfl⟩) ⟨hpre.1, (va_recv hK hP (ci := 5) (q0 := 0) rfl rfl), hpre.2⟩ rfl rfl hl.1 rfl (lv_room (Nat.le_of_ble_eq_true rfl)) d_m_ask_49 ⟨Nat.le_of_ble_eq_true rfl, Nat.le_of_ble_eq_true rfl⟩) (fun r10 locs hw hS => ?_)
          rcases hw with ⟨rfl, h11⟩ | ⟨rfl, h11⟩
          · refine lv_if_ne (tgt := 58) hx hb d_m_ask_52 (by decide) (fun _ => ?_) (fun c9 => absurd c9 (by decide))
            refine lv_aload_n hx hb d_m_ask_58 rfl (lv_at hl 0 rfl) ?_
            refine va_get (D := D) (ci := 5) (v := .int (F1 27 5)) (C := "RightsLimitModel") (T := fT_m) (N := 33) hx hb hG fi_m hown hK hP 0 rfl rfl 20 (by decide) (hG _ wd_503) (fun _ h9 => h9) rfl d_m_ask_59 ?_
            refine lv_sipush (v := 300) hx hb d_m_ask_62 (by decide) ?_
            refine lv_icmp_ne (tgt := 71) hx hb d_m_ask_65 (by decide) (fun c12 => ?_) (fun c12 => ?_)
            · have ic12 := rl_ine c12
              simp only [rl_n300] at ic12
              have nc12 : (F1 27 5).toInt < 300 := by omega
              clear ic12
              refine lv_aload_n hx hb d_m_ask_71 rfl (lv_at hl 0 rfl) ?_
              refine lv_iload hx hb d_m_ask_72 (lv_at hl 5 rfl) ?_
              refine va_put (D := D) (ci := 5) (v := .int ju) (ty := .int) (C := "RightsLimitModel") (T := fT_m) (N := 33) hx hb hG fi_m fy_m fo_m fn_m hown hK hP hD hS 0 rfl rfl 1 (by decide) (hG _ wd_484) (fun _ h9 => h9) rfl (by decide +kernel) rfl rfl (Nat.le_of_ble_eq_true rfl) d_m_ask_74 (fun H locs hP hD hS => ?_)
              obtain ⟨F13, eF13⟩ : ∃ G, G = rl_st F1 27 1 ju := ⟨_, rfl⟩
              have hP : va_P D rl_cl (rm_w a kI kZ F13) H := by rw [eF13]; exact hP
              have hD : va_D A (rm_w a kI kZ F13) := by rw [eF13]; exact hD
              obtain ⟨tF13, hRF13⟩ := rm_putS eF13 (by decide) (by decide) (by decide) (by decide) hRF1
              rw [tF1.1, tF1.2.1, tF1.2.2.1, tF1.2.2.2] at tF13
              refine lv_aload_n hx hb d_m_ask_77 rfl (lv_at hl 0 rfl) ?_
              refine va_get (D := D) (ci := 5) (v := .int (F13 27 5)) (C := "RightsLimitModel") (T := fT_m) (N := 33) hx hb hG fi_m hown hK hP 0 rfl rfl 20 (by decide) (hG _ wd_503) (fun _ h9 => h9) rfl d_m_ask_78 ?_
              refine lv_istore (lv' := [(6, .int (F13 27 5)), (0, .ref (a 0)), (1, .int jn), (2, .int jt), (3, .int jk), (4, .int jg), (5, .int ju)]) hx hb d_m_ask_81 hl (by decide) rfl (fun ls hl => ?_)
              refine lv_aload_n hx hb d_m_ask_83 rfl (lv_at hl 1 rfl) ?_
              refine lv_iload_n hx hb d_m_ask_84 rfl (lv_at hl 3 rfl) ?_
              refine lv_iload_n hx hb d_m_ask_85 rfl (lv_at hl 4 rfl) ?_
              refine lv_iload hx hb d_m_ask_86 (lv_at hl 6 rfl) ?_
              have hpre := rl_BR.pre (av := .ref (a 0) :: [.int jt, .int jk, .int ju]) rl_nw0 hP hK hN
              refine rl_callr hS (va_runV (As := [.int jt, .int jk, .int ju]) (rest := []) ⟨hx, hb, hml, hown, hG⟩ (k_m_decide l D a kI kZ F13 jt jk ju ⟨by omega, hRF13⟩ (by omega) (by omega) _) (cwV 3 hG (rl_gV wd_619 wd_621 wd_8 wd_19 wd_622) rfl rfl rfl (by decide +kernel) ⟨Nat.le_of_ble_eq_true rfl, Nat.le_of_ble_eq_true rfl⟩) ⟨hpre.1, (va_recv hK hP (ci := 5) (q0 := 0) rfl rfl), hpre.2⟩ rfl rfl hl.1 rfl (lv_room (Nat.le_of_ble_eq_true rfl)) d_m_ask_88 ⟨Nat.le_of_ble_eq_true rfl, Nat.le_of_ble_eq_true rfl⟩) (fun r14 locs hw hS => ?_)
              have hwr14 := hw
              have xr14 := hw.2
              refine lv_istore (lv' := [(7, .int r14), (6, .int (F13 27 5)), (0, .ref (a 0)), (1, .int jn), (2, .int jt), (3, .int jk), (4, .int jg), (5, .int ju)]) hx hb d_m_ask_91 hl (by decide) rfl (fun ls hl => ?_)
              exact k_m_ask_93 l D a kI kZ F jn jt jk jg ju hI hx hb hr hml hown hG hlocks hK hA hN F13 ⟨by omega, by omega, by omega, by omega⟩ hRF13 (F13 27 5) r14 (by omega) (by omega) (by omega) (by omega) (by omega) (by omega) xr14 hP hD hS (lv_sub hl [0, 1, 2, 3, 4, 5, 6, 7] rfl)
            · have ic12 := rl_ieq c12
              simp only [rl_n300] at ic12
              refine lv_bipush (v := (-4)) hx hb d_m_ask_68 (by decide) ?_
              exact W.iret (v := (-4)) hx hb hr (fun t ht hW => ⟨⟨(-4), F1, rfl, ⟨hRF1, (show (F1 27 2).toInt = (F 27 2).toInt ∧ (F1 27 3).toInt = (F 27 3).toInt ∧ (F1 27 4).toInt = (F 27 4).toInt ∧ 0 ≤ (F1 27 5).toInt ∧ (F1 27 5).toInt ≤ 300 by have q9 := rl_nm4; omega)⟩, ⟨by rw [ht]; exact hP, hD⟩⟩, hS.F ht⟩) hS.2.2 d_m_ask_70
          · refine lv_if_ne (tgt := 58) hx hb d_m_ask_52 (by decide) (fun c9 => absurd c9 (by decide)) (fun _ => ?_)
            refine lv_bipush (v := (-2)) hx hb d_m_ask_55 (by decide) ?_
            exact W.iret (v := (-2)) hx hb hr (fun t ht hW => ⟨⟨(-2), F1, rfl, ⟨hRF1, (show (F1 27 2).toInt = (F 27 2).toInt ∧ (F1 27 3).toInt = (F 27 3).toInt ∧ (F1 27 4).toInt = (F 27 4).toInt ∧ 0 ≤ (F1 27 5).toInt ∧ (F1 27 5).toInt ≤ 300 by have q9 := rl_nm2; omega)⟩, ⟨by rw [ht]; exact hP, hD⟩⟩, hS.F ht⟩) hS.2.2 d_m_ask_57
        · refine lv_if_eq (tgt := 55) hx hb d_m_ask_43 (by decide) (fun _ => ?_) (fun c9 => absurd c9 (by decide))
          refine lv_bipush (v := (-2)) hx hb d_m_ask_55 (by decide) ?_
          exact W.iret (v := (-2)) hx hb hr (fun t ht hW => ⟨⟨(-2), F1, rfl, ⟨hRF1, (show (F1 27 2).toInt = (F 27 2).toInt ∧ (F1 27 3).toInt = (F 27 3).toInt ∧ (F1 27 4).toInt = (F 27 4).toInt ∧ 0 ≤ (F1 27 5).toInt ∧ (F1 27 5).toInt ≤ 300 by have q9 := rl_nm2; omega)⟩, ⟨by rw [ht]; exact hP, hD⟩⟩, hS.F ht⟩) hS.2.2 d_m_ask_57
      · refine lv_if_eq (tgt := 55) hx hb d_m_ask_31 (by decide) (fun _ => ?_) (fun c9 => absurd c9 (by decide))
        refine lv_bipush (v := (-2)) hx hb d_m_ask_55 (by decide) ?_
        exact W.iret (v := (-2)) hx hb hr (fun t ht hW => ⟨⟨(-2), F1, rfl, ⟨hRF1, (show (F1 27 2).toInt = (F 27 2).toInt ∧ (F1 27 3).toInt = (F 27 3).toInt ∧ (F1 27 4).toInt = (F 27 4).toInt ∧ 0 ≤ (F1 27 5).toInt ∧ (F1 27 5).toInt ≤ 300 by have q9 := rl_nm2; omega)⟩, ⟨by rw [ht]; exact hP, hD⟩⟩, hS.F ht⟩) hS.2.2 d_m_ask_57
    · refine lv_if_eq (tgt := 55) hx hb d_m_ask_22 (by decide) (fun _ => ?_) (fun c9 => absurd c9 (by decide))
      refine lv_bipush (v := (-2)) hx hb d_m_ask_55 (by decide) ?_
      exact W.iret (v := (-2)) hx hb hr (fun t ht hW => ⟨⟨(-2), F1, rfl, ⟨hRF1, (show (F1 27 2).toInt = (F 27 2).toInt ∧ (F1 27 3).toInt = (F 27 3).toInt ∧ (F1 27 4).toInt = (F 27 4).toInt ∧ 0 ≤ (F1 27 5).toInt ∧ (F1 27 5).toInt ≤ 300 by have q9 := rl_nm2; omega)⟩, ⟨by rw [ht]; exact hP, hD⟩⟩, hS.F ht⟩) hS.2.2 d_m_ask_57
  · refine lv_if_ne (tgt := 15) hx hb d_m_ask_10 (by decide) (fun c9 => absurd c9 (by decide)) (fun _ => ?_)
    refine lv_iconst (v := (-1)) hx hb d_m_ask_13 (by decide) ?_
    exact W.iret (v := (-1)) hx hb hr (fun t ht hW => ⟨⟨(-1), F1, rfl, ⟨hRF1, (show (F1 27 2).toInt = (F 27 2).toInt ∧ (F1 27 3).toInt = (F 27 3).toInt ∧ (F1 27 4).toInt = (F 27 4).toInt ∧ 0 ≤ (F1 27 5).toInt ∧ (F1 27 5).toInt ≤ 300 by have q9 := rl_nm1; omega)⟩, ⟨by rw [ht]; exact hP, hD⟩⟩, hS.F ht⟩) hS.2.2 d_m_ask_14
