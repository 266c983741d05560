theorem rl_ats_in : ∀ w ∈ rl_atoms "RightsLimit" 135, w ∈ rl_G ∨ w ∈ rl_Zw ∨ w ∈ rl_Zd := by decide +kernel
theorem rl_ats {s : State} {args : Array Value} (hG : ∀ x ∈ rl_G, x.before args s = true) (hZ : rl_Z s) : ∀ w ∈ rl_atoms "RightsLimit" 135, w.before args s = true := by
  intro w hw
  rcases rl_ats_in w hw with h | h | h
  · exact hG w h
  · exact hZ.1 w h args
  · have h9 := hZ.2.2 w h
    simp only [rl_Zd, List.mem_cons, List.not_mem_nil, or_false] at h
    rcases h with rfl | rfl | rfl <;> exact va_Nw.use rfl h9
set_option maxHeartbeats 4000000 in
set_option maxRecDepth 100000 in
theorem k_x_request (l : Launch) (D : va_G) (a : Nat → Nat) (kI kZ : ClassId) (jn jw : Int32) (hlt : l.stackTraces = false) (H0 : Heap) : rl_Mt l ⟨"RightsLimit", "request", "(II)I"⟩ (Cond.code ⟨"RightsLimit", "request", "(II)I"⟩ prog_1_method_15_code 3 (some .int) :: rl_G) { frames := 6, cells := 1, slots := 6, locals := 82 } (va_Pc [.ref (a 0), .int jn, .int jw] (rl_BT D rl_cl (rl_tys kI kZ) [] (rl_w a kI kZ rl_F0) H0)) rl_NSE (fun (r : Int32) => False) 1 6 := by
  refine rl_mett (cc := prog_1_method_15_code) (maxL := 3) (ret := (some .int)) (by decide) rfl (Nat.le_of_ble_eq_true rfl) ?_
  intro p e s m below meth c ls hx hb hr hml hown hts hlocks hP hK hS hN hZ hout hl
  have hown : s.vm.findClass "RightsLimit" = some m.cls := hown
  have hG : ∀ x ∈ rl_G, x.before _ s = true := fun x h => hts x (List.mem_cons_of_mem _ h)
  have hl : lv_has ls 3 [(0, .ref (a 0)), (1, .int jn), (2, .int jw)] := hl
  refine lv_aload_n hx hb d_x_request_0 rfl (lv_at hl 0 rfl) ?_
  refine va_get (D := D) (ci := 0) (v := .ref (a 4)) (C := "RightsLimit") (T := fT_x) (N := 8) hx hb hG fi_x hown hK hP 0 rfl rfl 3 (by decide) (hG _ wd_171) (fun _ h9 => h9) rfl d_x_request_1 ?_
  refine lv_iload_n hx hb d_x_request_4 rfl (lv_at hl 1 rfl) ?_
  have hpre := rl_BR.pre (av := .ref (a 4) :: [.int jn]) rl_nw0 hP hK hN
  refine rl_callr hS (va_runV (As := [.int jn]) (rest := []) ⟨hx, hb, hml, hown, hG⟩ (k_q_has l D a kI kZ jn _) (cwV 1 hG (rl_gV wd_331 wd_332 wd_333 wd_18 wd_334) rfl rfl rfl (by decide +kernel) ⟨Nat.le_of_ble_eq_true rfl, Nat.le_of_ble_eq_true rfl⟩) ⟨hpre.1, (va_recv hK hP (ci := 4) (q0 := 4) rfl rfl), hpre.2⟩ rfl rfl hl.1 rfl (lv_room (Nat.le_of_ble_eq_true rfl)) d_x_request_5 ⟨Nat.le_of_ble_eq_true rfl, Nat.le_of_ble_eq_true rfl⟩) (fun r locs hw hS => ?_)
  obtain rfl := hw
  refine lv_if_ne (tgt := 21) hx hb d_x_request_8 (by decide) (fun c9 => absurd c9 (by decide)) (fun _ => ?_)
  exact rl_throw (own := "RightsLimit") (text := "no such request") (ik := 131) (is := 133) (ic := 135) hx hb hlt hown (hG _ wd_398) (hG _ wd_23) (rl_str hZ (by decide)) (rl_ats hG hZ) hS (hl.1.trans hml.symm) d_x_request_11 d_x_request_14 d_x_request_15 d_x_request_17 d_x_request_20 hout (Nat.le_of_ble_eq_true rfl) (Nat.le_of_ble_eq_true rfl) (Nat.le_of_ble_eq_true rfl) (Nat.le_of_ble_eq_true rfl) hlocks
set_option maxHeartbeats 4000000 in
set_option maxRecDepth 100000 in
theorem k_x_past (l : Launch) (D : va_G) (a : Nat → Nat) (kI kZ : ClassId) (jt jn : Int32) (hlt : l.stackTraces = false) (H0 : Heap) : rl_Mt l ⟨"RightsLimit", "past", "(II)I"⟩ (Cond.code ⟨"RightsLimit", "past", "(II)I"⟩ prog_1_method_18_code 4 (some .int) :: rl_G) { frames := 6, cells := 1, slots := 6, locals := 82 } (va_Pc [.ref (a 0), .int jt, .int jn] (rl_BT D rl_cl (rl_tys kI kZ) [] (rl_w a kI kZ rl_F0) H0)) rl_NSE (fun (r : Int32) => False) 1 6 := by
  refine rl_mett (cc := prog_1_method_18_code) (maxL := 4) (ret := (some .int)) (by decide) rfl (Nat.le_of_ble_eq_true rfl) ?_
  intro p e s m below meth c ls hx hb hr hml hown hts hlocks hP hK hS hN hZ hout hl
  have hown : s.vm.findClass "RightsLimit" = some m.cls := hown
  have hG : ∀ x ∈ rl_G, x.before _ s = true := fun x h => hts x (List.mem_cons_of_mem _ h)
  have hl : lv_has ls 4 [(0, .ref (a 0)), (1, .int jt), (2, .int jn)] := hl
  refine lv_aload_n hx hb d_x_past_0 rfl (lv_at hl 0 rfl) ?_
  refine va_get (D := D) (ci := 0) (v := .ref (a 4)) (C := "RightsLimit") (T := fT_x) (N := 8) hx hb hG fi_x hown hK hP 0 rfl rfl 3 (by decide) (hG _ wd_171) (fun _ h9 => h9) rfl d_x_past_1 ?_
  refine lv_iload_n hx hb d_x_past_4 rfl (lv_at hl 1 rfl) ?_
  refine lv_iload_n hx hb d_x_past_5 rfl (lv_at hl 2 rfl) ?_
  have hpre := rl_BR.pre (av := .ref (a 4) :: [.int jt, .int jn]) rl_nw0 hP hK hN
  refine rl_callr hS (va_runV (As := [.int jt, .int jn]) (rest := []) ⟨hx, hb, hml, hown, hG⟩ (k_q_endedAt l D a kI kZ jt jn _) (cwV 2 hG (rl_gV wd_472 wd_473 wd_474 wd_18 wd_475) rfl rfl rfl (by decide +kernel) ⟨Nat.le_of_ble_eq_true rfl, Nat.le_of_ble_eq_true rfl⟩) ⟨hpre.1, (va_recv hK hP (ci := 4) (q0 := 4) rfl rfl), hpre.2⟩ rfl rfl hl.1 rfl (lv_room (Nat.le_of_ble_eq_true rfl)) d_x_past_6 ⟨Nat.le_of_ble_eq_true rfl, Nat.le_of_ble_eq_true rfl⟩) (fun r locs hw hS => ?_)
  obtain rfl := hw
  refine lv_istore_n (lv' := [(3, .int (-1)), (0, .ref (a 0)), (1, .int jt), (2, .int jn)]) hx hb d_x_past_9 rfl hl (by decide) rfl (fun ls hl => ?_)
  refine lv_iload_n hx hb d_x_past_10 rfl (lv_at hl 0 rfl) ?_
  refine lv_iconst (v := (-1)) hx hb d_x_past_11 (by decide) ?_
  refine lv_icmp_ne (tgt := 25) hx hb d_x_past_12 (by decide) (fun c9 => absurd c9 (by decide)) (fun _ => ?_)
  exact rl_throw (own := "RightsLimit") (text := "no such copy") (ik := 131) (is := 190) (ic := 135) hx hb hlt hown (hG _ wd_398) (hG _ wd_23) (rl_str hZ (by decide)) (rl_ats hG hZ) hS (hl.1.trans hml.symm) d_x_past_15 d_x_past_18 d_x_past_19 d_x_past_21 d_x_past_24 hout (Nat.le_of_ble_eq_true rfl) (Nat.le_of_ble_eq_true rfl) (Nat.le_of_ble_eq_true rfl) (Nat.le_of_ble_eq_true rfl) hlocks
