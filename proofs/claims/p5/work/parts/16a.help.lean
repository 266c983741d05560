abbrev rl_t3 (kI kZ kL : ClassId) : List (ClassId × FieldType) := [(kI, .int), (kZ, .boolean), (kL, .long)]
abbrev rl_O (kL : ClassId) (q : Nat) (g : Nat → Int64) : va_W := [(q, .inl (kL, 1, .inr (.inl g)))]
def rl_BH (D : va_G) (a : Nat → Nat) (kI kZ kL : ClassId) (q : Nat) (F : Nat → Nat → Int32) (g : Nat → Int64) (sz : Nat) (U : State) : Prop := rl_B D rl_cl (rl_t3 kI kZ kL) rl_nw (rl_w a kI kZ F ++ rl_O kL q g) sz U ∧ rl_Z U ∧ va_Nw (.castable rl_NSE rl_NSE) U
theorem rl_BH.pre {D : va_G} {a : Nat → Nat} {kI kZ kL : ClassId} {q : Nat} {F : Nat → Nat → Int32} {g : Nat → Int64} {s : State} {H : Heap} {A : Nat → Prop} {av : List Value} (hP : va_P D rl_cl (rl_w a kI kZ F ++ rl_O kL q g) H) (hK : va_K D rl_cl (rl_t3 kI kZ kL) s) (hD : va_D A (rl_w a kI kZ F ++ rl_O kL q g)) (hN : ∀ x ∈ rl_nw, va_Nw x s) (hh : ∀ (q : Nat) (cell : Cell), s.heap[q]? = some cell → H[q]? = some cell) (hZ : rl_Z s) (hC : va_Nw (.castable rl_NSE rl_NSE) s) : PreS s H (va_Pc av (rl_BH D a kI kZ kL q F g H.size)) av := by
  have h := rl_B.pre (av := av) rl_nw_ok hP hK hD hN
  refine ⟨fun b U g mk q => ?_, fun U hU hW => ⟨rfl, (h.2 U hU hW).2, rl_Z.warm hW (fun q cell hq => by rw [hU]; exact hh q cell hq) hZ, va_Nw.warmC hW hC⟩⟩
  obtain ⟨q0, q1, q2, q3⟩ := q
  exact ⟨q0, (h.1 b U g mk ⟨q0, q1⟩).2, rl_Z.calling q2, va_Nw.same (u := U) rfl rfl q3⟩
theorem rl_table {p : Program} {l : Launch} {y : MethodName} {S : Spec} {cc bytes : ByteArray} {maxL maxL' : Nat} {ret ret' : Option FieldType} {e : Env} {s s₁ : State} {m : MethodId} {args : Array Value} {below : List Frame} {meth : Method} {c : Code} {hh : List (Nat × Nat × Nat × Nat)}
    (B : BodyLoose p l y S cc maxL ret e s m args below meth c s₁) (h : (Cond.codeWith y bytes maxL' ret' hh).before args s = true) : c.exceptionTable.toList = tableOf hh := by
  obtain ⟨m9, meth9, c9, hn9, h1, h2, -, -, h6, -⟩ := Cond.codeWith_spec h
  cases Option.some.inj (hn9.symm.trans B.named)
  cases Option.some.inj (h1.symm.trans B.method)
  cases Option.some.inj (h2.symm.trans (Stand.of_body B).code)
  rw [← h6, table_eq]
set_option maxHeartbeats 4000000 in
set_option maxRecDepth 100000 in
theorem k_w_request (l : Launch) (D : va_G) (a : Nat → Nat) (kI kZ kL : ClassId) (q : Nat) (F : Nat → Nat → Int32) (g : Nat → Int64) (j1 j2 : Int32) (hI : rl_I F) (hlt : l.stackTraces = false) (sz : Nat) : Met l ⟨"RightsLimitLaw", "request", "(LRightsLimit;II[J)I"⟩ (Cond.codeWith ⟨"RightsLimitLaw", "request", "(LRightsLimit;II[J)I"⟩ method_3_code 5 (some .int) [(0, 10, 13, 13)] :: rl_G) { frames := 7, cells := 1, slots := 6, locals := 104 } (va_Pc [.ref (a 0), .int j1, .int j2, .ref q] (rl_BH D a kI kZ kL q F g sz)) (va_Qi (S := Nat → Int64) (fun _ _ => True) (fun g' t => va_P D rl_cl (rl_w a kI kZ F ++ rl_O kL q g') t.heap ∧ va_D (va_A (rl_w a kI kZ F ++ rl_O kL q g) sz) (rl_w a kI kZ F ++ rl_O kL q g')) (va_A (rl_w a kI kZ F ++ rl_O kL q g) sz)) 1 6 (va_A (rl_w a kI kZ F ++ rl_O kL q g) sz) := by
  refine va_MetW (cc := method_3_code) (maxL := 5) (ret := (some .int)) (hh := [(0, 10, 13, 13)]) (by decide) rfl ?_
  intro p e s m args below meth c s₁ B hml hv
  obtain ⟨rfl, ⟨hsz, hP, hK, hD0, hN⟩, hZ, hC⟩ := hv
  subst hsz
  have hx := B.exec
  have hb := B.bytes
  have hr := B.returns
  have hts := atoms_spec (ws := Cond.codeWith ⟨"RightsLimitLaw", "request", "(LRightsLimit;II[J)I"⟩ method_3_code 5 (some .int) [(0, 10, 13, 13)] :: rl_G) B.pre
  have hown : s.vm.findClass "RightsLimitLaw" = some m.cls := findClass_of_methodNamed B.named
  have hlocks := B.notSynchronized
  have hG : ∀ x ∈ rl_G, x.before _ s = true := fun x h => hts x (List.mem_cons_of_mem _ h)
  have htab : c.exceptionTable.toList = [⟨0, 10, 13, 13⟩] := rl_table B (hts _ List.mem_cons_self)
  have hD := hD0.self (sz := s.heap.size)
  have hS : va_S (va_A (rl_w a kI kZ F ++ rl_O kL q g) s.heap.size) s.heap s.heap [] := va_S.rf
  have hl := lv_entry ([.ref (a 0), .int j1, .int j2, .ref q]) (n := 5) (Nat.le_of_ble_eq_true rfl)
  rw [lg_entry_eq]
  generalize (lg_sl ([.ref (a 0), .int j1, .int j2, .ref q]) ++ List.replicate (5 - (lg_sl ([.ref (a 0), .int j1, .int j2, .ref q])).length) Slot.unset).toArray = ls at hl ⊢
  have hl : lv_has ls 5 [(0, .ref (a 0)), (1, .int j1), (2, .int j2), (3, .ref q)] := hl
  refine lv_aload_n hx hb d_w_request_0 rfl (lv_at hl 3 rfl) ?_
  refine lv_iconst (v := 0) hx hb d_w_request_1 (by decide) ?_
  refine lv_aload_n hx hb d_w_request_2 rfl (lv_at hl 0 rfl) ?_
  refine lv_iload_n hx hb d_w_request_3 rfl (lv_at hl 1 rfl) ?_
  refine lv_iload_n hx hb d_w_request_4 rfl (lv_at hl 2 rfl) ?_
  have hpre := rl_BT.pre (av := .ref (a 0) :: [.int j1, .int j2]) rl_nw_ok (rl_P.l hP) (hK.sub (tys' := rl_tys kI kZ) [0, 1] rfl) hN (fun U hU hW => rl_Z.warm hW (fun q cell h => by rw [hU]; exact h) hZ)
  refine rl_callt (As := [.int j1, .int j2]) (rest := [.int 0, .ref q]) ⟨hx, hb, hml, hown, hG⟩ (k_x_request l D a kI kZ F j1 j2 hI hlt _) (cwV 2 hG (rl_gV wd_394 wd_395 wd_396 wd_14 wd_397) rfl rfl rfl (by decide +kernel) ⟨Nat.le_of_ble_eq_true rfl, Nat.le_of_ble_eq_true rfl⟩) ⟨hpre.1, (va_recv hK hP (ci := 0) (q0 := 0) rfl rfl), hpre.2⟩ rfl hl.1 rfl (lv_room (Nat.le_of_ble_eq_true rfl)) d_w_request_5 ⟨Nat.le_of_ble_eq_true rfl, Nat.le_of_ble_eq_true rfl⟩ htab (by decide) (by decide) (hG _ wd_393) (va_Nw.use rfl hC) (fun r H1 hp hold hsz => ?_) (fun q9 H1 hold hsz => ?_)
  · have hP := rl_P.grow hold hP
    have hS := rl_S.grow hold hsz hS
    refine lv_i2l hx hb d_w_request_8 rfl ?_
    refine va_last hx hb hK hP hD hS 32 2 rfl rfl (rl_in (x := 0) (n := 1) (by decide) (by decide)) d_w_request_9 (fun H locs hP hD hS => ?_)
    have hP : va_P D rl_cl (rl_w a kI kZ F ++ rl_O kL q (vp_updL g (0 : Int32).toNatClampNeg r.toInt64)) H := hP
    have hD : va_D (va_A (rl_w a kI kZ F ++ rl_O kL q g) s.heap.size) (rl_w a kI kZ F ++ rl_O kL q (vp_updL g (0 : Int32).toNatClampNeg r.toInt64)) := hD
    refine lv_goto (tgt := 17) hx hb d_w_request_10 (by decide) ?_
    refine lv_iconst (v := 0) hx hb d_w_request_17 (by decide) ?_
    exact W.iret (v := 0) hx hb hr (fun t ht hW => ⟨⟨0, vp_updL g (0 : Int32).toNatClampNeg r.toInt64, rfl, trivial, ⟨by rw [ht]; exact hP, hD⟩⟩, hS.F ht⟩) hS.2.2 d_w_request_18
  · refine lv_astore (lv' := [(4, .ref q9), (0, .ref (a 0)), (1, .int j1), (2, .int j2), (3, .ref q)]) hx hb d_w_request_13 hl (by decide) rfl (fun ls hl => ?_)
    refine lv_iconst (v := 1) hx hb d_w_request_15 (by decide) ?_
    exact W.iret (v := 1) hx hb hr (fun t ht hW => ⟨⟨1, g, rfl, trivial, ⟨by rw [ht]; exact rl_P.grow hold hP, hD⟩⟩, (rl_S.grow hold hsz hS).F ht⟩) (fun _ h => by cases h) d_w_request_16
set_option maxHeartbeats 4000000 in
set_option maxRecDepth 100000 in
theorem k_w_past (l : Launch) (D : va_G) (a : Nat → Nat) (kI kZ kL : ClassId) (q : Nat) (F : Nat → Nat → Int32) (g : Nat → Int64) (j1 j2 : Int32) (hI : rl_I F) (hlt : l.stackTraces = false) (sz : Nat) : Met l ⟨"RightsLimitLaw", "past", "(LRightsLimit;II[J)I"⟩ (Cond.codeWith ⟨"RightsLimitLaw", "past", "(LRightsLimit;II[J)I"⟩ method_4_code 5 (some .int) [(0, 10, 13, 13)] :: rl_G) { frames := 7, cells := 1, slots := 6, locals := 105 } (va_Pc [.ref (a 0), .int j1, .int j2, .ref q] (rl_BH D a kI kZ kL q F g sz)) (va_Qi (S := Nat → Int64) (fun _ _ => True) (fun g' t => va_P D rl_cl (rl_w a kI kZ F ++ rl_O kL q g') t.heap ∧ va_D (va_A (rl_w a kI kZ F ++ rl_O kL q g) sz) (rl_w a kI kZ F ++ rl_O kL q g')) (va_A (rl_w a kI kZ F ++ rl_O kL q g) sz)) 1 6 (va_A (rl_w a kI kZ F ++ rl_O kL q g) sz) := by
  refine va_MetW (cc := method_4_code) (maxL := 5) (ret := (some .int)) (hh := [(0, 10, 13, 13)]) (by decide) rfl ?_
  intro p e s m args below meth c s₁ B hml hv
  obtain ⟨rfl, ⟨hsz, hP, hK, hD0, hN⟩, hZ, hC⟩ := hv
  subst hsz
  have hx := B.exec
  have hb := B.bytes
  have hr := B.returns
  have hts := atoms_spec (ws := Cond.codeWith ⟨"RightsLimitLaw", "past", "(LRightsLimit;II[J)I"⟩ method_4_code 5 (some .int) [(0, 10, 13, 13)] :: rl_G) B.pre
  have hown : s.vm.findClass "RightsLimitLaw" = some m.cls := findClass_of_methodNamed B.named
  have hlocks := B.notSynchronized
  have hG : ∀ x ∈ rl_G, x.before _ s = true := fun x h => hts x (List.mem_cons_of_mem _ h)
  have htab : c.exceptionTable.toList = [⟨0, 10, 13, 13⟩] := rl_table B (hts _ List.mem_cons_self)
  have hD := hD0.self (sz := s.heap.size)
  have hS : va_S (va_A (rl_w a kI kZ F ++ rl_O kL q g) s.heap.size) s.heap s.heap [] := va_S.rf
  have hl := lv_entry ([.ref (a 0), .int j1, .int j2, .ref q]) (n := 5) (Nat.le_of_ble_eq_true rfl)
  rw [lg_entry_eq]
  generalize (lg_sl ([.ref (a 0), .int j1, .int j2, .ref q]) ++ List.replicate (5 - (lg_sl ([.ref (a 0), .int j1, .int j2, .ref q])).length) Slot.unset).toArray = ls at hl ⊢
  have hl : lv_has ls 5 [(0, .ref (a 0)), (1, .int j1), (2, .int j2), (3, .ref q)] := hl
  refine lv_aload_n hx hb d_w_past_0 rfl (lv_at hl 3 rfl) ?_
  refine lv_iconst (v := 0) hx hb d_w_past_1 (by decide) ?_
  refine lv_aload_n hx hb d_w_past_2 rfl (lv_at hl 0 rfl) ?_
  refine lv_iload_n hx hb d_w_past_3 rfl (lv_at hl 1 rfl) ?_
  refine lv_iload_n hx hb d_w_past_4 rfl (lv_at hl 2 rfl) ?_
  have hpre := rl_BT.pre (av := .ref (a 0) :: [.int j1, .int j2]) rl_nw_ok (rl_P.l hP) (hK.sub (tys' := rl_tys kI kZ) [0, 1] rfl) hN (fun U hU hW => rl_Z.warm hW (fun q cell h => by rw [hU]; exact h) hZ)
  refine rl_callt (As := [.int j1, .int j2]) (rest := [.int 0, .ref q]) ⟨hx, hb, hml, hown, hG⟩ (k_x_past l D a kI kZ F j1 j2 hI hlt _) (cwV 2 hG (rl_gV wd_468 wd_469 wd_470 wd_14 wd_471) rfl rfl rfl (by decide +kernel) ⟨Nat.le_of_ble_eq_true rfl, Nat.le_of_ble_eq_true rfl⟩) ⟨hpre.1, (va_recv hK hP (ci := 0) (q0 := 0) rfl rfl), hpre.2⟩ rfl hl.1 rfl (lv_room (Nat.le_of_ble_eq_true rfl)) d_w_past_5 ⟨Nat.le_of_ble_eq_true rfl, Nat.le_of_ble_eq_true rfl⟩ htab (by decide) (by decide) (hG _ wd_393) (va_Nw.use rfl hC) (fun r H1 hp hold hsz => ?_) (fun q9 H1 hold hsz => ?_)
  · have hP := rl_P.grow hold hP
    have hS := rl_S.grow hold hsz hS
    refine lv_i2l hx hb d_w_past_8 rfl ?_
    refine va_last hx hb hK hP hD hS 32 2 rfl rfl (rl_in (x := 0) (n := 1) (by decide) (by decide)) d_w_past_9 (fun H locs hP hD hS => ?_)
    have hP : va_P D rl_cl (rl_w a kI kZ F ++ rl_O kL q (vp_updL g (0 : Int32).toNatClampNeg r.toInt64)) H := hP
    have hD : va_D (va_A (rl_w a kI kZ F ++ rl_O kL q g) s.heap.size) (rl_w a kI kZ F ++ rl_O kL q (vp_updL g (0 : Int32).toNatClampNeg r.toInt64)) := hD
    refine lv_goto (tgt := 17) hx hb d_w_past_10 (by decide) ?_
    refine lv_iconst (v := 0) hx hb d_w_past_17 (by decide) ?_
    exact W.iret (v := 0) hx hb hr (fun t ht hW => ⟨⟨0, vp_updL g (0 : Int32).toNatClampNeg r.toInt64, rfl, trivial, ⟨by rw [ht]; exact hP, hD⟩⟩, hS.F ht⟩) hS.2.2 d_w_past_18
  · refine lv_astore (lv' := [(4, .ref q9), (0, .ref (a 0)), (1, .int j1), (2, .int j2), (3, .ref q)]) hx hb d_w_past_13 hl (by decide) rfl (fun ls hl => ?_)
    refine lv_iconst (v := 1) hx hb d_w_past_15 (by decide) ?_
    exact W.iret (v := 1) hx hb hr (fun t ht hW => ⟨⟨1, g, rfl, trivial, ⟨by rw [ht]; exact rl_P.grow hold hP, hD⟩⟩, (rl_S.grow hold hsz hS).F ht⟩) (fun _ h => by cases h) d_w_past_16
