theorem rl_vk {own tx : String} {k : Nat} {a : Array Value} {s : State} (h : (Cond.stringRef own k tx).before a s = true) : ∃ b, vk_R own k tx b s := by
  have hcur : ∃ cur, s.vm.findClass own = some cur := by
    have h1 := h
    simp only [Cond.before, Cond.holds, Cond.value] at h1
    cases hc : s.vm.findClass own with
    | none => simp [hc] at h1
    | some cur => exact ⟨cur, rfl⟩
  obtain ⟨cur, hcur⟩ := hcur
  obtain ⟨k0, cf, i0, sa, hk0, hcf0, hcp0, hq0, hr0, hsa⟩ := Cond.stringRef_spec hcur h
  exact ⟨sa, by first | exact va_tabs rfl rfl h | exact h, by first | exact hsa | (rw [Term.string_eval_of_vm (args := #[]) (rfl : s.vm = s.vm)]; exact hsa)⟩
set_option maxRecDepth 100000 in
theorem rl_Z0 {s : State} {b : Nat} (hts : ∀ w ∈ lw_tbl, w.before #[Value.ref b] s = true) (hgv : (Jvm.Cond.and given_1 narrow_1).before #[Value.ref b] s = true) : rl_Z s := by
  have hf := flat_of_before _ hgv
  have u1 : (Cond.isRef (.static "java/lang/Throwable" "UNASSIGNED_STACK" "[Ljava/lang/StackTraceElement;")).before #[Value.ref b] s = true := hf _ (by decide +kernel)
  have u2 : (Cond.isRef (.static "java/lang/Throwable" "SUPPRESSED_SENTINEL" "Ljava/util/List;")).before #[Value.ref b] s = true := hf _ (by decide +kernel)
  have u3 : (Cond.laysStatic "java/lang/Throwable" "UNASSIGNED_STACK" "[Ljava/lang/StackTraceElement;").before #[Value.ref b] s = true := hts _ (List.mem_of_getElem? (i := 425) rfl)
  have u4 : (Cond.laysStatic "java/lang/Throwable" "SUPPRESSED_SENTINEL" "Ljava/util/List;").before #[Value.ref b] s = true := hts _ (List.mem_of_getElem? (i := 427) rfl)
  refine ⟨fun w hw a => ?_, fun k tx hk => ?_, fun w hw => ?_⟩
  · have q1 := rl_Z1 (U := s) (a' := a) (Vm.Alike.refl s.vm) (fun _ _ h => h) u3 u1
    have q2 := rl_Z1 (U := s) (a' := a) (Vm.Alike.refl s.vm) (fun _ _ h => h) u4 u2
    simp only [rl_Zw, List.mem_cons, List.not_mem_nil, or_false] at hw
    rcases hw with rfl | rfl | rfl | rfl
    · exact q1.2
    · exact q2.2
    · exact q1.1
    · exact q2.1
  · simp only [rl_Zs, List.mem_cons, List.not_mem_nil, or_false, Prod.mk.injEq] at hk
    rcases hk with ⟨rfl, rfl⟩ | ⟨rfl, rfl⟩ | ⟨rfl, rfl⟩
    · exact rl_vk (hts _ (List.mem_of_getElem? (i := 437) rfl))
    · exact rl_vk (hts _ (List.mem_of_getElem? (i := 464) rfl))
    · exact rl_vk (hts _ (List.mem_of_getElem? (i := 476) rfl))
  · simp only [rl_Zd, List.mem_cons, List.not_mem_nil, or_false] at hw
    rcases hw with rfl | rfl | rfl
    · exact va_Nw.of rfl (hts _ (List.mem_of_getElem? (i := 402) rfl))
    · exact va_Nw.of rfl (hts _ (List.mem_of_getElem? (i := 404) rfl))
    · exact va_Nw.of rfl (hts _ (List.mem_of_getElem? (i := 406) rfl))
set_option maxHeartbeats 4000000 in
set_option maxRecDepth 100000 in
theorem whole_start {p : Program} {e : Env} {s : State} {m : MethodId} {below : List Frame} {meth : Method} {c : Code} (l : Launch) (hlt : l.stackTraces = false) {b L : Nat} {xs : Nat → Int32} (hL : L ≤ 3072) (C0 : lw_At p s m meth c b L xs) : W p l e room_1 s m #[Value.ref b] below meth c s.heap [] 0 0 (lw_Z below #[Value.ref b] s) (entryFrame m ([Value.ref b] : List Value).toArray 7) := by
  obtain ⟨hx, hb, hr, hml, hown, hts, hX, hbl, hlocks, hgv⟩ := id C0
  have hown : s.vm.findClass "RightsLimitLaw" = some m.cls := hown
  have hG : ∀ w ∈ rl_G, w.before #[Value.ref b] s = true := fun w h => hts w (rl_G_in h)
  have hA : ∀ q : Nat, s.heap.size ≤ q → (fun q : Nat => s.heap.size ≤ q) q := fun _ h => h
  have hbA : ¬ (fun q : Nat => s.heap.size ≤ q) b := Nat.not_le.mpr hbl
  obtain ⟨c0, iS0, hKn0⟩ := u_known (C := "RightsLimit") (T := fT_x) (N := 8) (n := 8) hG fi_x (hG _ wd_25)
  obtain ⟨c1, iS1, hKn1⟩ := u_known (C := "RightsLimit$Titles") (T := fT_t) (N := 5) (n := 5) hG fi_t (hG _ wd_33)
  obtain ⟨c2, iS2, hKn2⟩ := u_known (C := "RightsLimit$Limits") (T := fT_l) (N := 5) (n := 5) hG fi_l (hG _ wd_61)
  obtain ⟨c3, iS3, hKn3⟩ := u_known (C := "RightsLimit$Licences") (T := fT_c) (N := 6) (n := 6) hG fi_c (hG _ wd_86)
  obtain ⟨c4, iS4, hKn4⟩ := u_known (C := "RightsLimit$Requests") (T := fT_q) (N := 13) (n := 13) hG fi_q (hG _ wd_112)
  obtain ⟨c5, iS5, hKn5⟩ := u_known (C := "RightsLimitModel") (T := fT_m) (N := 33) (n := 33) hG fi_m (hG _ wd_478)
  obtain ⟨dC, dI, hKc⟩ : ∃ (dC : Nat → ClassId) (dI : Nat → Nat → Nat), ∀ (k : Nat) (q : vw_C), rl_cl[k]? = some q → u_Kn s q.1 q.2.1 q.2.2 (dC k) (dI k) := by
    refine ⟨fun k => match k with | 0 => c0 | 1 => c1 | 2 => c2 | 3 => c3 | 4 => c4 | _ => c5, fun k => match k with | 0 => iS0 | 1 => iS1 | 2 => iS2 | 3 => iS3 | 4 => iS4 | _ => iS5, ?_⟩
    intro k q hq
    match k, hq with
    | 0, hq => cases hq; exact hKn0
    | 1, hq => cases hq; exact hKn1
    | 2, hq => cases hq; exact hKn2
    | 3, hq => cases hq; exact hKn3
    | 4, hq => cases hq; exact hKn4
    | 5, hq => cases hq; exact hKn5
    | k + 6, hq => simp [rl_cl] at hq
  obtain ⟨kI, hI1, hI2⟩ := rl_arr (ty := .int) (fun _ h => by cases h) (hG _ wd_58)
  obtain ⟨kZ, hZ1, hZ2⟩ := rl_arr (ty := .boolean) (fun _ h => by cases h) (hG _ wd_59)
  obtain ⟨kL, hL1, hL2⟩ := rl_arr (ty := .long) (fun _ h => by cases h) (hG _ wd_685)
  have hK : va_K (dC, dI) rl_cl (rl_t3 kI kZ kL) s := by
    refine ⟨hKc, fun k q h => ?_⟩
    match k, h with
    | 0, h => cases h; exact ⟨hI1, hI2⟩
    | 1, h => cases h; exact ⟨hZ1, hZ2⟩
    | 2, h => cases h; exact ⟨hL1, hL2⟩
    | k + 3, h => simp at h
  obtain ⟨D, hDe⟩ : ∃ D : va_G, D = (dC, dI) := ⟨_, rfl⟩
  rw [← hDe] at hK
  have hK2 := hK.sub (tys' := rl_tys kI kZ) [0, 1] rfl
  have hZ := rl_Z0 hts hgv
  have hC : va_Nw (.castable rl_NSE rl_NSE) s := va_Nw.of rfl (hts _ (List.mem_of_getElem? (i := 400) rfl))
  have hNx : ∀ x ∈ rl_nw, va_Nw x s := by
    intro x hx
    simp only [rl_nw, List.mem_cons, List.not_mem_nil, or_false] at hx
    rcases hx with rfl | rfl | rfl | rfl | rfl | rfl
    · exact va_Nw.of rfl (hts _ (List.mem_of_getElem? (i := 34) rfl))
    · exact va_Nw.of rfl (hts _ (List.mem_of_getElem? (i := 62) rfl))
    · exact va_Nw.of rfl (hts _ (List.mem_of_getElem? (i := 87) rfl))
    · exact va_Nw.of rfl (hts _ (List.mem_of_getElem? (i := 113) rfl))
    · exact va_Nw.of rfl (hts _ (List.mem_of_getElem? (i := 276) rfl))
    · exact va_Nw.of rfl (hts _ (List.mem_of_getElem? (i := 294) rfl))
  have hS : va_S (fun q : Nat => s.heap.size ≤ q) s.heap s.heap [] := va_S.rf
  have hP : va_P D rl_cl [] s.heap := rl_P0
  have hD : va_D (fun q : Nat => s.heap.size ≤ q) [] := rl_D0
  have hl := lv_entry ([.ref b]) (n := 7) (Nat.le_of_ble_eq_true rfl)
  rw [lg_entry_eq]
  generalize (lg_sl ([.ref b]) ++ List.replicate (7 - (lg_sl ([.ref b])).length) Slot.unset).toArray = ls at hl ⊢
  have hl : lv_has ls 7 [(0, .ref b)] := hl
  refine va_new (ci := 0) (fs := [.null, .null, .null, .null, .null, .null, .int 0, .int 0]) (C := "RightsLimit") (T := fT_x) (N := 8) hx hb hG fi_x fy_x fo_x hown (hG _ wd_24) (hG _ wd_25) (hG _ wd_14) hK hP hD hS hA rfl (by decide +kernel) (Nat.le_of_ble_eq_true rfl) (Nat.le_of_ble_eq_true rfl) d_w_law_0 (fun h1 H hP hD hS => ?_)
  have hP : va_P D rl_cl ([(h1, .inr (0, [.null, .null, .null, .null, .null, .null, .int 0, .int 0]))] ++ []) H := hP
  have hD : va_D (fun q : Nat => s.heap.size ≤ q) ([(h1, .inr (0, [.null, .null, .null, .null, .null, .null, .int 0, .int 0]))] ++ []) := hD
  refine lv_dup hx hb d_w_law_3 rfl ?_
  refine rl_callv (w1 := [(h1, .inr (0, [.null, .null, .null, .null, .null, .null, .int 0, .int 0]))]) (w2 := []) hP hD hS hA (va_runI (As := []) (rest := [.ref h1]) ⟨hx, hb, hml, hown, hG⟩ (k_x_init l D h1 kI kZ _) (cwI 0 hG (rl_gI wd_28) rfl rfl rfl (hG _ wd_14) (hG _ wd_26) (hG _ wd_27) rfl (by decide +kernel) ⟨Nat.le_of_ble_eq_true rfl, Nat.le_of_ble_eq_true rfl⟩) (rl_B.pre rl_nw_ok (rl_P.l (w1 := [(h1, .inr (0, [.null, .null, .null, .null, .null, .null, .int 0, .int 0]))]) hP) hK2 (rl_D.l (w1 := [(h1, .inr (0, [.null, .null, .null, .null, .null, .null, .int 0, .int 0]))]) hD) hNx) rfl rfl hl.1 rfl (lv_room (Nat.le_of_ble_eq_true rfl)) d_w_law_4 ⟨Nat.le_of_ble_eq_true rfl, Nat.le_of_ble_eq_true rfl⟩) (fun a H locs hw hP hD hS => ?_)
  rw [← hw]
  have hP : va_P D rl_cl (rl_w a kI kZ rl_F0) H := by rw [List.append_nil] at hP; exact hP
  have hD : va_D (fun q : Nat => s.heap.size ≤ q) (rl_w a kI kZ rl_F0) := by rw [List.append_nil] at hD; exact hD
  refine lv_astore_n (lv' := [(1, .ref (a 0)), (0, .ref b)]) hx hb d_w_law_7 rfl hl (by decide) rfl (fun ls hl => ?_)
  refine va_new (ci := 5) (fs := [.int 0, .int 0, .int 0, .null, .null, .null, .null, .null, .null, .int 0, .null, .null, .null, .null, .int 0, .null, .null, .null, .null, .null, .int 0, .null, .null, .null, .null, .null, .null, .null, .null, .null, .null, .null, .int 0]) (C := "RightsLimitModel") (T := fT_m) (N := 33) hx hb hG fi_m fy_m fo_m hown (hG _ wd_477) (hG _ wd_478) (hG _ wd_19) hK hP hD hS hA rfl (by decide +kernel) (Nat.le_of_ble_eq_true rfl) (Nat.le_of_ble_eq_true rfl) d_w_law_8 (fun h2 H hP hD hS => ?_)
  have hP := rl_P.swap hP
  have hD := rl_D.swap hD
  refine lv_dup hx hb d_w_law_11 rfl ?_
  refine rl_callv (w1 := [(h2, .inr (5, [.int 0, .int 0, .int 0, .null, .null, .null, .null, .null, .null, .int 0, .null, .null, .null, .null, .int 0, .null, .null, .null, .null, .null, .int 0, .null, .null, .null, .null, .null, .null, .null, .null, .null, .null, .null, .int 0]))]) (w2 := rl_w a kI kZ rl_F0) hP hD hS hA (va_runI (As := []) (rest := [.ref h2]) ⟨hx, hb, hml, hown, hG⟩ (k_m_init l D h2 kI kZ _) (cwI 0 hG (rl_gI wd_481) rfl rfl rfl (hG _ wd_19) (hG _ wd_479) (hG _ wd_480) rfl (by decide +kernel) ⟨Nat.le_of_ble_eq_true rfl, Nat.le_of_ble_eq_true rfl⟩) (rl_B.pre rl_nw0 (rl_P.l (w1 := [(h2, .inr (5, [.int 0, .int 0, .int 0, .null, .null, .null, .null, .null, .null, .int 0, .null, .null, .null, .null, .int 0, .null, .null, .null, .null, .null, .int 0, .null, .null, .null, .null, .null, .null, .null, .null, .null, .null, .null, .int 0]))]) hP) hK2 (rl_D.l (w1 := [(h2, .inr (5, [.int 0, .int 0, .int 0, .null, .null, .null, .null, .null, .null, .int 0, .null, .null, .null, .null, .int 0, .null, .null, .null, .null, .null, .int 0, .null, .null, .null, .null, .null, .null, .null, .null, .null, .null, .null, .int 0]))]) hD) rl_N0) rfl rfl hl.1 rfl (lv_room (Nat.le_of_ble_eq_true rfl)) d_w_law_12 ⟨Nat.le_of_ble_eq_true rfl, Nat.le_of_ble_eq_true rfl⟩) (fun a2 H locs hw hP hD hS => ?_)
  rw [← hw]
  refine lv_astore_n (lv' := [(2, .ref (a2 0)), (1, .ref (a 0)), (0, .ref b)]) hx hb d_w_law_15 rfl hl (by decide) rfl (fun ls hl => ?_)
  refine lv_iconst (v := 1) hx hb d_w_law_16 (by decide) ?_
  refine rl_newa (atype := .long) (ty := .long) (N' := 1) (a0 := (1, .inr (.inl (fun _ => 0)))) hx hb (hG _ wd_685) rfl (fun _ h9 => by cases h9) 2 rfl hK hP hD hS hA (fun _ => rfl) (by decide) (by decide) (by decide) (Nat.le_of_ble_eq_true rfl) (Nat.le_of_ble_eq_true rfl) d_w_law_17 (fun q H hP hD hS => ?_)
  have hP : va_P D rl_cl ((rl_w a kI kZ rl_F0 ++ rl_O kL q (fun _ => 0)) ++ rm_w a2 kI kZ rm_F0) H := by rw [List.append_assoc] at hP; exact rl_P.swap hP
  have hD : va_D (fun q : Nat => s.heap.size ≤ q) ((rl_w a kI kZ rl_F0 ++ rl_O kL q (fun _ => 0)) ++ rm_w a2 kI kZ rm_F0) := by rw [List.append_assoc] at hD; exact rl_D.swap hD
  refine lv_astore_n (lv' := [(3, .ref q), (2, .ref (a2 0)), (1, .ref (a 0)), (0, .ref b)]) hx hb d_w_law_19 rfl hl (by decide) rfl (fun ls hl => ?_)
  refine lv_iconst (v := 0) hx hb d_w_law_20 (by decide) ?_
  refine lv_istore (lv' := [(4, .int 0), (3, .ref q), (2, .ref (a2 0)), (1, .ref (a 0)), (0, .ref b)]) hx hb d_w_law_21 hl (by decide) rfl (fun ls hl => ?_)
  have hI0 : rl_I rl_F0 := ⟨by decide, fun i => by show 0 ≤ (0 : Int32).toInt ∧ (0 : Int32).toInt < 100; decide⟩
  have hJ0 : rm_I rm_F0 := ⟨by decide, fun i => by show 0 ≤ (0 : Int32).toInt ∧ (0 : Int32).toInt < 100; decide, fun i => by show 0 ≤ (0 : Int32).toInt ∧ (0 : Int32).toInt < 10; decide⟩
  refine W.widen (k := 60) (n := 9971) (Nat.le_of_ble_eq_true rfl) (Nat.le_of_ble_eq_true rfl) ?_
  exact law_loop ⟨hx, hb, hr, hml, hown, hG, hlocks, hX, hbl, hK, hZ, hC, hNx, hlt, hL⟩ (L + 1) 0 60 9971 (by decide) (by simp only [rl_n0]; omega) (by simp only [rl_n0]; omega) (by simp only [rl_n0]; omega) (by simp only [rl_n0]; omega) rl_F0 rm_F0 (fun _ => 0) _ _ _ ⟨hI0, hJ0, ⟨by decide, by decide, by decide⟩, hP, hD, hS, hl⟩
set_option maxHeartbeats 4000000 in
theorem lw_walk (l : Launch) (hlt : l.stackTraces = false) (b : Addr) (xs : List Int32) : MetFree l x (headSpec (Jvm.Cond.code x code maxLocals ret :: tables_1) room_1) (lw_P b xs) (fun _ _ _ _ _ => True) lw_Q := by
  refine MetFree.of_bodyS (code := code) (maxLocals := maxLocals) (ret := ret) (by decide) ?_ ?_
  · intro args s m h hn
    obtain ⟨meth, c, h1, h2, h3, h4, h5, h6, -, -⟩ := Cond.code_spec hn (atoms_spec (ws := Jvm.Cond.code x code maxLocals ret :: tables_1) h _ List.mem_cons_self)
    exact ⟨meth, c, h1, h2, h3, h4, h5, h6⟩
  · intro p e s m args below meth c s₁ B hml0 hP _
    obtain ⟨rfl, hx, hbd, hgv⟩ := hP
    obtain ⟨scr, harrAt, hlist, hof, hsmall⟩ := hx
    obtain ⟨hcb, hkn, -, -⟩ := State.arrayAt?_spec harrAt
    have hown : s.vm.findClass R_law = some m.cls := findClass_of_methodNamed B.named
    have hts0 : ∀ c ∈ (Jvm.Cond.code x code maxLocals ret :: tables_1), c.before #[Value.ref b] s = true := atoms_spec (ws := Jvm.Cond.code x code maxLocals ret :: tables_1) B.pre
    have hts : ∀ w ∈ lw_tbl, w.before #[Value.ref b] s = true := k2_hts_sels lw_privs (fun w hw => hts0 w (List.mem_cons_of_mem _ hw)) lw_privs_ok
    have hml : c.maxLocals = 7 := B.maxLocals_eq (hts0 _ List.mem_cons_self)
    have X₀ : Stand p l e room_1 s m #[Value.ref b] below meth c s₁ [] 0 0 := Stand.of_body B
    have hh0 : s₁.heap = s.heap := by rw [B.state]; rfl
    have hsz : scr.slots.size = xs.length := by rw [← Array.length_toList, hlist, List.length_map]
    have hval : ∀ j : Nat, j < xs.length → scr.slots[j]? = some (.int (xs.getD j 0)) := fun j hj => by
      rw [← Array.getElem?_toList, hlist]
      simp [hj]
    have hbl : b < s.heap.size := (Array.getElem?_eq_some_iff.mp hcb).1
    have hX : va_X b xs.length (fun j => xs.getD j 0) s s.heap := ⟨scr, hcb, hof, hkn, hsz, hval⟩
    have K : W p l e room_1 s m #[Value.ref b] below meth c s₁.heap [] 0 0 (lw_Z below #[Value.ref b] s) (entryFrame m ([Value.ref b] : List Value).toArray 7) := by
      rw [hh0]
      exact whole_start l hlt hbd ⟨B.exec, B.bytes, B.returns, hml, hown, hts, hX, hbl, B.notSynchronized, hgv⟩
    obtain ⟨t, a1, o, b1, b2, b3⟩ := K s₁ rfl X₀
    exact ⟨t, o, a1, b1, b2, b3⟩
theorem lw_pre_spec {args : Array Value} {s : State} (h : (Jvm.Cond.and given_1 narrow_1).before args s = true) (hr : rest_1_c.before args s = true) : ∃ (b : Addr) (xs : List Int32), lw_P b xs args s := by
  have hs := flat_of_before _ h
  have hq := flat_of_before _ hr
  have hc : (Cond.count 1).before args s = true := hs _ (by decide +kernel)
  have harr : (Cond.arrayOf (.arg 0) .int).before args s = true := hs _ (by decide +kernel)
  have hle : (Cond.le (.length (.arg 0)) (.int 3072)).before args s = true := hs _ (by decide +kernel)
  have hlen : (Cond.isInt (.length (.arg 0))).before args s = true := hq _ (by decide +kernel)
  have hall : (Cond.all (.arg 0) (.isInt (.elem (.arg 0) (.index 0)))).before args s = true := hq _ (by decide +kernel)
  obtain ⟨b, xs, hb, hx⟩ := State.ints_of_pre rfl harr hlen hall
  have hsm : xs.length < 2 ^ 31 := hx.choose_spec.2.2.2
  have hev : (Term.length (.arg 0)).eval args s none [] s = some (.int xs.length.toInt32) := hx.length_eval hb
  have hv := Cond.le_ints hev (show (Term.int 3072).eval args s none [] s = some (.int 3072) from rfl)
  have hd : xs.length.toInt32 ≤ 3072 := by
    simpa [Cond.before, Cond.holds, hv] using hle
  have hN : xs.length ≤ 3072 := (Int32.ofNat_le_ofNat hsm (by decide)).mp (show Int32.ofNat xs.length ≤ Int32.ofNat 3072 from hd)
  exact ⟨b, xs, Cond.one_arg hc (show args[0]? = some (.ref b) from hb), hx, hN, h⟩
theorem lw_comes (l : Launch) (hlt : l.stackTraces = false) : Comes l x (Jvm.Cond.code x code maxLocals ret :: tables_1) room_1 (fun tb e args s => Calls_1 tb e args s ∧ rest_1 tb e args s ∧ Pre_1 tb e args s)
    (fun _ _ args s o t => lw_Q args s o t) := by
  intro p e ha hc hk s m args below hf hfit hheap happ hpre
  obtain ⟨b, xs, hP⟩ := lw_pre_spec hpre.2.2 hpre.2.1
  obtain ⟨k, o, h1, h2, h3, hQ⟩ := lw_walk l hlt b xs p e ha hc hk s m args below hf ((Spec.applies_iff_loose hf).mp happ).1 hP trivial
  exact ⟨k, o, h1, h2, h3, hQ⟩
theorem lw_frame {s t : State} {o : Outcome} {args : Array Value} (h : Framed s o t [] 1087 18181) :
    Framed s o t (fieldLocs frame_1_writes args s ++ arrayLocs frame_1_arrays args s ++ staticLocs frame_1_statics s) 1087 18181 := h
theorem lw_limb (L : Cond) (hL : ∀ (args : Array Value) (s t : State), L.after args s (.returned (some (.int 1))) t = true) :
    ArmFor flags0 classFile x code maxLocals ret World_1 tables_1 room_1 Calls_1 rest_1 Pre_1
      (fun tb e a s o t => postC L tb e a s o t ∧ Framed s o t (fieldLocs frame_1_writes a s ++ arrayLocs frame_1_arrays a s ++ staticLocs frame_1_statics s) 1087 18181) := by
  intro l hfl _ _ p e ha hc hk s m args below hf hfit hheap happ hpre
  obtain ⟨k, o, h1, h2, h3, rfl, hF⟩ := lw_comes l (by rw [Launch.stackTraces, hfl]; decide) p e ha hc hk s m args below hf hfit hheap happ hpre
  exact ⟨k, _, h1, h2, h3, hL args s _, lw_frame hF⟩
theorem i_vc : Claimed_1_1 ∧ Claimed_1_2 := ⟨lw_limb limb_1_1 (fun args s t => by simp [limb_1_1, Cond.after, Cond.holds, Cond.value]), lw_limb limb_1_2 (fun args s t => Cond.after_iff.mpr (by
  first | (rw [show limb_1_2 = Cond.eq .result (.int 1) from rfl, Cond.eq_ints (x := 1) (y := 1) rfl rfl]; simp; done) | (simp [limb_1_2, Cond.value, Term.eval]; done)))⟩
