/-! NoSuchElementException(String), no traces kept: the constructor's chain, then athrow -/
def rl_NSE : String := "java/util/NoSuchElementException"
def rl_RTE : String := "java/lang/RuntimeException"
def rl_EXC : String := "java/lang/Exception"
def rl_nse : ByteArray := ⟨#[0x2a, 0x2b, 0xb7, 0x00, 0x0d, 0xb1]⟩
def rl_atoms (own : String) (ic : Nat) : List Cond :=
  Bundle.throwableAtoms ++ Bundle.throwableSAtoms ++ (Bundle.passSAtoms rl_NSE rl_RTE 13 rl_nse ++ Bundle.chainSAtoms rl_RTE [rl_EXC]) ++
  [.methodLink own ic (Bundle.initS rl_NSE), .instantiable rl_NSE 6, .selects rl_NSE Bundle.tFill0 Bundle.tFill0, .selects rl_NSE Bundle.tFill Bundle.tFill,
   .lays rl_NSE Bundle.tN "cause" "Ljava/lang/Throwable;", .lays rl_NSE Bundle.tN "stackTrace" Bundle.steD, .lays rl_NSE Bundle.tN "suppressedExceptions" Bundle.listD, .lays rl_NSE Bundle.tN "detailMessage" "Ljava/lang/String;",
   .isRef (.static Bundle.tN "UNASSIGNED_STACK" Bundle.steD), .isRef (.static Bundle.tN "SUPPRESSED_SENTINEL" Bundle.listD),
   .fieldLink Bundle.tN 198 Bundle.tN "backtrace" "Ljava/lang/Object;", .lays Bundle.tN Bundle.tN "backtrace" "Ljava/lang/Object;", .lays rl_NSE Bundle.tN "backtrace" "Ljava/lang/Object;"]
section RLX
variable {p : Program} {l : Launch} {e : Env} {R : Room} {s : State} {m : MethodId} {args : Array Value} {below : List Frame} {meth : Method} {c : Code} {V : State} {cells slots : Nat}
set_option maxHeartbeats 4000000 in
theorem rl_ctorThrow (X : Stand p l e R s m args below meth c V [] cells slots) (hexec : p.tables.exec = Jvm.exec) (htr : e.platform.stackTraces = false) {own : String} {ic : Nat} (hown : s.vm.findClass own = some m.cls)
    (h : ∀ a ∈ rl_atoms own ic, a.before args s = true) {a : Addr} {cX : ClassId} {kX : Class} (hfX : s.vm.findClass rl_NSE = some cX) (hkX : s.vm.classes[cX]? = some kX) (hcell : V.heap[a]? = some (freshCell cX kX)) (hnew : s.heap.size ≤ a) {msg : Value} (hmsg : msg.isRef = true)
    {g : JFrame} (hg : g.method = m) (hsize : g.locals.size = c.maxLocals) (hlocked : g.locked = none) (hentered : g.entered = []) {rest : List Value} (hstack : g.stack = msg :: .ref a :: .ref a :: rest)
    (hd6 : decode c.code g.pc = .ok (.invokespecial ic, 3)) (hd9 : decode c.code (g.pc + 3) = .ok (.athrow, 1)) (hout : ∀ x ∈ c.exceptionTable.toList, covers x (g.pc + 3) = false)
    (hRf : 5 < R.frames) (hRl : 2 * g.monitorRoom + ((Value.ref a :: rest).map fun v => v.category).sum + 81 ≤ R.locals) (hlocks : meth.locks = false) :
    ∃ U : State, Steps p.tables e below (V.setTop g) U ∧ U.status = .running ∧ Ended U below (.threw a) ∧ s.WarmedH U.vm ∧ s.sameButNew ({ U with vm := s.vm } : State) [] cells slots ∧ ∃ ce, U.heap[a]? = some ce ∧ ce.vm = .none ∧ ce.cls = cX := by
  have howns : e.platform.frameOwnsMonitors = true := by rw [X.admits.platform]
  have hfin : e.platform.finalization = false := by rw [X.admits.platform]
  have hpl : e.platform.magicAccessors = ({} : Platform).magicAccessors := by rw [X.admits.platform]
  have a' : ∀ x, x ∈ rl_atoms own ic → x.holds args s none s [] = true := fun x hx => h x hx
  obtain ⟨T, Z0, L, -, Y⟩ := ThrowableC.of_atoms (args := args) howns hfin hpl (fun x hx => h x (by simp [rl_atoms, hx]))
  obtain ⟨Z, M, LZ, LM, hnZ⟩ := Init0T.ofS_atoms (args := args) hpl L Y (fun x hx => h x (by simp [rl_atoms, hx]))
  obtain ⟨P1, L1, hP1m, hs1⟩ := PassC.ofS_atoms (args := args) (s := s) hpl (X := rl_NSE) (Y := rl_RTE) (index := 13) (bytes := rl_nse) (by decide) (by decide) (by decide +kernel) (by decide +kernel) (by decide +kernel) (by decide +kernel) (fun x hx => h x (by simp [rl_atoms, hx]))
  obtain ⟨P2, Ps, hlen, L2, hL, hm2, hlink2, hlink⟩ := Bundle.chainS (args := args) hpl hnZ [rl_EXC] rl_RTE (by decide) (by decide) (fun x hx => h x (by simp [rl_atoms, hx]))
  have hlink1 : P1.sup = firstOf (Z.m T.toThrowableT) ((P2 :: Ps).map (·.toPassT)) := Option.some.inj (hs1.symm.trans hm2)
  have hfound : s.vm.findClass rl_NSE = some P1.m.cls := findClass_of_methodNamed hP1m
  cases Option.some.inj (hfX.symm.trans hfound)
  obtain ⟨c1, kX', hc1, hk, hord, -, -, hn6⟩ := Cond.instantiable_spec (a' (.instantiable rl_NSE 6) (by simp [rl_atoms]))
  cases Option.some.inj (hc1.symm.trans hfound)
  cases Option.some.inj (hkX.symm.trans hk)
  have hsel0 : selectMethod e.platform s.vm P1.m.cls T.fill0 = .method T.fill0 := by
    obtain ⟨c2, r2, m2, q1, q2, q3, q4, -⟩ := Cond.selects_spec (a' (.selects rl_NSE Bundle.tFill0 Bundle.tFill0) (by simp [rl_atoms]))
    cases Option.some.inj (q1.symm.trans hfound)
    cases Option.some.inj (q2.symm.trans (State.methodFound?_of_named Y.fill0 (by decide)))
    cases Option.some.inj (q3.symm.trans Y.fill0)
    rw [Launch.admits_selectMethod X.admits]; exact q4
  have hselF : selectMethod e.platform s.vm P1.m.cls T.fill = .method T.fill := by
    obtain ⟨c2, r2, m2, q1, q2, q3, q4, -⟩ := Cond.selects_spec (a' (.selects rl_NSE Bundle.tFill Bundle.tFill) (by simp [rl_atoms]))
    cases Option.some.inj (q1.symm.trans hfound)
    cases Option.some.inj (q2.symm.trans (State.methodFound?_of_named Y.fill (by decide)))
    cases Option.some.inj (q3.symm.trans Y.fill)
    rw [Launch.admits_selectMethod X.admits]; exact q4
  obtain ⟨cellS0, hcS0, hiss⟩ := Y.statics
  obtain ⟨u0, hu0⟩ := Cond.staticRefV Y.unassigned L.unassignedStatic L.statics hcS0 hiss (a' (.isRef (.static Bundle.tN "UNASSIGNED_STACK" Bundle.steD)) (by simp [rl_atoms]))
  obtain ⟨sen, hsen⟩ := Cond.staticRefV Y.sentinel L.sentinelStatic L.statics hcS0 hiss (a' (.isRef (.static Bundle.tN "SUPPRESSED_SENTINEL" Bundle.listD)) (by simp [rl_atoms]))
  obtain ⟨ci198, i198, fB, hk198, hg198, ha198, hsB, -, hnB, htB, hffB⟩ := Cond.ownField (t := .object "java/lang/Object") Y.found L.cls (by decide +kernel) (a' (.fieldLink Bundle.tN 198 Bundle.tN "backtrace" "Ljava/lang/Object;") (by simp [rl_atoms])) (a' (.lays Bundle.tN Bundle.tN "backtrace" "Ljava/lang/Object;") (by simp [rl_atoms])) e.platform hpl
  obtain ⟨cellS, hcS', heS, -, hkeep⟩ := X.same.2.2.2.2.2 T.aS cellS0 hcS0
  have hcellS : V.heap[T.aS]? = some cellS := hcS'
  have hknownS : cellS.vm ≠ .unknown := by
    rw [heS]; intro hu
    rw [show cellS0.vm = .unknown from hu] at hiss
    cases hiss
  have hneS : T.aS ≠ a := Nat.ne_of_lt (Nat.lt_of_lt_of_le (Array.getElem?_eq_some_iff.mp hcS0).1 hnew)
  obtain ⟨iM, hffM⟩ := Y.msg
  obtain ⟨tyC, dC, hdC, hdnC⟩ := Cond.laysAt hfound hk Y.cause (a' (.lays rl_NSE Bundle.tN "cause" "Ljava/lang/Throwable;") (by simp [rl_atoms]))
  obtain ⟨tyS, dS, hdS, hdnS⟩ := Cond.laysAt hfound hk Y.stack (a' (.lays rl_NSE Bundle.tN "stackTrace" Bundle.steD) (by simp [rl_atoms]))
  obtain ⟨tyP, dP, hdP, hdnP⟩ := Cond.laysAt hfound hk Y.supp (a' (.lays rl_NSE Bundle.tN "suppressedExceptions" Bundle.listD) (by simp [rl_atoms]))
  obtain ⟨tyM, dM, hdM, hdnM⟩ := Cond.laysAt hfound hk hffM (a' (.lays rl_NSE Bundle.tN "detailMessage" "Ljava/lang/String;") (by simp [rl_atoms]))
  obtain ⟨tyB, dB, hdB, hdnB⟩ := Cond.laysAt hfound hk hffB (a' (.lays rl_NSE Bundle.tN "backtrace" "Ljava/lang/Object;") (by simp [rl_atoms]))
  have bC := Cond.laysApart hdB hdC hdnB hdnC (by rw [hnB, Y.causeName]; decide)
  have bS := Cond.laysApart hdB hdS hdnB hdnS (by rw [hnB, Y.stackName]; decide)
  have bP := Cond.laysApart hdB hdP hdnB hdnP (by rw [hnB, Y.suppName]; decide)
  have hskip : SkipFacts T e.platform s (fun u => u) u0 ((preparedCellV T.toThrowableT (freshCell P1.m.cls kX) a u0 sen).withEntry V.cur) :=
    ⟨{ ci198 := ci198, i198 := i198, fBack := fB }, ⟨hk198, hg198, ha198, hsB⟩, by
      have h9 := fresh_default (c := P1.m.cls) tyB
      rw [htB] at h9
      simpa [preparedCellV, Cell.setSlot, Cell.withEntry, Array.getElem?_setIfInBounds, bC, bS, bP, bC.symm, bS.symm, bP.symm, defaultValue] using h9, fun _ _ => rfl⟩
  obtain ⟨tm, methC, cdC, kC, vm₁, hnC, -, -, -, -, -, -, -, hW₁, st1⟩ := Steps.initColdS (tb := p.tables) (e := e) (below := below) (s := s) (U := V) X.here hexec X.warmed hpl hown (t := Bundle.initS rl_NSE) rfl rfl (by decide)
    (a' (.methodLink own ic (Bundle.initS rl_NSE)) (by simp [rl_atoms])) (h (.instanceMethod (Bundle.initS rl_NSE)) (by simp [rl_atoms, Bundle.passSAtoms])) (bytes := rl_nse) (maxL := 2) (h (.code (Bundle.initS rl_NSE) rl_nse 2 none) (by simp [rl_atoms, Bundle.passSAtoms]))
    (f := g) hg (a := a) (msg := msg) (rest := .ref a :: rest) hstack hd6
  cases Option.some.inj (hnC.symm.trans hP1m)
  have X₁ := X.noted hW₁
  obtain ⟨vm₂, X₂, st2⟩ := X₁.ctorMessageOffV hexec (g := { g with stack := .ref a :: rest }) hg hsize T L Z LZ M LM (P1 :: P2 :: Ps)
    (fun P hP => by
      rcases List.mem_cons.mp hP with rfl | hP
      · exact L1
      · rcases List.mem_cons.mp hP with rfl | hP
        · exact L2
        · exact hL P hP) ⟨hlink1, hlink2, hlink⟩ (u0 := u0) (sen := sen) (self := a) hmsg (cell := freshCell P1.m.cls kX) (cellS := cellS)
    hcell (fun _ => by simp) (by simp) rfl rfl hsel0 hselF hcellS hneS hknownS (by rw [hkeep _ (by simp)]; exact hu0) (by rw [hkeep _ (by simp)]; exact hsen)
    (Takes.of_laid hk hord tyC (by rw [Y.causeType]; rfl)) (Takes.of_laid hk hord tyS (by rw [Y.stackType]; exact fits_refV_array _ u0)) (Takes.of_laid hk hord tyP (by rw [Y.suppType]; exact fits_refV_object _ sen))
    (Takes.of_laid hk hord tyM (by rw [Y.msgType]; exact fits_refV_object _ ⟨msg, hmsg⟩)) Y.objLocals hskip htr [] hd6
    (by simp only [List.length_cons, List.length_nil] at hlen ⊢; omega) (by simp only [List.length_cons, List.length_nil] at hlen ⊢; rw [hlen]; exact hRl)
  obtain ⟨hwalk, hrun, hended, hWU, hsame⟩ := X₂.athrowLeaves hexec (g := { g with stack := .ref a :: rest, pc := g.pc + 3 }) hg hlocked hentered hout (a := a) (rest := rest) rfl hd9 hlocks
  have hlt : a < ((V.setVm vm₁).setVm vm₂).heap.size := (Array.getElem?_eq_some_iff.mp hcell).1
  have hU := heapAt_setCell_self (s := (V.setVm vm₁).setVm vm₂) (plainBareV T.toThrowableT (freshCell P1.m.cls kX) a u0 sen msg) hlt
  refine ⟨_, st1 _ (fun acts => ?_), hrun, hended, hWU, hsame.weaken (fun y hy hlt' => ?_) (Nat.le_refl _) (Nat.le_refl _), _, hU, rfl, rfl⟩
  · rw [doInvoke_state]
    exact st2 _ hwalk
  · rcases List.mem_append.mp hy with h1 | h1
    · exact h1
    · exfalso
      have hb : y.base = a := by
        simp only [List.mem_cons, List.not_mem_nil, or_false] at h1
        rcases h1 with rfl | rfl | rfl | rfl | rfl <;> rfl
      rw [hb] at hlt'
      exact Nat.not_lt.mpr hnew hlt'
end RLX
/-! A throw that leaves a method, and its catching by the caller -/
/-- the words of a throw that speak of the heap: where two statics of Throwable lie and that they hold references -/
def rl_Zw : List Cond := [.isRef (.static Bundle.tN "UNASSIGNED_STACK" Bundle.steD), .isRef (.static Bundle.tN "SUPPRESSED_SENTINEL" Bundle.listD), .laysStatic Bundle.tN "UNASSIGNED_STACK" Bundle.steD, .laysStatic Bundle.tN "SUPPRESSED_SENTINEL" Bundle.listD]
/-- the texts; what else is no good word -/
def rl_Zs : List (Nat × String) := [(133, "no such request"), (168, "a request has nothing such"), (190, "no such copy")]
def rl_Zd : List Cond := [.declares (Bundle.initS rl_RTE), .declares (Bundle.initS rl_EXC), .declares (Bundle.initS Bundle.tN)]
def rl_Z (U : State) : Prop := (∀ w ∈ rl_Zw, ∀ a : Array Value, w.before a U = true) ∧ (∀ (k : Nat) (tx : String), (k, tx) ∈ rl_Zs → ∃ b, vk_R "RightsLimit" k tx b U) ∧ ∀ w ∈ rl_Zd, va_Nw w U
/-- one static, its cell old -/
theorem rl_Z1 {C n d : String} {s U : State} {a a' : Array Value} (hvm : s.vm.Alike U.vm) (hh : ∀ (q : Nat) (cell : Cell), s.heap[q]? = some cell → U.heap[q]? = some cell) (hl : (Cond.laysStatic C n d).before a s = true) (hr : (Cond.isRef (.static C n d)).before a s = true) :
    (Cond.laysStatic C n d).before a' U = true ∧ (Cond.isRef (.static C n d)).before a' U = true := by
  obtain ⟨c, k, i, f, x, cell, h1, h2, h3, h4, h5, h6, h7, h8, h9⟩ := Cond.laysStatic_spec hl
  obtain ⟨k', hi', he⟩ := State.fieldFound?_setVm hvm h2
  have h5' : U.heap[x]? = some cell := hh _ _ h5
  have h1' : U.vm.findClass C = some c := by rw [hvm.findClass]; exact h1
  have h4' : k'.statics = some x := by rw [he]; exact h4
  have h9' : k'.staticTypes[f.slot]? = some f.type := by rw [he]; exact h9
  have hi2 : U.fieldFound? C n d = some (c, k', i, f) := hi'
  obtain ⟨v, hv⟩ : ∃ v, cell.slots[f.slot]? = some v := ⟨_, Array.getElem?_eq_getElem h8⟩
  have e0 : (Term.static C n d).eval a s none [] s = some v := by
    simp [Term.eval, State.fieldNamed?, h2, h3, h4, h5, h6, h7, hv]
  have e1 : (Term.static C n d).eval a' U none [] U = some v := by
    simp [Term.eval, State.fieldNamed?, hi2, h3, h4', h5', h6, h7, hv]
  refine ⟨Cond.laysStatic_of h1' hi2 h3 h4' h5' h6 h7 h8 h9', ?_⟩
  simp only [Cond.before, Cond.holds, Cond.value, e0] at hr
  simp only [Cond.before, Cond.holds, Cond.value, e1]
  exact hr
theorem rl_Zw.moved {s U : State} (hvm : s.vm.Alike U.vm) (hh : ∀ (q : Nat) (cell : Cell), s.heap[q]? = some cell → U.heap[q]? = some cell) (h : ∀ w ∈ rl_Zw, ∀ a : Array Value, w.before a s = true) : ∀ w ∈ rl_Zw, ∀ a : Array Value, w.before a U = true := by
  intro w hw a
  have q1 := rl_Z1 (C := Bundle.tN) (n := "UNASSIGNED_STACK") (d := Bundle.steD) (a := a) (a' := a) hvm hh (h _ (by simp [rl_Zw]) a) (h _ (by simp [rl_Zw]) a)
  have q2 := rl_Z1 (C := Bundle.tN) (n := "SUPPRESSED_SENTINEL") (d := Bundle.listD) (a := a) (a' := a) hvm hh (h _ (by simp [rl_Zw]) a) (h _ (by simp [rl_Zw]) a)
  simp only [rl_Zw, List.mem_cons, List.not_mem_nil, or_false] at hw
  rcases hw with rfl | rfl | rfl | rfl
  · exact q1.2
  · exact q2.2
  · exact q1.1
  · exact q2.1
theorem rl_Z.warm {s U : State} (hW : s.WarmedH U.vm) (hh : ∀ (q : Nat) (cell : Cell), s.heap[q]? = some cell → U.heap[q]? = some cell) (h : rl_Z s) : rl_Z U := by
  refine ⟨rl_Zw.moved hW.alike hh h.1, fun k tx hk => ?_, fun w hw => ?_⟩
  · obtain ⟨b, hb⟩ := h.2.1 k tx hk
    exact ⟨b, vk_R.warm hW hb⟩
  · have h9 := h.2.2 w hw
    simp only [rl_Zd, List.mem_cons, List.not_mem_nil, or_false] at hw
    rcases hw with rfl | rfl | rfl <;> exact va_Nw.warmD hW h9
theorem rl_Z.calling {U : State} {g : JFrame} {mk : MethodId} {a : Array Value} (h : rl_Z U) : rl_Z (U.calling g mk a) := by
  refine ⟨rl_Zw.moved (s := U) (Vm.Alike.refl U.vm) (fun _ _ h => h) h.1, fun k tx hk => ?_, fun w hw => ?_⟩
  · obtain ⟨b, hb⟩ := h.2.1 k tx hk
    exact ⟨b, vk_R.same (u := U) rfl hb⟩
  · have h9 := h.2.2 w hw
    simp only [rl_Zd, List.mem_cons, List.not_mem_nil, or_false] at hw
    rcases hw with rfl | rfl | rfl <;> exact va_Nw.same (u := U) rfl rfl h9
theorem rl_str {s : State} {args : Array Value} {k : Nat} {tx : String} (hZ : rl_Z s) (h : (k, tx) ∈ rl_Zs) : (Cond.stringRef "RightsLimit" k tx).before args s = true := by
  obtain ⟨b, hb⟩ := hZ.2.1 k tx h
  first | exact va_tabs rfl rfl hb.1 | exact hb.1
/-- what a method that answers an int or throws E leaves -/
def rl_Tq (E : String) (post : Int32 → Prop) (mc ms : Nat) : Array Value → State → Outcome → State → Prop := fun _ st o t =>
  st.WarmedH t.vm ∧ st.sameButNew ({ t with vm := st.vm } : State) [] mc ms ∧
  ((∃ r : Int32, o = .returned (some (.int r)) ∧ post r) ∨ ∃ (q : Addr) (ce : Cell), o = .threw q ∧ t.heap[q]? = some ce ∧ ce.vm = .none ∧ st.vm.findClass E = some ce.cls)
def rl_Mt (l : Launch) (y : MethodName) (ws : List Cond) (rm : Room) (Pc : Array Value → State → Prop) (E : String) (post : Int32 → Prop) (mc ms : Nat) : Prop :=
  MetFree l y (headSpec ws rm) Pc (fun _ _ _ _ _ => True) (rl_Tq E post mc ms)
def rl_TZ (below : List Frame) (E : String) (post : Int32 → Prop) (a : Array Value) (s : State) (mc ms : Nat) : State → Prop := fun t =>
  ∃ o, t.status = .running ∧ Ended t below o ∧ rl_Tq E post mc ms a s o t
theorem rl_nil {H0 H : Heap} {locs : List Loc} (h : va_S (fun _ => False) H0 H locs) : locs = [] := by
  cases locs with
  | nil => rfl
  | cons q t => exact (h.2.2 q List.mem_cons_self).elim
def rl_BT (D : va_G) (cl : List vw_C) (tys : List (ClassId × FieldType)) (nw : List Cond) (w : va_W) (H0 : Heap) (U : State) : Prop := rl_BR D cl tys nw w H0 U ∧ rl_Z U
theorem rl_BT.pre {D : va_G} {cl : List vw_C} {tys : List (ClassId × FieldType)} {nw : List Cond} {w : va_W} {s : State} {H : Heap} {av : List Value} (hnw : ∀ x ∈ nw, rl_nest x) (hP : va_P D cl w H) (hK : va_K D cl tys s) (hN : ∀ x ∈ nw, va_Nw x s) (hZ : ∀ U : State, U.heap = H → s.WarmedH U.vm → rl_Z U) : PreS s H (va_Pc av (rl_BT D cl tys nw w H)) av := by
  have h := rl_BR.pre (av := av) hnw hP hK hN
  refine ⟨fun a U g mk q => ?_, fun U hU hW => ⟨rfl, (h.2 U hU hW).2, hZ U hU hW⟩⟩
  obtain ⟨q0, q1, q2⟩ := q
  exact ⟨q0, (h.1 a U g mk ⟨q0, q1⟩).2, rl_Z.calling q2⟩
section RLT
variable {p : Program} {l : Launch} {e : Env} {R : Room} {s : State} {m : MethodId} {args : Array Value} {below : List Frame} {meth : Method} {c : Code} {H : Heap} {locs : List Loc} {cells slots : Nat} {Q : State → Prop}
variable {cc : ByteArray} {pc : Nat} {ls : Array Slot} {E : String} {post : Int32 → Prop} {mc ms : Nat}
/-- the road that returns -/
theorem rl_tret {g : JFrame} (k : W p l e R s m args below meth c s.heap locs 0 0 (MQ below (va_Qi (S := Unit) (fun r _ => post r) (fun _ t => t.heap = s.heap) (fun _ => False)) args s 0 0 (fun _ => False)) g) : W p l e R s m args below meth c s.heap locs 0 0 (rl_TZ below E post args s mc ms) g := by
  intro T hT X
  obtain ⟨t, a1, o, b1, b2, ⟨⟨r, u, hr, hp, -⟩, -⟩, L, ⟨-, hW, hs⟩, hL⟩ := k T hT X
  have e0 : L = [] := by
    cases L with
    | nil => rfl
    | cons q t => exact (hL q List.mem_cons_self).elim
  subst e0
  exact ⟨t, a1, o, b1, b2, hW, hs.mono (Nat.zero_le _) (Nat.zero_le _), Or.inl ⟨r, hr, hp⟩⟩
/-- 'throw new NoSuchElementException("text")': new; dup; ldc; invokespecial; athrow -/
theorem rl_throw (hexec : p.tables.exec = Jvm.exec) (hb : c.code = cc) (hl : l.stackTraces = false) {own text : String} {ik is ic : Nat}
    (hown : s.vm.findClass own = some m.cls) (hk : (Cond.classLink own ik rl_NSE).before args s = true) (hini : (Cond.initialized rl_NSE).before args s = true) (hstr : (Cond.stringRef own is text).before args s = true) (h : ∀ w ∈ rl_atoms own ic, w.before args s = true)
    (hS : va_S (fun _ => False) s.heap s.heap locs) (hsize : ls.size = c.maxLocals)
    (d0 : decode cc pc = .ok (.new ik, 3)) (d3 : decode cc (pc + 3) = .ok (.dup, 1)) (d4 : decode cc (pc + 4) = .ok (.ldc is, 2)) (d6 : decode cc (pc + 6) = .ok (.invokespecial ic, 3)) (d9 : decode cc (pc + 9) = .ok (.athrow, 1))
    (hout : ∀ x ∈ c.exceptionTable.toList, False) (hRf : 5 < R.frames) (hRl : 82 ≤ R.locals) (hRc : 1 ≤ R.cells) (hRs : 6 ≤ R.slots) (hlocks : meth.locks = false) :
    W p l e R s m args below meth c s.heap locs 0 0 (rl_TZ below rl_NSE post args s 1 6) (F0 m pc ls []) := by
  intro T hT X
  have e0 := rl_nil hS
  subst e0
  have htr : e.platform.stackTraces = false := (show e.platform.stackTraces = l.stackTraces by rw [X.admits.platform]).trans hl
  have hins : (Cond.instantiable rl_NSE 6).before args s = true := h _ (by simp [rl_atoms])
  obtain ⟨k0, cf, i0, sa, hk0, hcf0, hcp0, hq0, hr0, hsa⟩ := Cond.stringRef_spec hown hstr
  obtain ⟨vm₁, cX, kX, hfX, hkX, -, -, X₁, st1⟩ := X.newCold hexec (own := own) (C := rl_NSE) (index := ik) (n := 6) hown hk hins hini (g := F0 m pc ls []) rfl (by rw [hb]; exact d0) (by omega) (by omega)
  generalize hT1 : (T.setVm vm₁).pushCell { cls := cX, slots := kX.instanceTypes.map defaultValue, vm := .none } = T1 at X₁ st1
  have hcell : T1.heap[T.heap.size]? = some (freshCell cX kX) := by rw [← hT1]; exact State.heap_pushCell_size _ _
  have d3' : decode c.code (pc + 3) = .ok (.dup, 1) := by rw [hb]; exact d3
  have d4' : decode c.code (pc + 4) = .ok (.ldc is, 2) := by rw [hb]; exact d4
  obtain ⟨U, hsteps, hrun, hend, hW, hsame, ce, hce, hcv, hcc⟩ := rl_ctorThrow X₁ hexec htr (own := own) (ic := ic) hown h hfX hkX hcell (by rw [hT]; exact Nat.le_refl _) (msg := .ref sa) rfl
    (g := { method := m, pc := pc + 6, locals := ls, stack := .ref sa :: .ref T.heap.size :: .ref T.heap.size :: [], locked := none }) rfl hsize rfl rfl (rest := []) rfl
    (by rw [hb]; exact d6) (by rw [hb]; exact d9) (fun x hx => (hout x hx).elim) hRf (by show 2 * 0 + (1 + 0) + 81 ≤ R.locals; omega) hlocks
  refine ⟨U, ?_, .threw T.heap.size, hrun, hend, hW, hsame.mono (by omega) (by omega), Or.inr ⟨T.heap.size, ce, rfl, hce, hcv, by rw [hcc]; exact hfX⟩⟩
  refine st1 _ ?_
  show Steps p.tables e below (T1.setTop { method := m, pc := pc + 3, locals := ls, stack := .ref T.heap.size :: [], locked := none }) _
  jvm_step X₁.here [X₁.here.top, hexec, d3', Value.category]
  exact X₁.ldcString hexec (own := own) (text := text) (index := is) (a := sa) hown hstr hsa
    (g := { method := m, pc := pc + 4, locals := ls, stack := .ref T.heap.size :: .ref T.heap.size :: [], locked := none }) rfl d4' _ hsteps
end RLT
/-- the entry of a method that answers an int or throws -/
theorem rl_mett {E : String} {post : Int32 → Prop} {mc ms : Nat} {l : Launch} {y : MethodName} {ws ws' : List Cond} {rm : Room} {D : va_G} {cl : List vw_C} {tys : List (ClassId × FieldType)} {nw : List Cond} {av : List Value} {w : va_W} {H0 : Heap} {cc : ByteArray} {maxL : Nat} {ret : Option FieldType}
    (hy : plainName y.cls = true) (hw : ws = Cond.code y cc maxL ret :: ws') (hlen : (lg_sl av).length ≤ maxL)
    (body : ∀ (p : Program) (e : Env) (s : State) (m : MethodId) (below : List Frame) (meth : Method) (c : Code) (ls : Array Slot), p.tables.exec = Jvm.exec → c.code = cc → meth.sig.returnType = ret → c.maxLocals = maxL → s.vm.findClass y.cls = some m.cls → (∀ x ∈ ws, x.before av.toArray s = true) → meth.locks = false →
      va_P D cl w s.heap → va_K D cl tys s → va_S (fun _ => False) s.heap s.heap [] → (∀ x ∈ nw, va_Nw x s) → rl_Z s → (∀ x ∈ c.exceptionTable.toList, False) → lv_has ls maxL (lv_args 0 av) →
      W p l e rm s m av.toArray below meth c s.heap [] 0 0 (rl_TZ below E post av.toArray s mc ms) (F0 m 0 ls [])) :
    rl_Mt l y ws rm (va_Pc av (rl_BT D cl tys nw w H0)) E post mc ms := by
  refine MetFree.of_bodyS (code := cc) (maxLocals := maxL) (ret := ret) hy ?_ ?_
  · intro args s m h hn
    obtain ⟨meth, c, h1, h2, h3, h4, h5, h6, -, -⟩ := Cond.code_spec hn (atoms_spec (ws := ws) h _ (by rw [hw]; exact List.mem_cons_self))
    exact ⟨meth, c, h1, h2, h3, h4, h5, h6⟩
  · intro p e s m args below meth c s₁ B hml hP _
    obtain ⟨rfl, ⟨hH, hP, hK, hN⟩, hZ⟩ := hP
    subst hH
    have hh0 : s₁.heap = s.heap := by rw [B.state]; rfl
    have ht : ∀ x ∈ c.exceptionTable.toList, False := by
      obtain ⟨meth9, c9, h1, h2, -, -, -, -, h7, -⟩ := Cond.code_spec B.named (atoms_spec (ws := ws) B.pre _ (by rw [hw]; exact List.mem_cons_self))
      cases Option.some.inj (h1.symm.trans B.method)
      cases Option.some.inj (h2.symm.trans (Stand.of_body B).code)
      intro x hx
      rw [Array.isEmpty_iff.mp h7] at hx
      cases hx
    have hl := lv_entry av (n := maxL) hlen
    have K := body p e s m below meth c _ B.exec B.bytes B.returns hml (findClass_of_methodNamed B.named) (atoms_spec (ws := ws) B.pre) B.notSynchronized hP hK va_S.rf hN hZ ht hl
    rw [← lg_entry_eq] at K
    obtain ⟨t, a1, o, b1, b2, b3⟩ := K s₁ hh0 (Stand.of_body B)
    exact ⟨t, o, a1, b1, b2, b3⟩
