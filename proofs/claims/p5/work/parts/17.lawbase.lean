/-! THE CLAIM OUT OF ONE WALK OF THE LAW'S BODY. Your part is whole_start (and what it stands on); all else here is the same for every law, but numbers. -/
def R_law : String := "RightsLimitLaw"
def lw_P (b : Addr) (xs : List Int32) (args : Array Value) (s : State) : Prop := args = #[.ref b] ∧ s.IntsAt b xs ∧ xs.length ≤ 3072 ∧ (Jvm.Cond.and given_1 narrow_1).before args s = true
def lw_Q (_ : Array Value) (s : State) (o : Outcome) (t : State) : Prop := o = .returned (some (.int 1)) ∧ Framed s o t [] 1087 18181
def lw_Z (below : List Frame) (a : Array Value) (s : State) : State → Prop := fun t => ∃ o, t.status = .running ∧ Ended t below o ∧ lw_Q a s o t
/-- the law's own end, with 1 on the stack, nothing written that was there before, its room as the claim has it -/
theorem lw_ret {p : Program} {l : Launch} {e : Env} {s : State} {m : MethodId} {below : List Frame} {meth : Method} {c : Code} {b : Nat} (hx : p.tables.exec = Jvm.exec) (hb : c.code = code) (hr : meth.sig.returnType = ret) (hlocks : meth.locks = false) {pc : Nat} {H : Heap} {ls : Array Slot} (hdg : decode code pc = .ok (.ireturn, 1)) : W p l e room_1 s m #[Value.ref b] below meth c H [] 1087 18181 (lw_Z below #[Value.ref b] s) (F0 m pc ls [.int 1]) := by
  intro T hT X
  obtain ⟨fs, hret, hrun, hended, hW, hframe⟩ := X.leave (v := some (.int 1)) (hlocks := hlocks) (fun h => by rw [hr] at h; cases h)
  have hmeth' : T.vm.method? m = some meth := X.method'
  refine ⟨T.setFrames fs, ?_, .returned (some (.int 1)), hrun, hended, rfl, ⟨_, rfl⟩, hW, hframe⟩
  jvm_step X.here [X.here.top, hx, hb, hdg, hmeth', hr, ret, narrow_b1]
  (try refine ⟨rfl, ?_⟩); (try refine ⟨rfl, ?_⟩)
  first | (intro acts; rw [hret _ acts rfl rfl rfl]) | rw [hret _ _ rfl rfl rfl]
  exact Steps.refl _
/-- what holds at the law's entry: the machine, the code, the tables' words (any of lw_tbl by 'hts w (by decide +kernel)'), the script of L ints xs at the cell b, what the Statement gives of the start (any of its parts by flat_of_before) -/
def lw_At (p : Program) (s : State) (m : MethodId) (meth : Method) (c : Code) (b L : Nat) (xs : Nat → Int32) : Prop :=
  p.tables.exec = Jvm.exec ∧ c.code = code ∧ meth.sig.returnType = ret ∧ c.maxLocals = 7 ∧ s.vm.findClass R_law = some m.cls ∧ (∀ w ∈ lw_tbl, w.before #[Value.ref b] s = true) ∧ va_X b L xs s s.heap ∧ b < s.heap.size ∧ meth.locks = false ∧ (Jvm.Cond.and given_1 narrow_1).before #[Value.ref b] s = true
section RLL
variable {p : Program} {l : Launch} {e : Env} {R : Room} {s : State} {m : MethodId} {args : Array Value} {below : List Frame} {meth : Method} {c : Code} {H H0 : Heap} {locs : List Loc} {cells slots : Nat} {Q : State → Prop}
variable {pc : Nat} {ls : Array Slot} {rest st0 : List Value} {av : List Value} {A0 : Nat → Prop}
variable {D : va_G} {cl : List vw_C} {w1 w2 wb : va_W} {S : Type} {w' : S → va_W}
theorem rl_calliL {post : Int32 → S → Prop} (hP : va_P D cl ((w1 ++ wb) ++ w2) H) (hD : va_D A0 ((w1 ++ wb) ++ w2)) (hS : va_S A0 H0 H locs) (hA : ∀ q, H0.size ≤ q → A0 q)
    (hr : va_Run p l e R s m args below meth c H locs cells slots 0 0 (F0 m pc ls st0) rest (va_Qi post (fun u t => va_P D cl (w' u) t.heap ∧ va_D (va_A w1 H.size) (w' u)) (va_A w1 H.size) av.toArray) (va_A w1 H.size))
    (kk : ∀ (r : Int32) (u : S) (H1 : Heap) (locs1 : List Loc), post r u → va_P D cl ((w' u ++ wb) ++ w2) H1 → va_D A0 ((w' u ++ wb) ++ w2) → va_S A0 H0 H1 locs1 → W p l e R s m args below meth c H1 locs1 cells slots Q (F0 m (pc + 3) ls (.int r :: rest))) : W p l e R s m args below meth c H locs cells slots Q (F0 m pc ls st0) :=
  rl_calli (w2 := wb ++ w2) (by rw [← List.append_assoc]; exact hP) (by rw [← List.append_assoc]; exact hD) hS hA hr (fun r u H1 locs1 h1 h2 h3 h4 => kk r u H1 locs1 h1 (by rw [List.append_assoc]; exact h2) (by rw [List.append_assoc]; exact h3) h4)
theorem rl_calliR {post : Int32 → S → Prop} (hP : va_P D cl (wb ++ w1) H) (hD : va_D A0 (wb ++ w1)) (hS : va_S A0 H0 H locs) (hA : ∀ q, H0.size ≤ q → A0 q)
    (hr : va_Run p l e R s m args below meth c H locs cells slots 0 0 (F0 m pc ls st0) rest (va_Qi post (fun u t => va_P D cl (w' u) t.heap ∧ va_D (va_A w1 H.size) (w' u)) (va_A w1 H.size) av.toArray) (va_A w1 H.size))
    (kk : ∀ (r : Int32) (u : S) (H1 : Heap) (locs1 : List Loc), post r u → va_P D cl (wb ++ w' u) H1 → va_D A0 (wb ++ w' u) → va_S A0 H0 H1 locs1 → W p l e R s m args below meth c H1 locs1 cells slots Q (F0 m (pc + 3) ls (.int r :: rest))) : W p l e R s m args below meth c H locs cells slots Q (F0 m pc ls st0) :=
  rl_calli (w2 := wb) (rl_P.swap hP) (rl_D.swap hD) hS hA hr (fun r u H1 locs1 h1 h2 h3 h4 => kk r u H1 locs1 h1 (rl_P.swap h2) (rl_D.swap h3) h4)
end RLL
theorem lw_c {n k : Nat} (h : n + 1 ≤ 1087) (hk : k ≤ 1) : n + k ≤ room_1.cells := by
  show n + k ≤ 1087
  omega
theorem lw_s {n k : Nat} (h : n + 6 ≤ 18181) (hk : k ≤ 6) : n + k ≤ room_1.slots := by
  show n + k ≤ 18181
  omega
def lw_E (F G : Nat → Nat → Int32) : Prop := (F 27 0).toInt = (G 27 2).toInt ∧ (F 27 1).toInt = (G 27 3).toInt ∧ (F 27 2).toInt = (G 27 4).toInt
/-- what stays over the loop -/
def lw_B (p : Program) (l : Launch) (s : State) (m : MethodId) (meth : Method) (c : Code) (b L : Nat) (xs : Nat → Int32) (D : va_G) (kI kZ kL : ClassId) : Prop :=
  p.tables.exec = Jvm.exec ∧ c.code = code ∧ meth.sig.returnType = ret ∧ c.maxLocals = 7 ∧ s.vm.findClass "RightsLimitLaw" = some m.cls ∧ (∀ w ∈ rl_G, w.before #[Value.ref b] s = true) ∧ meth.locks = false ∧ va_X b L xs s s.heap ∧ b < s.heap.size ∧ va_K D rl_cl (rl_t3 kI kZ kL) s ∧ rl_Z s ∧ va_Nw (.castable rl_NSE rl_NSE) s ∧ (∀ x ∈ rl_nw, va_Nw x s) ∧ l.stackTraces = false ∧ L ≤ 3072
/-- what a turn of the loop has -/
def lw_J (s : State) (b : Nat) (D : va_G) (a a2 : Nat → Nat) (kI kZ kL : ClassId) (q : Nat) (i : Int32) (F G : Nat → Nat → Int32) (g : Nat → Int64) (H : Heap) (locs : List Loc) (ls : Array Slot) : Prop := rl_I F ∧ rm_I G ∧ lw_E F G ∧ va_P D rl_cl ((rl_w a kI kZ F ++ rl_O kL q g) ++ rm_w a2 kI kZ G) H ∧ va_D (fun q : Nat => s.heap.size ≤ q) ((rl_w a kI kZ F ++ rl_O kL q g) ++ rm_w a2 kI kZ G) ∧ va_S (fun q : Nat => s.heap.size ≤ q) s.heap H locs ∧ lv_has ls 7 [(4, .int i), (3, .ref q), (2, .ref (a2 0)), (1, .ref (a 0)), (0, .ref b)]
def lw_K (p : Program) (l : Launch) (e : Env) (s : State) (m : MethodId) (below : List Frame) (meth : Method) (c : Code) (b : Nat) (D : va_G) (a a2 : Nat → Nat) (kI kZ kL : ClassId) (q : Nat) (i : Int32) (c1 s1 : Nat) : Prop := ∀ (F G : Nat → Nat → Int32) (g : Nat → Int64) (H : Heap) (locs : List Loc) (ls : Array Slot), lw_J s b D a a2 kI kZ kL q i F G g H locs ls → W p l e room_1 s m #[Value.ref b] below meth c H locs c1 s1 (lw_Z below #[Value.ref b] s) (F0 m 875 ls [])
