/-! Numbers -/
theorem rl_ile {a b : Int32} (h : a ≤ b) : a.toInt ≤ b.toInt := Int32.le_iff_toInt_le.mp h
theorem rl_ilt {a b : Int32} (h : a < b) : a.toInt < b.toInt := Int32.lt_iff_toInt_lt.mp h
theorem rl_inle {a b : Int32} (h : ¬ a ≤ b) : b.toInt < a.toInt := by
  have h1 : ¬ a.toInt ≤ b.toInt := fun q => h (Int32.le_iff_toInt_le.mpr q)
  omega
theorem rl_inlt {a b : Int32} (h : ¬ a < b) : b.toInt ≤ a.toInt := by
  have h1 : ¬ a.toInt < b.toInt := fun q => h (Int32.lt_iff_toInt_lt.mpr q)
  omega
theorem rl_ieq {a b : Int32} (h : a = b) : a.toInt = b.toInt := by rw [h]
theorem rl_ine {a b : Int32} (h : ¬ a = b) : ¬ a.toInt = b.toInt := fun q => h (Int32.toInt_inj.mp q)
theorem rl_in {x : Int32} {n : Nat} (h0 : 0 ≤ x.toInt) (h1 : x.toInt < n) : vp_in x n := vp_in_iff.mpr ⟨h0, h1⟩
theorem rl_rng (x : Int32) : -2147483648 ≤ x.toInt ∧ x.toInt ≤ 2147483647 := ⟨Int32.le_toInt x, by have := Int32.toInt_lt x; omega⟩
theorem rl_inc {x : Int32} (h : x.toInt < 2147483647) : (x + 1).toInt = x.toInt + 1 := by
  rw [Int32.toInt_add]
  have h1 := rl_rng x
  have h2 : (1 : Int32).toInt = 1 := by decide
  rw [h2, Int.bmod_def]
  omega
theorem rl_dec {x : Int32} (h : -2147483648 < x.toInt) : (x - 1).toInt = x.toInt - 1 := by
  rw [Int32.toInt_sub]
  have h1 := rl_rng x
  have h2 : (1 : Int32).toInt = 1 := by decide
  rw [h2, Int.bmod_def]
  omega
/-! A method's start: the world w, its classes, nest words nw -/
def rl_B (D : va_G) (cl : List vw_C) (tys : List (ClassId × FieldType)) (nw : List Cond) (w : va_W) (sz : Nat) (U : State) : Prop := U.heap.size = sz ∧ va_P D cl w U.heap ∧ va_K D cl tys U ∧ va_D (fun _ => True) w ∧ ∀ x ∈ nw, va_Nw x U
def rl_nest (x : Cond) : Prop := ∃ (a : String) (i : Nat) (y : MethodName) (h : String), x = .methodLinkNest a i y h
theorem rl_B.pre {D : va_G} {cl : List vw_C} {tys : List (ClassId × FieldType)} {nw : List Cond} {w : va_W} {s : State} {H : Heap} {A : Nat → Prop} {av : List Value} (hnw : ∀ x ∈ nw, rl_nest x) (hP : va_P D cl w H) (hK : va_K D cl tys s) (hD : va_D A w) (hN : ∀ x ∈ nw, va_Nw x s) : PreS s H (va_Pc av (rl_B D cl tys nw w H.size)) av := by
  refine ⟨fun a U g mk q => ?_, fun U hU hW => ⟨rfl, by rw [hU], by rw [hU]; exact hP, va_K.moved hW.alike hK, hD.weaken (fun _ _ _ _ => trivial), fun x hx => ?_⟩⟩
  · obtain ⟨q0, q1, qP, qK, qD, qN⟩ := q
    exact ⟨q0, q1, qP, va_K.moved (u := U) (U := U.calling g mk a) (Vm.Alike.refl U.vm) qK, qD, fun x hx => by
      obtain ⟨c1, i1, y1, h1, rfl⟩ := hnw x hx
      exact va_Nw.same (u := U) rfl rfl (qN _ hx)⟩
  · obtain ⟨c1, i1, y1, h1, rfl⟩ := hnw x hx
    exact va_Nw.warmM hW (hN _ hx)
/-! Contracts: an int (or boolean) answered; nothing answered -/
abbrev rl_Ci {S : Type} (l : Launch) (y : MethodName) (ws : List Cond) (rm : Room) (D : va_G) (cl : List vw_C) (tys : List (ClassId × FieldType)) (nw : List Cond) (av : List Value) (w : va_W) (sz : Nat) (post : Int32 → S → Prop) (w' : S → va_W) (mc ms : Nat) : Prop :=
  Met l y ws rm (va_Pc av (rl_B D cl tys nw w sz)) (va_Qi post (fun u t => va_P D cl (w' u) t.heap ∧ va_D (va_A w sz) (w' u)) (va_A w sz)) mc ms (va_A w sz)
abbrev rl_Cv {S : Type} (l : Launch) (y : MethodName) (ws : List Cond) (rm : Room) (D : va_G) (cl : List vw_C) (tys : List (ClassId × FieldType)) (nw : List Cond) (av : List Value) (w : va_W) (sz : Nat) (post : S → Prop) (w' : S → va_W) (mc ms : Nat) : Prop :=
  Met l y ws rm (va_Pc av (rl_B D cl tys nw w sz)) (va_Qv post (fun u t => va_P D cl (w' u) t.heap ∧ va_D (va_A w sz) (w' u)) (va_A w sz)) mc ms (va_A w sz)
/-! A method's entry -/
theorem rl_met {l : Launch} {y : MethodName} {ws ws' : List Cond} {rm : Room} {D : va_G} {cl : List vw_C} {tys : List (ClassId × FieldType)} {nw : List Cond} {av : List Value} {w : va_W} {sz : Nat} {Qc : (Nat → Prop) → Array Value → State → Outcome → State → Prop} {mc ms : Nat} {cc : ByteArray} {maxL : Nat} {ret : Option FieldType}
    (hy : plainName y.cls = true) (hw : ws = Cond.code y cc maxL ret :: ws') (hlen : (lg_sl av).length ≤ maxL)
    (body : ∀ (p : Program) (e : Env) (s : State) (m : MethodId) (below : List Frame) (meth : Method) (c : Code) (A : Nat → Prop) (ls : Array Slot), p.tables.exec = Jvm.exec → c.code = cc → meth.sig.returnType = ret → c.maxLocals = maxL → s.vm.findClass y.cls = some m.cls → (∀ x ∈ ws, x.before av.toArray s = true) → meth.locks = false → meth.name = y.name →
      va_P D cl w s.heap → va_K D cl tys s → va_D A w → va_S A s.heap s.heap [] → (∀ q : Nat, s.heap.size ≤ q → A q) → (∀ x ∈ nw, va_Nw x s) → lv_has ls maxL (lv_args 0 av) →
      W p l e rm s m av.toArray below meth c s.heap [] 0 0 (MQ below (Qc A) av.toArray s mc ms A) (F0 m 0 ls [])) :
    Met l y ws rm (va_Pc av (rl_B D cl tys nw w sz)) (Qc (va_A w sz)) mc ms (va_A w sz) := by
  refine Met.ofW (cc := cc) (maxL := maxL) (ret := ret) hy hw ?_
  intro p e s m args below meth c s₁ B hml hv
  obtain ⟨rfl, hsz, hP, hK, hD0, hN⟩ := hv
  subst hsz
  have hl := lv_entry av (n := maxL) hlen
  rw [lg_entry_eq]
  exact body p e s m below meth c _ _ B.exec B.bytes B.returns hml (findClass_of_methodNamed B.named) (atoms_spec (ws := ws) B.pre) B.notSynchronized (name_of_methodNamed B.named B.method).1 hP hK (hD0.self (sz := s.heap.size)) va_S.rf (fun q h => Or.inr h) hN hl
theorem rl_meti {S : Type} {post : Int32 → S → Prop} {w' : S → va_W} {l : Launch} {y : MethodName} {ws ws' : List Cond} {rm : Room} {D : va_G} {cl : List vw_C} {tys : List (ClassId × FieldType)} {nw : List Cond} {av : List Value} {w : va_W} {sz : Nat} {mc ms : Nat} {cc : ByteArray} {maxL : Nat} {ret : Option FieldType}
    (hy : plainName y.cls = true) (hw : ws = Cond.code y cc maxL ret :: ws') (hlen : (lg_sl av).length ≤ maxL)
    (body : ∀ (p : Program) (e : Env) (s : State) (m : MethodId) (below : List Frame) (meth : Method) (c : Code) (A : Nat → Prop) (ls : Array Slot), p.tables.exec = Jvm.exec → c.code = cc → meth.sig.returnType = ret → c.maxLocals = maxL → s.vm.findClass y.cls = some m.cls → (∀ x ∈ ws, x.before av.toArray s = true) → meth.locks = false → meth.name = y.name →
      va_P D cl w s.heap → va_K D cl tys s → va_D A w → va_S A s.heap s.heap [] → (∀ q : Nat, s.heap.size ≤ q → A q) → (∀ x ∈ nw, va_Nw x s) → lv_has ls maxL (lv_args 0 av) →
      W p l e rm s m av.toArray below meth c s.heap [] 0 0 (MQ below (va_Qi post (fun u t => va_P D cl (w' u) t.heap ∧ va_D A (w' u)) A) av.toArray s mc ms A) (F0 m 0 ls [])) :
    rl_Ci l y ws rm D cl tys nw av w sz post w' mc ms := rl_met (Qc := fun A => va_Qi post (fun u t => va_P D cl (w' u) t.heap ∧ va_D A (w' u)) A) hy hw hlen body
theorem rl_metv {S : Type} {post : S → Prop} {w' : S → va_W} {l : Launch} {y : MethodName} {ws ws' : List Cond} {rm : Room} {D : va_G} {cl : List vw_C} {tys : List (ClassId × FieldType)} {nw : List Cond} {av : List Value} {w : va_W} {sz : Nat} {mc ms : Nat} {cc : ByteArray} {maxL : Nat} {ret : Option FieldType}
    (hy : plainName y.cls = true) (hw : ws = Cond.code y cc maxL ret :: ws') (hlen : (lg_sl av).length ≤ maxL)
    (body : ∀ (p : Program) (e : Env) (s : State) (m : MethodId) (below : List Frame) (meth : Method) (c : Code) (A : Nat → Prop) (ls : Array Slot), p.tables.exec = Jvm.exec → c.code = cc → meth.sig.returnType = ret → c.maxLocals = maxL → s.vm.findClass y.cls = some m.cls → (∀ x ∈ ws, x.before av.toArray s = true) → meth.locks = false → meth.name = y.name →
      va_P D cl w s.heap → va_K D cl tys s → va_D A w → va_S A s.heap s.heap [] → (∀ q : Nat, s.heap.size ≤ q → A q) → (∀ x ∈ nw, va_Nw x s) → lv_has ls maxL (lv_args 0 av) →
      W p l e rm s m av.toArray below meth c s.heap [] 0 0 (MQ below (va_Qv post (fun u t => va_P D cl (w' u) t.heap ∧ va_D A (w' u)) A) av.toArray s mc ms A) (F0 m 0 ls [])) :
    rl_Cv l y ws rm D cl tys nw av w sz post w' mc ms := rl_met (Qc := fun A => va_Qv post (fun u t => va_P D cl (w' u) t.heap ∧ va_D A (w' u)) A) hy hw hlen body
/-! A method that changes nothing -/
def rl_BR (D : va_G) (cl : List vw_C) (tys : List (ClassId × FieldType)) (nw : List Cond) (w : va_W) (H0 : Heap) (U : State) : Prop := U.heap = H0 ∧ va_P D cl w U.heap ∧ va_K D cl tys U ∧ ∀ x ∈ nw, va_Nw x U
theorem rl_BR.pre {D : va_G} {cl : List vw_C} {tys : List (ClassId × FieldType)} {nw : List Cond} {w : va_W} {s : State} {H : Heap} {av : List Value} (hnw : ∀ x ∈ nw, rl_nest x) (hP : va_P D cl w H) (hK : va_K D cl tys s) (hN : ∀ x ∈ nw, va_Nw x s) : PreS s H (va_Pc av (rl_BR D cl tys nw w H)) av := by
  refine ⟨fun a U g mk q => ?_, fun U hU hW => ⟨rfl, hU, by rw [hU]; exact hP, va_K.moved hW.alike hK, fun x hx => ?_⟩⟩
  · obtain ⟨q0, q1, qP, qK, qN⟩ := q
    exact ⟨q0, q1, qP, va_K.moved (u := U) (U := U.calling g mk a) (Vm.Alike.refl U.vm) qK, fun x hx => by
      obtain ⟨c1, i1, y1, h1, rfl⟩ := hnw x hx
      exact va_Nw.same (u := U) rfl rfl (qN _ hx)⟩
  · obtain ⟨c1, i1, y1, h1, rfl⟩ := hnw x hx
    exact va_Nw.warmM hW (hN _ hx)
abbrev rl_Ri (l : Launch) (y : MethodName) (ws : List Cond) (rm : Room) (D : va_G) (cl : List vw_C) (tys : List (ClassId × FieldType)) (nw : List Cond) (av : List Value) (w : va_W) (H0 : Heap) (post : Int32 → Prop) : Prop :=
  Met l y ws rm (va_Pc av (rl_BR D cl tys nw w H0)) (va_Qi (S := Unit) (fun r _ => post r) (fun _ t => t.heap = H0) (fun _ => False)) 0 0 (fun _ => False)
theorem rl_metr {post : Int32 → Prop} {l : Launch} {y : MethodName} {ws ws' : List Cond} {rm : Room} {D : va_G} {cl : List vw_C} {tys : List (ClassId × FieldType)} {nw : List Cond} {av : List Value} {w : va_W} {H0 : Heap} {cc : ByteArray} {maxL : Nat} {ret : Option FieldType}
    (hy : plainName y.cls = true) (hw : ws = Cond.code y cc maxL ret :: ws') (hlen : (lg_sl av).length ≤ maxL)
    (body : ∀ (p : Program) (e : Env) (s : State) (m : MethodId) (below : List Frame) (meth : Method) (c : Code) (ls : Array Slot), p.tables.exec = Jvm.exec → c.code = cc → meth.sig.returnType = ret → c.maxLocals = maxL → s.vm.findClass y.cls = some m.cls → (∀ x ∈ ws, x.before av.toArray s = true) → meth.locks = false →
      va_P D cl w s.heap → va_K D cl tys s → va_S (fun _ => False) s.heap s.heap [] → (∀ x ∈ nw, va_Nw x s) → lv_has ls maxL (lv_args 0 av) →
      W p l e rm s m av.toArray below meth c s.heap [] 0 0 (MQ below (va_Qi (S := Unit) (fun r _ => post r) (fun _ t => t.heap = s.heap) (fun _ => False)) av.toArray s 0 0 (fun _ => False)) (F0 m 0 ls [])) :
    rl_Ri l y ws rm D cl tys nw av w H0 post := by
  refine Met.ofW (cc := cc) (maxL := maxL) (ret := ret) hy hw ?_
  intro p e s m args below meth c s₁ B hml hv
  obtain ⟨rfl, hH, hP, hK, hN⟩ := hv
  subst hH
  have hl := lv_entry av (n := maxL) hlen
  rw [lg_entry_eq]
  exact body p e s m below meth c _ B.exec B.bytes B.returns hml (findClass_of_methodNamed B.named) (atoms_spec (ws := ws) B.pre) B.notSynchronized hP hK va_S.rf hN hl
/-! A world in two parts -/
theorem rl_P.l {D : va_G} {cl : List vw_C} {w1 w2 : va_W} {H : Heap} (h : va_P D cl (w1 ++ w2) H) : va_P D cl w1 H := fun k q hq => h k q (by rw [List.getElem?_append_left (List.getElem?_eq_some_iff.mp hq).1]; exact hq)
theorem rl_P.r {D : va_G} {cl : List vw_C} {w1 w2 : va_W} {H : Heap} (h : va_P D cl (w1 ++ w2) H) : va_P D cl w2 H := fun k q hq => h (w1.length + k) q (by rw [List.getElem?_append_right (by omega)]; simpa using hq)
theorem rl_P.swap {D : va_G} {cl : List vw_C} {w1 w2 : va_W} {H : Heap} (h : va_P D cl (w1 ++ w2) H) : va_P D cl (w2 ++ w1) H := va_P.app (rl_P.r h) (rl_P.l h)
theorem rl_D.l {A : Nat → Prop} {w1 w2 : va_W} (h : va_D A (w1 ++ w2)) : va_D A w1 :=
  ⟨fun i j p q hi hj e => h.1 i j p q (by rw [List.getElem?_append_left (List.getElem?_eq_some_iff.mp hi).1]; exact hi) (by rw [List.getElem?_append_left (List.getElem?_eq_some_iff.mp hj).1]; exact hj) e, fun k q hq => h.2 k q (by rw [List.getElem?_append_left (List.getElem?_eq_some_iff.mp hq).1]; exact hq)⟩
theorem rl_D.r {A : Nat → Prop} {w1 w2 : va_W} (h : va_D A (w1 ++ w2)) : va_D A w2 := by
  have at2 : ∀ (k : Nat) (q : Nat × va_E), w2[k]? = some q → (w1 ++ w2)[w1.length + k]? = some q := fun k q hq => by
    rw [List.getElem?_append_right (by omega)]; simpa using hq
  exact ⟨fun i j p q hi hj e => by have := h.1 _ _ p q (at2 i p hi) (at2 j q hj) e; omega, fun k q hq => h.2 _ q (at2 k q hq)⟩
theorem rl_D.x {A : Nat → Prop} {w1 w2 : va_W} (h : va_D A (w1 ++ w2)) (i j : Nat) (p q : Nat × va_E) (hi : w1[i]? = some p) (hj : w2[j]? = some q) : p.1 ≠ q.1 := fun e => by
  have hl := (List.getElem?_eq_some_iff.mp hi).1
  have := h.1 i (w1.length + j) p q (by rw [List.getElem?_append_left hl]; exact hi) (by rw [List.getElem?_append_right (by omega)]; simpa using hj) e
  omega
theorem rl_D.swap {A : Nat → Prop} {w1 w2 : va_W} (h : va_D A (w1 ++ w2)) : va_D A (w2 ++ w1) := va_D.app (rl_D.r h) (rl_D.l h) (fun i j x y hx hy hxy => rl_D.x h j i y x hy hx hxy.symm)
theorem rl_join {A0 : Nat → Prop} {D : va_G} {cl : List vw_C} {w1 w2 w1' : va_W} {H H1 : Heap} (hP : va_P D cl (w1 ++ w2) H) (hD : va_D A0 (w1 ++ w2)) (hk : ∀ q : Nat, q < H.size → ¬ va_A w1 H.size q → H1[q]? = H[q]?) (hF : ∀ q, va_A w1 H.size q → A0 q) (hP1 : va_P D cl w1' H1) (hD1 : va_D (va_A w1 H.size) w1') :
    va_P D cl (w1' ++ w2) H1 ∧ va_D A0 (w1' ++ w2) := by
  have apart : ∀ (k : Nat) (q : Nat × va_E), w2[k]? = some q → q.1 < H.size ∧ ¬ va_A w1 H.size q.1 := by
    intro k q hq
    have hl := (rl_P.r hP k q hq).lt
    refine ⟨hl, fun h => ?_⟩
    rcases h with ⟨k2, e, h⟩ | h
    · exact rl_D.x hD k2 k (q.1, e) q h hq rfl
    · omega
  refine ⟨va_P.app hP1 (fun k q hq => ((rl_P.r hP) k q hq).kept (hk q.1 (apart k q hq).1 (apart k q hq).2)), va_D.app (hD1.weaken (fun k q _ h => hF q.1 h)) (rl_D.r hD) (fun i j x y hx hy hxy => ?_)⟩
  exact (apart j y hy).2 (by rw [← hxy]; exact hD1.2 i x hx)
theorem rl_free {A0 : Nat → Prop} {w1 w2 : va_W} {H0 H : Heap} {locs : List Loc} (hD : va_D A0 (w1 ++ w2)) (hS : va_S A0 H0 H locs) (hA : ∀ q, H0.size ≤ q → A0 q) : ∀ q, va_A w1 H.size q → A0 q := by
  intro q h
  rcases h with ⟨k, e, h⟩ | h
  · exact (rl_D.l hD).2 k (q, e) h
  · exact hA q (Nat.le_trans hS.1 h)
/-! Calls: the callee's world is the first part w1 of the caller's -/
section RLC
variable {p : Program} {l : Launch} {e : Env} {R : Room} {s : State} {m : MethodId} {args : Array Value} {below : List Frame} {meth : Method} {c : Code} {H H0 : Heap} {locs : List Loc} {cells slots : Nat} {Q : State → Prop}
variable {pc : Nat} {ls : Array Slot} {rest st0 : List Value} {av : List Value} {A0 : Nat → Prop} {mc ms : Nat}
variable {D : va_G} {cl : List vw_C} {w1 w2 : va_W} {S : Type} {w' : S → va_W}
theorem rl_calli {post : Int32 → S → Prop} (hP : va_P D cl (w1 ++ w2) H) (hD : va_D A0 (w1 ++ w2)) (hS : va_S A0 H0 H locs) (hA : ∀ q, H0.size ≤ q → A0 q)
    (hr : va_Run p l e R s m args below meth c H locs cells slots mc ms (F0 m pc ls st0) rest (va_Qi post (fun u t => va_P D cl (w' u) t.heap ∧ va_D (va_A w1 H.size) (w' u)) (va_A w1 H.size) av.toArray) (va_A w1 H.size))
    (kk : ∀ (r : Int32) (u : S) (H1 : Heap) (locs1 : List Loc), post r u → va_P D cl (w' u ++ w2) H1 → va_D A0 (w' u ++ w2) → va_S A0 H0 H1 locs1 → W p l e R s m args below meth c H1 locs1 (cells + mc) (slots + ms) Q (F0 m (pc + 3) ls (.int r :: rest))) : W p l e R s m args below meth c H locs cells slots Q (F0 m pc ls st0) := by
  have hF := rl_free hD hS hA
  refine va_calli hr hS (fun q _ h => hF q h) hF (fun r u t H1 locs1 ht hvm hw hB hz1 hk1 hS1 => ?_)
  rw [ht] at hB
  obtain ⟨hP2, hD2⟩ := rl_join hP hD hk1 hF hB.1 hB.2
  exact kk r u H1 locs1 hw hP2 hD2 hS1
theorem rl_callv {post : S → Prop} (hP : va_P D cl (w1 ++ w2) H) (hD : va_D A0 (w1 ++ w2)) (hS : va_S A0 H0 H locs) (hA : ∀ q, H0.size ≤ q → A0 q)
    (hr : va_Run p l e R s m args below meth c H locs cells slots mc ms (F0 m pc ls st0) rest (va_Qv post (fun u t => va_P D cl (w' u) t.heap ∧ va_D (va_A w1 H.size) (w' u)) (va_A w1 H.size) av.toArray) (va_A w1 H.size))
    (kk : ∀ (u : S) (H1 : Heap) (locs1 : List Loc), post u → va_P D cl (w' u ++ w2) H1 → va_D A0 (w' u ++ w2) → va_S A0 H0 H1 locs1 → W p l e R s m args below meth c H1 locs1 (cells + mc) (slots + ms) Q (F0 m (pc + 3) ls rest)) : W p l e R s m args below meth c H locs cells slots Q (F0 m pc ls st0) := by
  have hF := rl_free hD hS hA
  refine va_callv hr hS (fun q _ h => hF q h) hF (fun u t H1 locs1 ht hvm hw hB hz1 hk1 hS1 => ?_)
  rw [ht] at hB
  obtain ⟨hP2, hD2⟩ := rl_join hP hD hk1 hF hB.1 hB.2
  exact kk u H1 locs1 hw hP2 hD2 hS1
end RLC
section RLC0
variable {p : Program} {l : Launch} {e : Env} {R : Room} {s : State} {m : MethodId} {args : Array Value} {below : List Frame} {meth : Method} {c : Code} {H H0 : Heap} {locs : List Loc} {cells slots : Nat} {Q : State → Prop}
variable {pc : Nat} {ls : Array Slot} {rest st0 : List Value} {av : List Value} {A0 : Nat → Prop}
variable {D : va_G} {cl : List vw_C} {w1 : va_W} {S : Type} {w' : S → va_W}
theorem rl_calli0 {post : Int32 → S → Prop} (hP : va_P D cl w1 H) (hD : va_D A0 w1) (hS : va_S A0 H0 H locs) (hA : ∀ q, H0.size ≤ q → A0 q)
    (hr : va_Run p l e R s m args below meth c H locs cells slots 0 0 (F0 m pc ls st0) rest (va_Qi post (fun u t => va_P D cl (w' u) t.heap ∧ va_D (va_A w1 H.size) (w' u)) (va_A w1 H.size) av.toArray) (va_A w1 H.size))
    (kk : ∀ (r : Int32) (u : S) (H1 : Heap) (locs1 : List Loc), post r u → va_P D cl (w' u) H1 → va_D A0 (w' u) → va_S A0 H0 H1 locs1 → W p l e R s m args below meth c H1 locs1 cells slots Q (F0 m (pc + 3) ls (.int r :: rest))) : W p l e R s m args below meth c H locs cells slots Q (F0 m pc ls st0) :=
  rl_calli (w2 := []) (by rw [List.append_nil]; exact hP) (by rw [List.append_nil]; exact hD) hS hA hr (fun r u H1 locs1 h1 h2 h3 h4 => kk r u H1 locs1 h1 (by rw [List.append_nil] at h2; exact h2) (by rw [List.append_nil] at h3; exact h3) h4)
theorem rl_callv0 {post : S → Prop} (hP : va_P D cl w1 H) (hD : va_D A0 w1) (hS : va_S A0 H0 H locs) (hA : ∀ q, H0.size ≤ q → A0 q)
    (hr : va_Run p l e R s m args below meth c H locs cells slots 0 0 (F0 m pc ls st0) rest (va_Qv post (fun u t => va_P D cl (w' u) t.heap ∧ va_D (va_A w1 H.size) (w' u)) (va_A w1 H.size) av.toArray) (va_A w1 H.size))
    (kk : ∀ (u : S) (H1 : Heap) (locs1 : List Loc), post u → va_P D cl (w' u) H1 → va_D A0 (w' u) → va_S A0 H0 H1 locs1 → W p l e R s m args below meth c H1 locs1 cells slots Q (F0 m (pc + 3) ls rest)) : W p l e R s m args below meth c H locs cells slots Q (F0 m pc ls st0) :=
  rl_callv (w2 := []) (by rw [List.append_nil]; exact hP) (by rw [List.append_nil]; exact hD) hS hA hr (fun u H1 locs1 h1 h2 h3 h4 => kk u H1 locs1 h1 (by rw [List.append_nil] at h2; exact h2) (by rw [List.append_nil] at h3; exact h3) h4)
/-- a call that changes nothing -/
theorem rl_callr {post : Int32 → Prop} (hS : va_S A0 H0 H locs)
    (hr : va_Run p l e R s m args below meth c H locs cells slots 0 0 (F0 m pc ls st0) rest (va_Qi (S := Unit) (fun r _ => post r) (fun _ t => t.heap = H) (fun _ => False) av.toArray) (fun _ => False))
    (kk : ∀ (r : Int32) (locs1 : List Loc), post r → va_S A0 H0 H locs1 → W p l e R s m args below meth c H locs1 cells slots Q (F0 m (pc + 3) ls (.int r :: rest))) : W p l e R s m args below meth c H locs cells slots Q (F0 m pc ls st0) := by
  refine va_calli hr hS (fun q _ h => h.elim) (fun q h => h.elim) (fun r u t H1 locs1 ht hvm hw hB hz1 hk1 hS1 => ?_)
  have e9 : H1 = H := ht.symm.trans hB
  rw [e9] at hS1 ⊢
  exact kk r locs1 hw hS1
end RLC0
theorem rl_P0 {D : va_G} {cl : List vw_C} {H : Heap} : va_P D cl [] H := fun k q h => by simp at h
theorem rl_D0 {A : Nat → Prop} : va_D A [] := ⟨fun i j p q h => by simp at h, fun k q h => by simp at h⟩
/-! Array classes -/
theorem rl_arr {s : State} {args : Array Value} {ty : FieldType} (hp : ∀ C, ty ≠ .object C) (h : (Cond.arrayClass ty).before args s = true) : ∃ cA : ClassId, ArrOfT s cA ty ∧ va_RA s cA ty := by
  obtain ⟨cA, kA, comp, h1, h2, h3⟩ := Cond.arrayClass_spec h
  refine ⟨cA, fun n z => ⟨fun k h => (by cases h), kA, h2, comp, h3⟩, ?_⟩
  cases ty <;> first | exact h1 | exact absurd rfl (hp _)
theorem rl_one {s : State} {D : va_G} {cl : List vw_C} {tys : List (ClassId × FieldType)} {k j : Nat} {cA cB : ClassId} {ty : FieldType} (hp : ∀ C, ty ≠ .object C) (hK : va_K D cl tys s) (h1 : tys[k]? = some (cA, ty)) (h2 : tys[j]? = some (cB, ty)) : cA = cB := by
  have a1 := (hK.2 k _ h1).2
  have a2 := (hK.2 j _ h2).2
  cases ty <;> first | exact Option.some.inj (a1.symm.trans a2) | exact absurd rfl (hp _)
section RLN
variable {p : Program} {l : Launch} {e : Env} {R : Room} {s : State} {m : MethodId} {args : Array Value} {below : List Frame} {meth : Method} {c : Code} {H : Heap} {locs : List Loc} {cells slots : Nat} {Q : State → Prop}
variable {cc : ByteArray} {pc : Nat} {ls : Array Slot} {rest : List Value} {D : va_G} {cl : List vw_C} {A : Nat → Prop} {tys : List (ClassId × FieldType)} {ws : va_W} {H0 : Heap}
/-- a new array, of the kind that the world knows -/
theorem rl_newa (hexec : p.tables.exec = Jvm.exec) (hb : c.code = cc) {atype : ArrayType} (harr : (Cond.arrayClass (newarray.typeOf atype)).before args s = true) {ty : FieldType} (hty : newarray.typeOf atype = ty) (hp : ∀ C, ty ≠ .object C) (t0 : Nat) {cK : ClassId} (ht : tys[t0]? = some (cK, ty)) (hK : va_K D cl tys s) (hP : va_P D cl ws H) (hD : va_D A ws) (hS : va_S A H0 H locs) (hA : ∀ q, H0.size ≤ q → A q)
    {n : Int32} {N' : Nat} {a0 : vp_A} (ha : ∀ cA : ClassId, vp_cell cA a0 = arrV cA N' (fun _ => defaultValue ty)) (hn : ¬ n < 0) (hN : n.toNatClampNeg = N') (hbytes : N' * componentBytes ty ≤ 536870912) (hcells : cells + 1 ≤ R.cells) (hslots : slots + N' ≤ R.slots) (hdg : decode cc pc = .ok (.newarray atype, 2))
    (kk : ∀ (q : Nat) (H1 : Heap), va_P D cl (ws ++ [(q, .inl (cK, a0))]) H1 → va_D A (ws ++ [(q, .inl (cK, a0))]) → va_S A H0 H1 locs →
      W p l e R s m args below meth c H1 locs (cells + 1) (slots + N') Q (F0 m (pc + 2) ls (.ref q :: rest))) : W p l e R s m args below meth c H locs cells slots Q (F0 m pc ls (.int n :: rest)) := by
  refine va_newa hexec hb harr hty hK hP hD hS hA ha hn hN hbytes hcells hslots hdg (fun q cA H1 hK1 hP1 hD1 hS1 => ?_)
  have hc : cA = cK := rl_one hp hK1 (k := tys.length) (j := t0) (by simp) (by rw [List.getElem?_append_left (List.getElem?_eq_some_iff.mp ht).1]; exact ht)
  subst hc
  exact kk q H1 hP1 hD1 hS1
end RLN
/-! A heap that has grown, its old cells as they were -/
theorem rl_P.grow {D : va_G} {cl : List vw_C} {w : va_W} {H H1 : Heap} (hold : ∀ (q : Nat) (cell : Cell), H[q]? = some cell → H1[q]? = some cell) (hP : va_P D cl w H) : va_P D cl w H1 := fun k q hq => (hP k q hq).kept (by
  have hl := (hP k q hq).lt
  rw [Array.getElem?_eq_getElem hl]
  exact hold _ _ (Array.getElem?_eq_getElem hl))
theorem rl_S.grow {A : Nat → Prop} {H0 H H1 : Heap} {locs : List Loc} (hold : ∀ (q : Nat) (cell : Cell), H[q]? = some cell → H1[q]? = some cell) (hsz : H.size ≤ H1.size) (hS : va_S A H0 H locs) : va_S A H0 H1 locs :=
  ⟨Nat.le_trans hS.1 hsz, fun q h1 h2 => by
    have h3 := hS.2.1 q h1 h2
    rw [Array.getElem?_eq_getElem h1] at h3 ⊢
    exact hold _ _ h3, hS.2.2⟩
theorem rl_addk {x k : Int32} {n : Int} (hk : k.toInt = n) (h1 : -2147483648 ≤ x.toInt + n) (h2 : x.toInt + n < 2147483648) : (x + k).toInt = x.toInt + n := by
  rw [Int32.toInt_add, hk, Int.bmod_def]
  omega
theorem rl_subk {x k : Int32} {n : Int} (hk : k.toInt = n) (h1 : -2147483648 ≤ x.toInt - n) (h2 : x.toInt - n < 2147483648) : (x - k).toInt = x.toInt - n := by
  rw [Int32.toInt_sub, hk, Int.bmod_def]
  omega
