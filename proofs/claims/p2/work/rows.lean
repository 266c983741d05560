section
-- ===== PART A: goes FIRST, ahead of the names: the tables' words, and 'selects' of the private methods out of them =====
/-- a private method of a class that the tables say can be made, by its rows of tables_1 -/
def lw_okq (q : MethodName × Nat) : Prop := (q.1.cls ≠ "java/lang/invoke/MethodHandle" ∧ q.1.cls ≠ "java/lang/invoke/VarHandle") ∧ Cond.instantiable q.1.cls q.2 ∈ tables_1 ∧ Cond.privateMethod q.1 ∈ tables_1 ∧ Cond.instanceMethod q.1 ∈ tables_1
theorem lw_p0 : lw_okq (⟨"RightsLimit", "goOnTo", "(I)Z"⟩, 8) := ⟨⟨by decide +kernel, by decide +kernel⟩, List.mem_of_getElem? (i := 12) (by decide +kernel), List.mem_of_getElem? (i := 243) (by decide +kernel), List.mem_of_getElem? (i := 244) (by decide +kernel)⟩
theorem lw_p1 : lw_okq (⟨"RightsLimit", "decide", "(IIII)V"⟩, 8) := ⟨⟨by decide +kernel, by decide +kernel⟩, List.mem_of_getElem? (i := 12) (by decide +kernel), List.mem_of_getElem? (i := 251) (by decide +kernel), List.mem_of_getElem? (i := 252) (by decide +kernel)⟩
theorem lw_p2 : lw_okq (⟨"RightsLimit", "firstLimitReached", "(III)I"⟩, 8) := ⟨⟨by decide +kernel, by decide +kernel⟩, List.mem_of_getElem? (i := 12) (by decide +kernel), List.mem_of_getElem? (i := 265) (by decide +kernel), List.mem_of_getElem? (i := 266) (by decide +kernel)⟩
theorem lw_p3 : lw_okq (⟨"RightsLimit", "decideBeyondLimits", "(III)V"⟩, 8) := ⟨⟨by decide +kernel, by decide +kernel⟩, List.mem_of_getElem? (i := 12) (by decide +kernel), List.mem_of_getElem? (i := 283) (by decide +kernel), List.mem_of_getElem? (i := 284) (by decide +kernel)⟩
theorem lw_p4 : lw_okq (⟨"RightsLimit", "mayWaive", "(II)Z"⟩, 8) := ⟨⟨by decide +kernel, by decide +kernel⟩, List.mem_of_getElem? (i := 12) (by decide +kernel), List.mem_of_getElem? (i := 311) (by decide +kernel), List.mem_of_getElem? (i := 312) (by decide +kernel)⟩
theorem lw_p5 : lw_okq (⟨"java/lang/Throwable", "fillInStackTrace", "(I)Ljava/lang/Throwable;"⟩, 6) := ⟨⟨by decide +kernel, by decide +kernel⟩, List.mem_of_getElem? (i := 422) (by decide +kernel), List.mem_of_getElem? (i := 420) (by decide +kernel), List.mem_of_getElem? (i := 421) (by decide +kernel)⟩
theorem lw_p6 : lw_okq (⟨"RightsLimitModel", "isTitle", "(I)Z"⟩, 33) := ⟨⟨by decide +kernel, by decide +kernel⟩, List.mem_of_getElem? (i := 465) (by decide +kernel), List.mem_of_getElem? (i := 582) (by decide +kernel), List.mem_of_getElem? (i := 583) (by decide +kernel)⟩
theorem lw_p7 : lw_okq (⟨"RightsLimitModel", "isNow", "(I)Z"⟩, 33) := ⟨⟨by decide +kernel, by decide +kernel⟩, List.mem_of_getElem? (i := 465) (by decide +kernel), List.mem_of_getElem? (i := 603) (by decide +kernel), List.mem_of_getElem? (i := 604) (by decide +kernel)⟩
theorem lw_p8 : lw_okq (⟨"RightsLimitModel", "decide", "(III)I"⟩, 33) := ⟨⟨by decide +kernel, by decide +kernel⟩, List.mem_of_getElem? (i := 465) (by decide +kernel), List.mem_of_getElem? (i := 607) (by decide +kernel), List.mem_of_getElem? (i := 608) (by decide +kernel)⟩
theorem lw_p9 : lw_okq (⟨"RightsLimitModel", "licenceFor", "(III)I"⟩, 33) := ⟨⟨by decide +kernel, by decide +kernel⟩, List.mem_of_getElem? (i := 465) (by decide +kernel), List.mem_of_getElem? (i := 611) (by decide +kernel), List.mem_of_getElem? (i := 612) (by decide +kernel)⟩
theorem lw_p10 : lw_okq (⟨"RightsLimitModel", "barrier", "(III)I"⟩, 33) := ⟨⟨by decide +kernel, by decide +kernel⟩, List.mem_of_getElem? (i := 465) (by decide +kernel), List.mem_of_getElem? (i := 615) (by decide +kernel), List.mem_of_getElem? (i := 616) (by decide +kernel)⟩
theorem lw_p11 : lw_okq (⟨"RightsLimitModel", "count", "(IIII)I"⟩, 33) := ⟨⟨by decide +kernel, by decide +kernel⟩, List.mem_of_getElem? (i := 465) (by decide +kernel), List.mem_of_getElem? (i := 619) (by decide +kernel), List.mem_of_getElem? (i := 620) (by decide +kernel)⟩
theorem lw_p12 : lw_okq (⟨"RightsLimitModel", "cents", "(I)I"⟩, 33) := ⟨⟨by decide +kernel, by decide +kernel⟩, List.mem_of_getElem? (i := 465) (by decide +kernel), List.mem_of_getElem? (i := 657) (by decide +kernel), List.mem_of_getElem? (i := 658) (by decide +kernel)⟩
def lw_privs_1 : List (MethodName × Nat) := [(⟨"RightsLimit", "goOnTo", "(I)Z"⟩, 8), (⟨"RightsLimit", "decide", "(IIII)V"⟩, 8), (⟨"RightsLimit", "firstLimitReached", "(III)I"⟩, 8), (⟨"RightsLimit", "decideBeyondLimits", "(III)V"⟩, 8), (⟨"RightsLimit", "mayWaive", "(II)Z"⟩, 8), (⟨"java/lang/Throwable", "fillInStackTrace", "(I)Ljava/lang/Throwable;"⟩, 6), (⟨"RightsLimitModel", "isTitle", "(I)Z"⟩, 33), (⟨"RightsLimitModel", "isNow", "(I)Z"⟩, 33), (⟨"RightsLimitModel", "decide", "(III)I"⟩, 33), (⟨"RightsLimitModel", "licenceFor", "(III)I"⟩, 33), (⟨"RightsLimitModel", "barrier", "(III)I"⟩, 33), (⟨"RightsLimitModel", "count", "(IIII)I"⟩, 33), (⟨"RightsLimitModel", "cents", "(I)I"⟩, 33)]
theorem lw_r1 : ∀ q ∈ lw_privs_1, lw_okq q := List.forall_mem_cons.mpr ⟨lw_p0, List.forall_mem_cons.mpr ⟨lw_p1, List.forall_mem_cons.mpr ⟨lw_p2, List.forall_mem_cons.mpr ⟨lw_p3, List.forall_mem_cons.mpr ⟨lw_p4, List.forall_mem_cons.mpr ⟨lw_p5, List.forall_mem_cons.mpr ⟨lw_p6, List.forall_mem_cons.mpr ⟨lw_p7, List.forall_mem_cons.mpr ⟨lw_p8, List.forall_mem_cons.mpr ⟨lw_p9, List.forall_mem_cons.mpr ⟨lw_p10, List.forall_mem_cons.mpr ⟨lw_p11, List.forall_mem_cons.mpr ⟨lw_p12, fun _ h => absurd h List.not_mem_nil⟩⟩⟩⟩⟩⟩⟩⟩⟩⟩⟩⟩⟩
def lw_privs : List (MethodName × Nat) := lw_privs_1
def lw_tbl : List Cond := k2_sels lw_privs ++ tables_1
theorem lw_privs_ok : ∀ q ∈ lw_privs, lw_okq q := lw_r1
end
section
/-! Numbers -/
theorem rl_ile {a b : Int32} (h : a ≤ b) : a.toInt ≤ b.toInt := Int32.le_iff_toInt_le.mp h
theorem rl_ilt {a b : Int32} (h : a < b) : a.toInt < b.toInt := Int32.lt_iff_toInt_lt.mp h
theorem rl_inle {a b : Int32} (h : ¬ a ≤ b) : b.toInt < a.toInt := by
  have h1 : ¬ a.toInt ≤ b.toInt := fun q => h (Int32.le_iff_toInt_le.mpr q)
  omega
theorem rl_inlt {a b : Int32} (h : ¬ a < b) : b.toInt ≤ a.toInt := by
  have h1 : ¬ a.toInt < b.toInt := fun q => h (Int32.lt_iff_toInt_lt.mpr q)
  omega
theorem rl_ieq {a b : Int32} (h : a = b) : a.toInt = b.toInt := by rw [h]
theorem rl_ine {a b : Int32} (h : ¬ a = b) : ¬ a.toInt = b.toInt := fun q => h (Int32.toInt_inj.mp q)
theorem rl_in {x : Int32} {n : Nat} (h0 : 0 ≤ x.toInt) (h1 : x.toInt < n) : vp_in x n := vp_in_iff.mpr ⟨h0, h1⟩
theorem rl_rng (x : Int32) : -2147483648 ≤ x.toInt ∧ x.toInt ≤ 2147483647 := ⟨Int32.le_toInt x, by have := Int32.toInt_lt x; omega⟩
theorem rl_inc {x : Int32} (h : x.toInt < 2147483647) : (x + 1).toInt = x.toInt + 1 := by
  rw [Int32.toInt_add]
  have h1 := rl_rng x
  have h2 : (1 : Int32).toInt = 1 := by decide
  rw [h2, Int.bmod_def]
  omega
theorem rl_dec {x : Int32} (h : -2147483648 < x.toInt) : (x - 1).toInt = x.toInt - 1 := by
  rw [Int32.toInt_sub]
  have h1 := rl_rng x
  have h2 : (1 : Int32).toInt = 1 := by decide
  rw [h2, Int.bmod_def]
  omega
/-! A method's start: the world w, its classes, nest words nw -/
def rl_B (D : va_G) (cl : List vw_C) (tys : List (ClassId × FieldType)) (nw : List Cond) (w : va_W) (sz : Nat) (U : State) : Prop := U.heap.size = sz ∧ va_P D cl w U.heap ∧ va_K D cl tys U ∧ va_D (fun _ => True) w ∧ ∀ x ∈ nw, va_Nw x U
def rl_nest (x : Cond) : Prop := ∃ (a : String) (i : Nat) (y : MethodName) (h : String), x = .methodLinkNest a i y h
theorem rl_B.pre {D : va_G} {cl : List vw_C} {tys : List (ClassId × FieldType)} {nw : List Cond} {w : va_W} {s : State} {H : Heap} {A : Nat → Prop} {av : List Value} (hnw : ∀ x ∈ nw, rl_nest x) (hP : va_P D cl w H) (hK : va_K D cl tys s) (hD : va_D A w) (hN : ∀ x ∈ nw, va_Nw x s) : PreS s H (va_Pc av (rl_B D cl tys nw w H.size)) av := by
  refine ⟨fun a U g mk q => ?_, fun U hU hW => ⟨rfl, by rw [hU], by rw [hU]; exact hP, va_K.moved hW.alike hK, hD.weaken (fun _ _ _ _ => trivial), fun x hx => ?_⟩⟩
  · obtain ⟨q0, q1, qP, qK, qD, qN⟩ := q
    exact ⟨q0, q1, qP, va_K.moved (u := U) (U := U.calling g mk a) (Vm.Alike.refl U.vm) qK, qD, fun x hx => by
      obtain ⟨c1, i1, y1, h1, rfl⟩ := hnw x hx
      exact va_Nw.same (u := U) rfl rfl (qN _ hx)⟩
  · obtain ⟨c1, i1, y1, h1, rfl⟩ := hnw x hx
    exact va_Nw.warmM hW (hN _ hx)
/-! Contracts: an int (or boolean) answered; nothing answered -/
abbrev rl_Ci {S : Type} (l : Launch) (y : MethodName) (ws : List Cond) (rm : Room) (D : va_G) (cl : List vw_C) (tys : List (ClassId × FieldType)) (nw : List Cond) (av : List Value) (w : va_W) (sz : Nat) (post : Int32 → S → Prop) (w' : S → va_W) (mc ms : Nat) : Prop :=
  Met l y ws rm (va_Pc av (rl_B D cl tys nw w sz)) (va_Qi post (fun u t => va_P D cl (w' u) t.heap ∧ va_D (va_A w sz) (w' u)) (va_A w sz)) mc ms (va_A w sz)
abbrev rl_Cv {S : Type} (l : Launch) (y : MethodName) (ws : List Cond) (rm : Room) (D : va_G) (cl : List vw_C) (tys : List (ClassId × FieldType)) (nw : List Cond) (av : List Value) (w : va_W) (sz : Nat) (post : S → Prop) (w' : S → va_W) (mc ms : Nat) : Prop :=
  Met l y ws rm (va_Pc av (rl_B D cl tys nw w sz)) (va_Qv post (fun u t => va_P D cl (w' u) t.heap ∧ va_D (va_A w sz) (w' u)) (va_A w sz)) mc ms (va_A w sz)
/-! A method's entry -/
theorem rl_met {l : Launch} {y : MethodName} {ws ws' : List Cond} {rm : Room} {D : va_G} {cl : List vw_C} {tys : List (ClassId × FieldType)} {nw : List Cond} {av : List Value} {w : va_W} {sz : Nat} {Qc : (Nat → Prop) → Array Value → State → Outcome → State → Prop} {mc ms : Nat} {cc : ByteArray} {maxL : Nat} {ret : Option FieldType}
    (hy : plainName y.cls = true) (hw : ws = Cond.code y cc maxL ret :: ws') (hlen : (lg_sl av).length ≤ maxL)
    (body : ∀ (p : Program) (e : Env) (s : State) (m : MethodId) (below : List Frame) (meth : Method) (c : Code) (A : Nat → Prop) (ls : Array Slot), p.tables.exec = Jvm.exec → c.code = cc → meth.sig.returnType = ret → c.maxLocals = maxL → s.vm.findClass y.cls = some m.cls → (∀ x ∈ ws, x.before av.toArray s = true) → meth.locks = false → meth.name = y.name →
      va_P D cl w s.heap → va_K D cl tys s → va_D A w → va_S A s.heap s.heap [] → (∀ q : Nat, s.heap.size ≤ q → A q) → (∀ x ∈ nw, va_Nw x s) → lv_has ls maxL (lv_args 0 av) →
      W p l e rm s m av.toArray below meth c s.heap [] 0 0 (MQ below (Qc A) av.toArray s mc ms A) (F0 m 0 ls [])) :
    Met l y ws rm (va_Pc av (rl_B D cl tys nw w sz)) (Qc (va_A w sz)) mc ms (va_A w sz) := by
  refine Met.ofW (cc := cc) (maxL := maxL) (ret := ret) hy hw ?_
  intro p e s m args below meth c s₁ B hml hv
  obtain ⟨rfl, hsz, hP, hK, hD0, hN⟩ := hv
  subst hsz
  have hl := lv_entry av (n := maxL) hlen
  rw [lg_entry_eq]
  exact body p e s m below meth c _ _ B.exec B.bytes B.returns hml (findClass_of_methodNamed B.named) (atoms_spec (ws := ws) B.pre) B.notSynchronized (name_of_methodNamed B.named B.method).1 hP hK (hD0.self (sz := s.heap.size)) va_S.rf (fun q h => Or.inr h) hN hl
theorem rl_meti {S : Type} {post : Int32 → S → Prop} {w' : S → va_W} {l : Launch} {y : MethodName} {ws ws' : List Cond} {rm : Room} {D : va_G} {cl : List vw_C} {tys : List (ClassId × FieldType)} {nw : List Cond} {av : List Value} {w : va_W} {sz : Nat} {mc ms : Nat} {cc : ByteArray} {maxL : Nat} {ret : Option FieldType}
    (hy : plainName y.cls = true) (hw : ws = Cond.code y cc maxL ret :: ws') (hlen : (lg_sl av).length ≤ maxL)
    (body : ∀ (p : Program) (e : Env) (s : State) (m : MethodId) (below : List Frame) (meth : Method) (c : Code) (A : Nat → Prop) (ls : Array Slot), p.tables.exec = Jvm.exec → c.code = cc → meth.sig.returnType = ret → c.maxLocals = maxL → s.vm.findClass y.cls = some m.cls → (∀ x ∈ ws, x.before av.toArray s = true) → meth.locks = false → meth.name = y.name →
      va_P D cl w s.heap → va_K D cl tys s → va_D A w → va_S A s.heap s.heap [] → (∀ q : Nat, s.heap.size ≤ q → A q) → (∀ x ∈ nw, va_Nw x s) → lv_has ls maxL (lv_args 0 av) →
      W p l e rm s m av.toArray below meth c s.heap [] 0 0 (MQ below (va_Qi post (fun u t => va_P D cl (w' u) t.heap ∧ va_D A (w' u)) A) av.toArray s mc ms A) (F0 m 0 ls [])) :
    rl_Ci l y ws rm D cl tys nw av w sz post w' mc ms := rl_met (Qc := fun A => va_Qi post (fun u t => va_P D cl (w' u) t.heap ∧ va_D A (w' u)) A) hy hw hlen body
theorem rl_metv {S : Type} {post : S → Prop} {w' : S → va_W} {l : Launch} {y : MethodName} {ws ws' : List Cond} {rm : Room} {D : va_G} {cl : List vw_C} {tys : List (ClassId × FieldType)} {nw : List Cond} {av : List Value} {w : va_W} {sz : Nat} {mc ms : Nat} {cc : ByteArray} {maxL : Nat} {ret : Option FieldType}
    (hy : plainName y.cls = true) (hw : ws = Cond.code y cc maxL ret :: ws') (hlen : (lg_sl av).length ≤ maxL)
    (body : ∀ (p : Program) (e : Env) (s : State) (m : MethodId) (below : List Frame) (meth : Method) (c : Code) (A : Nat → Prop) (ls : Array Slot), p.tables.exec = Jvm.exec → c.code = cc → meth.sig.returnType = ret → c.maxLocals = maxL → s.vm.findClass y.cls = some m.cls → (∀ x ∈ ws, x.before av.toArray s = true) → meth.locks = false → meth.name = y.name →
      va_P D cl w s.heap → va_K D cl tys s → va_D A w → va_S A s.heap s.heap [] → (∀ q : Nat, s.heap.size ≤ q → A q) → (∀ x ∈ nw, va_Nw x s) → lv_has ls maxL (lv_args 0 av) →
      W p l e rm s m av.toArray below meth c s.heap [] 0 0 (MQ below (va_Qv post (fun u t => va_P D cl (w' u) t.heap ∧ va_D A (w' u)) A) av.toArray s mc ms A) (F0 m 0 ls [])) :
    rl_Cv l y ws rm D cl tys nw av w sz post w' mc ms := rl_met (Qc := fun A => va_Qv post (fun u t => va_P D cl (w' u) t.heap ∧ va_D A (w' u)) A) hy hw hlen body
/-! A method that changes nothing -/
def rl_BR (D : va_G) (cl : List vw_C) (tys : List (ClassId × FieldType)) (nw : List Cond) (w : va_W) (H0 : Heap) (U : State) : Prop := U.heap = H0 ∧ va_P D cl w U.heap ∧ va_K D cl tys U ∧ ∀ x ∈ nw, va_Nw x U
theorem rl_BR.pre {D : va_G} {cl : List vw_C} {tys : List (ClassId × FieldType)} {nw : List Cond} {w : va_W} {s : State} {H : Heap} {av : List Value} (hnw : ∀ x ∈ nw, rl_nest x) (hP : va_P D cl w H) (hK : va_K D cl tys s) (hN : ∀ x ∈ nw, va_Nw x s) : PreS s H (va_Pc av (rl_BR D cl tys nw w H)) av := by
  refine ⟨fun a U g mk q => ?_, fun U hU hW => ⟨rfl, hU, by rw [hU]; exact hP, va_K.moved hW.alike hK, fun x hx => ?_⟩⟩
  · obtain ⟨q0, q1, qP, qK, qN⟩ := q
    exact ⟨q0, q1, qP, va_K.moved (u := U) (U := U.calling g mk a) (Vm.Alike.refl U.vm) qK, fun x hx => by
      obtain ⟨c1, i1, y1, h1, rfl⟩ := hnw x hx
      exact va_Nw.same (u := U) rfl rfl (qN _ hx)⟩
  · obtain ⟨c1, i1, y1, h1, rfl⟩ := hnw x hx
    exact va_Nw.warmM hW (hN _ hx)
abbrev rl_Ri (l : Launch) (y : MethodName) (ws : List Cond) (rm : Room) (D : va_G) (cl : List vw_C) (tys : List (ClassId × FieldType)) (nw : List Cond) (av : List Value) (w : va_W) (H0 : Heap) (post : Int32 → Prop) : Prop :=
  Met l y ws rm (va_Pc av (rl_BR D cl tys nw w H0)) (va_Qi (S := Unit) (fun r _ => post r) (fun _ t => t.heap = H0) (fun _ => False)) 0 0 (fun _ => False)
theorem rl_metr {post : Int32 → Prop} {l : Launch} {y : MethodName} {ws ws' : List Cond} {rm : Room} {D : va_G} {cl : List vw_C} {tys : List (ClassId × FieldType)} {nw : List Cond} {av : List Value} {w : va_W} {H0 : Heap} {cc : ByteArray} {maxL : Nat} {ret : Option FieldType}
    (hy : plainName y.cls = true) (hw : ws = Cond.code y cc maxL ret :: ws') (hlen : (lg_sl av).length ≤ maxL)
    (body : ∀ (p : Program) (e : Env) (s : State) (m : MethodId) (below : List Frame) (meth : Method) (c : Code) (ls : Array Slot), p.tables.exec = Jvm.exec → c.code = cc → meth.sig.returnType = ret → c.maxLocals = maxL → s.vm.findClass y.cls = some m.cls → (∀ x ∈ ws, x.before av.toArray s = true) → meth.locks = false →
      va_P D cl w s.heap → va_K D cl tys s → va_S (fun _ => False) s.heap s.heap [] → (∀ x ∈ nw, va_Nw x s) → lv_has ls maxL (lv_args 0 av) →
      W p l e rm s m av.toArray below meth c s.heap [] 0 0 (MQ below (va_Qi (S := Unit) (fun r _ => post r) (fun _ t => t.heap = s.heap) (fun _ => False)) av.toArray s 0 0 (fun _ => False)) (F0 m 0 ls [])) :
    rl_Ri l y ws rm D cl tys nw av w H0 post := by
  refine Met.ofW (cc := cc) (maxL := maxL) (ret := ret) hy hw ?_
  intro p e s m args below meth c s₁ B hml hv
  obtain ⟨rfl, hH, hP, hK, hN⟩ := hv
  subst hH
  have hl := lv_entry av (n := maxL) hlen
  rw [lg_entry_eq]
  exact body p e s m below meth c _ B.exec B.bytes B.returns hml (findClass_of_methodNamed B.named) (atoms_spec (ws := ws) B.pre) B.notSynchronized hP hK va_S.rf hN hl
/-! A world in two parts -/
theorem rl_P.l {D : va_G} {cl : List vw_C} {w1 w2 : va_W} {H : Heap} (h : va_P D cl (w1 ++ w2) H) : va_P D cl w1 H := fun k q hq => h k q (by rw [List.getElem?_append_left (List.getElem?_eq_some_iff.mp hq).1]; exact hq)
theorem rl_P.r {D : va_G} {cl : List vw_C} {w1 w2 : va_W} {H : Heap} (h : va_P D cl (w1 ++ w2) H) : va_P D cl w2 H := fun k q hq => h (w1.length + k) q (by rw [List.getElem?_append_right (by omega)]; simpa using hq)
theorem rl_P.swap {D : va_G} {cl : List vw_C} {w1 w2 : va_W} {H : Heap} (h : va_P D cl (w1 ++ w2) H) : va_P D cl (w2 ++ w1) H := va_P.app (rl_P.r h) (rl_P.l h)
theorem rl_D.l {A : Nat → Prop} {w1 w2 : va_W} (h : va_D A (w1 ++ w2)) : va_D A w1 :=
  ⟨fun i j p q hi hj e => h.1 i j p q (by rw [List.getElem?_append_left (List.getElem?_eq_some_iff.mp hi).1]; exact hi) (by rw [List.getElem?_append_left (List.getElem?_eq_some_iff.mp hj).1]; exact hj) e, fun k q hq => h.2 k q (by rw [List.getElem?_append_left (List.getElem?_eq_some_iff.mp hq).1]; exact hq)⟩
theorem rl_D.r {A : Nat → Prop} {w1 w2 : va_W} (h : va_D A (w1 ++ w2)) : va_D A w2 := by
  have at2 : ∀ (k : Nat) (q : Nat × va_E), w2[k]? = some q → (w1 ++ w2)[w1.length + k]? = some q := fun k q hq => by
    rw [List.getElem?_append_right (by omega)]; simpa using hq
  exact ⟨fun i j p q hi hj e => by have := h.1 _ _ p q (at2 i p hi) (at2 j q hj) e; omega, fun k q hq => h.2 _ q (at2 k q hq)⟩
theorem rl_D.x {A : Nat → Prop} {w1 w2 : va_W} (h : va_D A (w1 ++ w2)) (i j : Nat) (p q : Nat × va_E) (hi : w1[i]? = some p) (hj : w2[j]? = some q) : p.1 ≠ q.1 := fun e => by
  have hl := (List.getElem?_eq_some_iff.mp hi).1
  have := h.1 i (w1.length + j) p q (by rw [List.getElem?_append_left hl]; exact hi) (by rw [List.getElem?_append_right (by omega)]; simpa using hj) e
  omega
theorem rl_D.swap {A : Nat → Prop} {w1 w2 : va_W} (h : va_D A (w1 ++ w2)) : va_D A (w2 ++ w1) := va_D.app (rl_D.r h) (rl_D.l h) (fun i j x y hx hy hxy => rl_D.x h j i y x hy hx hxy.symm)
theorem rl_join {A0 : Nat → Prop} {D : va_G} {cl : List vw_C} {w1 w2 w1' : va_W} {H H1 : Heap} (hP : va_P D cl (w1 ++ w2) H) (hD : va_D A0 (w1 ++ w2)) (hk : ∀ q : Nat, q < H.size → ¬ va_A w1 H.size q → H1[q]? = H[q]?) (hF : ∀ q, va_A w1 H.size q → A0 q) (hP1 : va_P D cl w1' H1) (hD1 : va_D (va_A w1 H.size) w1') :
    va_P D cl (w1' ++ w2) H1 ∧ va_D A0 (w1' ++ w2) := by
  have apart : ∀ (k : Nat) (q : Nat × va_E), w2[k]? = some q → q.1 < H.size ∧ ¬ va_A w1 H.size q.1 := by
    intro k q hq
    have hl := (rl_P.r hP k q hq).lt
    refine ⟨hl, fun h => ?_⟩
    rcases h with ⟨k2, e, h⟩ | h
    · exact rl_D.x hD k2 k (q.1, e) q h hq rfl
    · omega
  refine ⟨va_P.app hP1 (fun k q hq => ((rl_P.r hP) k q hq).kept (hk q.1 (apart k q hq).1 (apart k q hq).2)), va_D.app (hD1.weaken (fun k q _ h => hF q.1 h)) (rl_D.r hD) (fun i j x y hx hy hxy => ?_)⟩
  exact (apart j y hy).2 (by rw [← hxy]; exact hD1.2 i x hx)
theorem rl_free {A0 : Nat → Prop} {w1 w2 : va_W} {H0 H : Heap} {locs : List Loc} (hD : va_D A0 (w1 ++ w2)) (hS : va_S A0 H0 H locs) (hA : ∀ q, H0.size ≤ q → A0 q) : ∀ q, va_A w1 H.size q → A0 q := by
  intro q h
  rcases h with ⟨k, e, h⟩ | h
  · exact (rl_D.l hD).2 k (q, e) h
  · exact hA q (Nat.le_trans hS.1 h)
/-! Calls: the callee's world is the first part w1 of the caller's -/
section RLC
variable {p : Program} {l : Launch} {e : Env} {R : Room} {s : State} {m : MethodId} {args : Array Value} {below : List Frame} {meth : Method} {c : Code} {H H0 : Heap} {locs : List Loc} {cells slots : Nat} {Q : State → Prop}
variable {pc : Nat} {ls : Array Slot} {rest st0 : List Value} {av : List Value} {A0 : Nat → Prop} {mc ms : Nat}
variable {D : va_G} {cl : List vw_C} {w1 w2 : va_W} {S : Type} {w' : S → va_W}
theorem rl_calli {post : Int32 → S → Prop} (hP : va_P D cl (w1 ++ w2) H) (hD : va_D A0 (w1 ++ w2)) (hS : va_S A0 H0 H locs) (hA : ∀ q, H0.size ≤ q → A0 q)
    (hr : va_Run p l e R s m args below meth c H locs cells slots mc ms (F0 m pc ls st0) rest (va_Qi post (fun u t => va_P D cl (w' u) t.heap ∧ va_D (va_A w1 H.size) (w' u)) (va_A w1 H.size) av.toArray) (va_A w1 H.size))
    (kk : ∀ (r : Int32) (u : S) (H1 : Heap) (locs1 : List Loc), post r u → va_P D cl (w' u ++ w2) H1 → va_D A0 (w' u ++ w2) → va_S A0 H0 H1 locs1 → W p l e R s m args below meth c H1 locs1 (cells + mc) (slots + ms) Q (F0 m (pc + 3) ls (.int r :: rest))) : W p l e R s m args below meth c H locs cells slots Q (F0 m pc ls st0) := by
  have hF := rl_free hD hS hA
  refine va_calli hr hS (fun q _ h => hF q h) hF (fun r u t H1 locs1 ht hvm hw hB hz1 hk1 hS1 => ?_)
  rw [ht] at hB
  obtain ⟨hP2, hD2⟩ := rl_join hP hD hk1 hF hB.1 hB.2
  exact kk r u H1 locs1 hw hP2 hD2 hS1
theorem rl_callv {post : S → Prop} (hP : va_P D cl (w1 ++ w2) H) (hD : va_D A0 (w1 ++ w2)) (hS : va_S A0 H0 H locs) (hA : ∀ q, H0.size ≤ q → A0 q)
    (hr : va_Run p l e R s m args below meth c H locs cells slots mc ms (F0 m pc ls st0) rest (va_Qv post (fun u t => va_P D cl (w' u) t.heap ∧ va_D (va_A w1 H.size) (w' u)) (va_A w1 H.size) av.toArray) (va_A w1 H.size))
    (kk : ∀ (u : S) (H1 : Heap) (locs1 : List Loc), post u → va_P D cl (w' u ++ w2) H1 → va_D A0 (w' u ++ w2) → va_S A0 H0 H1 locs1 → W p l e R s m args below meth c H1 locs1 (cells + mc) (slots + ms) Q (F0 m (pc + 3) ls rest)) : W p l e R s m args below meth c H locs cells slots Q (F0 m pc ls st0) := by
  have hF := rl_free hD hS hA
  refine va_callv hr hS (fun q _ h => hF q h) hF (fun u t H1 locs1 ht hvm hw hB hz1 hk1 hS1 => ?_)
  rw [ht] at hB
  obtain ⟨hP2, hD2⟩ := rl_join hP hD hk1 hF hB.1 hB.2
  exact kk u H1 locs1 hw hP2 hD2 hS1
end RLC
section RLC0
variable {p : Program} {l : Launch} {e : Env} {R : Room} {s : State} {m : MethodId} {args : Array Value} {below : List Frame} {meth : Method} {c : Code} {H H0 : Heap} {locs : List Loc} {cells slots : Nat} {Q : State → Prop}
variable {pc : Nat} {ls : Array Slot} {rest st0 : List Value} {av : List Value} {A0 : Nat → Prop}
variable {D : va_G} {cl : List vw_C} {w1 : va_W} {S : Type} {w' : S → va_W}
theorem rl_calli0 {post : Int32 → S → Prop} (hP : va_P D cl w1 H) (hD : va_D A0 w1) (hS : va_S A0 H0 H locs) (hA : ∀ q, H0.size ≤ q → A0 q)
    (hr : va_Run p l e R s m args below meth c H locs cells slots 0 0 (F0 m pc ls st0) rest (va_Qi post (fun u t => va_P D cl (w' u) t.heap ∧ va_D (va_A w1 H.size) (w' u)) (va_A w1 H.size) av.toArray) (va_A w1 H.size))
    (kk : ∀ (r : Int32) (u : S) (H1 : Heap) (locs1 : List Loc), post r u → va_P D cl (w' u) H1 → va_D A0 (w' u) → va_S A0 H0 H1 locs1 → W p l e R s m args below meth c H1 locs1 cells slots Q (F0 m (pc + 3) ls (.int r :: rest))) : W p l e R s m args below meth c H locs cells slots Q (F0 m pc ls st0) :=
  rl_calli (w2 := []) (by rw [List.append_nil]; exact hP) (by rw [List.append_nil]; exact hD) hS hA hr (fun r u H1 locs1 h1 h2 h3 h4 => kk r u H1 locs1 h1 (by rw [List.append_nil] at h2; exact h2) (by rw [List.append_nil] at h3; exact h3) h4)
theorem rl_callv0 {post : S → Prop} (hP : va_P D cl w1 H) (hD : va_D A0 w1) (hS : va_S A0 H0 H locs) (hA : ∀ q, H0.size ≤ q → A0 q)
    (hr : va_Run p l e R s m args below meth c H locs cells slots 0 0 (F0 m pc ls st0) rest (va_Qv post (fun u t => va_P D cl (w' u) t.heap ∧ va_D (va_A w1 H.size) (w' u)) (va_A w1 H.size) av.toArray) (va_A w1 H.size))
    (kk : ∀ (u : S) (H1 : Heap) (locs1 : List Loc), post u → va_P D cl (w' u) H1 → va_D A0 (w' u) → va_S A0 H0 H1 locs1 → W p l e R s m args below meth c H1 locs1 cells slots Q (F0 m (pc + 3) ls rest)) : W p l e R s m args below meth c H locs cells slots Q (F0 m pc ls st0) :=
  rl_callv (w2 := []) (by rw [List.append_nil]; exact hP) (by rw [List.append_nil]; exact hD) hS hA hr (fun u H1 locs1 h1 h2 h3 h4 => kk u H1 locs1 h1 (by rw [List.append_nil] at h2; exact h2) (by rw [List.append_nil] at h3; exact h3) h4)
/-- a call that changes nothing -/
theorem rl_callr {post : Int32 → Prop} (hS : va_S A0 H0 H locs)
    (hr : va_Run p l e R s m args below meth c H locs cells slots 0 0 (F0 m pc ls st0) rest (va_Qi (S := Unit) (fun r _ => post r) (fun _ t => t.heap = H) (fun _ => False) av.toArray) (fun _ => False))
    (kk : ∀ (r : Int32) (locs1 : List Loc), post r → va_S A0 H0 H locs1 → W p l e R s m args below meth c H locs1 cells slots Q (F0 m (pc + 3) ls (.int r :: rest))) : W p l e R s m args below meth c H locs cells slots Q (F0 m pc ls st0) := by
  refine va_calli hr hS (fun q _ h => h.elim) (fun q h => h.elim) (fun r u t H1 locs1 ht hvm hw hB hz1 hk1 hS1 => ?_)
  have e9 : H1 = H := ht.symm.trans hB
  rw [e9] at hS1 ⊢
  exact kk r locs1 hw hS1
end RLC0
theorem rl_P0 {D : va_G} {cl : List vw_C} {H : Heap} : va_P D cl [] H := fun k q h => by simp at h
theorem rl_D0 {A : Nat → Prop} : va_D A [] := ⟨fun i j p q h => by simp at h, fun k q h => by simp at h⟩
/-! Array classes -/
theorem rl_arr {s : State} {args : Array Value} {ty : FieldType} (hp : ∀ C, ty ≠ .object C) (h : (Cond.arrayClass ty).before args s = true) : ∃ cA : ClassId, ArrOfT s cA ty ∧ va_RA s cA ty := by
  obtain ⟨cA, kA, comp, h1, h2, h3⟩ := Cond.arrayClass_spec h
  refine ⟨cA, fun n z => ⟨fun k h => (by cases h), kA, h2, comp, h3⟩, ?_⟩
  cases ty <;> first | exact h1 | exact absurd rfl (hp _)
theorem rl_one {s : State} {D : va_G} {cl : List vw_C} {tys : List (ClassId × FieldType)} {k j : Nat} {cA cB : ClassId} {ty : FieldType} (hp : ∀ C, ty ≠ .object C) (hK : va_K D cl tys s) (h1 : tys[k]? = some (cA, ty)) (h2 : tys[j]? = some (cB, ty)) : cA = cB := by
  have a1 := (hK.2 k _ h1).2
  have a2 := (hK.2 j _ h2).2
  cases ty <;> first | exact Option.some.inj (a1.symm.trans a2) | exact absurd rfl (hp _)
section RLN
variable {p : Program} {l : Launch} {e : Env} {R : Room} {s : State} {m : MethodId} {args : Array Value} {below : List Frame} {meth : Method} {c : Code} {H : Heap} {locs : List Loc} {cells slots : Nat} {Q : State → Prop}
variable {cc : ByteArray} {pc : Nat} {ls : Array Slot} {rest : List Value} {D : va_G} {cl : List vw_C} {A : Nat → Prop} {tys : List (ClassId × FieldType)} {ws : va_W} {H0 : Heap}
/-- a new array, of the kind that the world knows -/
theorem rl_newa (hexec : p.tables.exec = Jvm.exec) (hb : c.code = cc) {atype : ArrayType} (harr : (Cond.arrayClass (newarray.typeOf atype)).before args s = true) {ty : FieldType} (hty : newarray.typeOf atype = ty) (hp : ∀ C, ty ≠ .object C) (t0 : Nat) {cK : ClassId} (ht : tys[t0]? = some (cK, ty)) (hK : va_K D cl tys s) (hP : va_P D cl ws H) (hD : va_D A ws) (hS : va_S A H0 H locs) (hA : ∀ q, H0.size ≤ q → A q)
    {n : Int32} {N' : Nat} {a0 : vp_A} (ha : ∀ cA : ClassId, vp_cell cA a0 = arrV cA N' (fun _ => defaultValue ty)) (hn : ¬ n < 0) (hN : n.toNatClampNeg = N') (hbytes : N' * componentBytes ty ≤ 536870912) (hcells : cells + 1 ≤ R.cells) (hslots : slots + N' ≤ R.slots) (hdg : decode cc pc = .ok (.newarray atype, 2))
    (kk : ∀ (q : Nat) (H1 : Heap), va_P D cl (ws ++ [(q, .inl (cK, a0))]) H1 → va_D A (ws ++ [(q, .inl (cK, a0))]) → va_S A H0 H1 locs →
      W p l e R s m args below meth c H1 locs (cells + 1) (slots + N') Q (F0 m (pc + 2) ls (.ref q :: rest))) : W p l e R s m args below meth c H locs cells slots Q (F0 m pc ls (.int n :: rest)) := by
  refine va_newa hexec hb harr hty hK hP hD hS hA ha hn hN hbytes hcells hslots hdg (fun q cA H1 hK1 hP1 hD1 hS1 => ?_)
  have hc : cA = cK := rl_one hp hK1 (k := tys.length) (j := t0) (by simp) (by rw [List.getElem?_append_left (List.getElem?_eq_some_iff.mp ht).1]; exact ht)
  subst hc
  exact kk q H1 hP1 hD1 hS1
end RLN
/-! A heap that has grown, its old cells as they were -/
theorem rl_P.grow {D : va_G} {cl : List vw_C} {w : va_W} {H H1 : Heap} (hold : ∀ (q : Nat) (cell : Cell), H[q]? = some cell → H1[q]? = some cell) (hP : va_P D cl w H) : va_P D cl w H1 := fun k q hq => (hP k q hq).kept (by
  have hl := (hP k q hq).lt
  rw [Array.getElem?_eq_getElem hl]
  exact hold _ _ (Array.getElem?_eq_getElem hl))
theorem rl_S.grow {A : Nat → Prop} {H0 H H1 : Heap} {locs : List Loc} (hold : ∀ (q : Nat) (cell : Cell), H[q]? = some cell → H1[q]? = some cell) (hsz : H.size ≤ H1.size) (hS : va_S A H0 H locs) : va_S A H0 H1 locs :=
  ⟨Nat.le_trans hS.1 hsz, fun q h1 h2 => by
    have h3 := hS.2.1 q h1 h2
    rw [Array.getElem?_eq_getElem h1] at h3 ⊢
    exact hold _ _ h3, hS.2.2⟩
theorem rl_addk {x k : Int32} {n : Int} (hk : k.toInt = n) (h1 : -2147483648 ≤ x.toInt + n) (h2 : x.toInt + n < 2147483648) : (x + k).toInt = x.toInt + n := by
  rw [Int32.toInt_add, hk, Int.bmod_def]
  omega
theorem rl_subk {x k : Int32} {n : Int} (hk : k.toInt = n) (h1 : -2147483648 ≤ x.toInt - n) (h2 : x.toInt - n < 2147483648) : (x - k).toInt = x.toInt - n := by
  rw [Int32.toInt_sub, hk, Int.bmod_def]
  omega
end
section
/-! NoSuchElementException(String), no traces kept: the constructor's chain, then athrow -/
def rl_NSE : String := "java/util/NoSuchElementException"
def rl_RTE : String := "java/lang/RuntimeException"
def rl_EXC : String := "java/lang/Exception"
def rl_nse : ByteArray := ⟨#[0x2a, 0x2b, 0xb7, 0x00, 0x0d, 0xb1]⟩
def rl_atoms (own : String) (ic : Nat) : List Cond :=
  Bundle.throwableAtoms ++ Bundle.throwableSAtoms ++ (Bundle.passSAtoms rl_NSE rl_RTE 13 rl_nse ++ Bundle.chainSAtoms rl_RTE [rl_EXC]) ++
  [.methodLink own ic (Bundle.initS rl_NSE), .instantiable rl_NSE 6, .selects rl_NSE Bundle.tFill0 Bundle.tFill0, .selects rl_NSE Bundle.tFill Bundle.tFill,
   .lays rl_NSE Bundle.tN "cause" "Ljava/lang/Throwable;", .lays rl_NSE Bundle.tN "stackTrace" Bundle.steD, .lays rl_NSE Bundle.tN "suppressedExceptions" Bundle.listD, .lays rl_NSE Bundle.tN "detailMessage" "Ljava/lang/String;",
   .isRef (.static Bundle.tN "UNASSIGNED_STACK" Bundle.steD), .isRef (.static Bundle.tN "SUPPRESSED_SENTINEL" Bundle.listD),
   .fieldLink Bundle.tN 198 Bundle.tN "backtrace" "Ljava/lang/Object;", .lays Bundle.tN Bundle.tN "backtrace" "Ljava/lang/Object;", .lays rl_NSE Bundle.tN "backtrace" "Ljava/lang/Object;"]
section RLX
variable {p : Program} {l : Launch} {e : Env} {R : Room} {s : State} {m : MethodId} {args : Array Value} {below : List Frame} {meth : Method} {c : Code} {V : State} {cells slots : Nat}
set_option maxHeartbeats 4000000 in
theorem rl_ctorThrow (X : Stand p l e R s m args below meth c V [] cells slots) (hexec : p.tables.exec = Jvm.exec) (htr : e.platform.stackTraces = false) {own : String} {ic : Nat} (hown : s.vm.findClass own = some m.cls)
    (h : ∀ a ∈ rl_atoms own ic, a.before args s = true) {a : Addr} {cX : ClassId} {kX : Class} (hfX : s.vm.findClass rl_NSE = some cX) (hkX : s.vm.classes[cX]? = some kX) (hcell : V.heap[a]? = some (freshCell cX kX)) (hnew : s.heap.size ≤ a) {msg : Value} (hmsg : msg.isRef = true)
    {g : JFrame} (hg : g.method = m) (hsize : g.locals.size = c.maxLocals) (hlocked : g.locked = none) (hentered : g.entered = []) {rest : List Value} (hstack : g.stack = msg :: .ref a :: .ref a :: rest)
    (hd6 : decode c.code g.pc = .ok (.invokespecial ic, 3)) (hd9 : decode c.code (g.pc + 3) = .ok (.athrow, 1)) (hout : ∀ x ∈ c.exceptionTable.toList, covers x (g.pc + 3) = false)
    (hRf : 5 < R.frames) (hRl : 2 * g.monitorRoom + ((Value.ref a :: rest).map fun v => v.category).sum + 81 ≤ R.locals) (hlocks : meth.locks = false) :
    ∃ U : State, Steps p.tables e below (V.setTop g) U ∧ U.status = .running ∧ Ended U below (.threw a) ∧ s.WarmedH U.vm ∧ s.sameButNew ({ U with vm := s.vm } : State) [] cells slots ∧ ∃ ce, U.heap[a]? = some ce ∧ ce.vm = .none ∧ ce.cls = cX := by
  have howns : e.platform.frameOwnsMonitors = true := by rw [X.admits.platform]
  have hfin : e.platform.finalization = false := by rw [X.admits.platform]
  have hpl : e.platform.magicAccessors = ({} : Platform).magicAccessors := by rw [X.admits.platform]
  have a' : ∀ x, x ∈ rl_atoms own ic → x.holds args s none s [] = true := fun x hx => h x hx
  obtain ⟨T, Z0, L, -, Y⟩ := ThrowableC.of_atoms (args := args) howns hfin hpl (fun x hx => h x (by simp [rl_atoms, hx]))
  obtain ⟨Z, M, LZ, LM, hnZ⟩ := Init0T.ofS_atoms (args := args) hpl L Y (fun x hx => h x (by simp [rl_atoms, hx]))
  obtain ⟨P1, L1, hP1m, hs1⟩ := PassC.ofS_atoms (args := args) (s := s) hpl (X := rl_NSE) (Y := rl_RTE) (index := 13) (bytes := rl_nse) (by decide) (by decide) (by decide +kernel) (by decide +kernel) (by decide +kernel) (by decide +kernel) (fun x hx => h x (by simp [rl_atoms, hx]))
  obtain ⟨P2, Ps, hlen, L2, hL, hm2, hlink2, hlink⟩ := Bundle.chainS (args := args) hpl hnZ [rl_EXC] rl_RTE (by decide) (by decide) (fun x hx => h x (by simp [rl_atoms, hx]))
  have hlink1 : P1.sup = firstOf (Z.m T.toThrowableT) ((P2 :: Ps).map (·.toPassT)) := Option.some.inj (hs1.symm.trans hm2)
  have hfound : s.vm.findClass rl_NSE = some P1.m.cls := findClass_of_methodNamed hP1m
  cases Option.some.inj (hfX.symm.trans hfound)
  obtain ⟨c1, kX', hc1, hk, hord, -, -, hn6⟩ := Cond.instantiable_spec (a' (.instantiable rl_NSE 6) (by simp [rl_atoms]))
  cases Option.some.inj (hc1.symm.trans hfound)
  cases Option.some.inj (hkX.symm.trans hk)
  have hsel0 : selectMethod e.platform s.vm P1.m.cls T.fill0 = .method T.fill0 := by
    obtain ⟨c2, r2, m2, q1, q2, q3, q4, -⟩ := Cond.selects_spec (a' (.selects rl_NSE Bundle.tFill0 Bundle.tFill0) (by simp [rl_atoms]))
    cases Option.some.inj (q1.symm.trans hfound)
    cases Option.some.inj (q2.symm.trans (State.methodFound?_of_named Y.fill0 (by decide)))
    cases Option.some.inj (q3.symm.trans Y.fill0)
    rw [Launch.admits_selectMethod X.admits]; exact q4
  have hselF : selectMethod e.platform s.vm P1.m.cls T.fill = .method T.fill := by
    obtain ⟨c2, r2, m2, q1, q2, q3, q4, -⟩ := Cond.selects_spec (a' (.selects rl_NSE Bundle.tFill Bundle.tFill) (by simp [rl_atoms]))
    cases Option.some.inj (q1.symm.trans hfound)
    cases Option.some.inj (q2.symm.trans (State.methodFound?_of_named Y.fill (by decide)))
    cases Option.some.inj (q3.symm.trans Y.fill)
    rw [Launch.admits_selectMethod X.admits]; exact q4
  obtain ⟨cellS0, hcS0, hiss⟩ := Y.statics
  obtain ⟨u0, hu0⟩ := Cond.staticRefV Y.unassigned L.unassignedStatic L.statics hcS0 hiss (a' (.isRef (.static Bundle.tN "UNASSIGNED_STACK" Bundle.steD)) (by simp [rl_atoms]))
  obtain ⟨sen, hsen⟩ := Cond.staticRefV Y.sentinel L.sentinelStatic L.statics hcS0 hiss (a' (.isRef (.static Bundle.tN "SUPPRESSED_SENTINEL" Bundle.listD)) (by simp [rl_atoms]))
  obtain ⟨ci198, i198, fB, hk198, hg198, ha198, hsB, -, hnB, htB, hffB⟩ := Cond.ownField (t := .object "java/lang/Object") Y.found L.cls (by decide +kernel) (a' (.fieldLink Bundle.tN 198 Bundle.tN "backtrace" "Ljava/lang/Object;") (by simp [rl_atoms])) (a' (.lays Bundle.tN Bundle.tN "backtrace" "Ljava/lang/Object;") (by simp [rl_atoms])) e.platform hpl
  obtain ⟨cellS, hcS', heS, -, hkeep⟩ := X.same.2.2.2.2.2 T.aS cellS0 hcS0
  have hcellS : V.heap[T.aS]? = some cellS := hcS'
  have hknownS : cellS.vm ≠ .unknown := by
    rw [heS]; intro hu
    rw [show cellS0.vm = .unknown from hu] at hiss
    cases hiss
  have hneS : T.aS ≠ a := Nat.ne_of_lt (Nat.lt_of_lt_of_le (Array.getElem?_eq_some_iff.mp hcS0).1 hnew)
  obtain ⟨iM, hffM⟩ := Y.msg
  obtain ⟨tyC, dC, hdC, hdnC⟩ := Cond.laysAt hfound hk Y.cause (a' (.lays rl_NSE Bundle.tN "cause" "Ljava/lang/Throwable;") (by simp [rl_atoms]))
  obtain ⟨tyS, dS, hdS, hdnS⟩ := Cond.laysAt hfound hk Y.stack (a' (.lays rl_NSE Bundle.tN "stackTrace" Bundle.steD) (by simp [rl_atoms]))
  obtain ⟨tyP, dP, hdP, hdnP⟩ := Cond.laysAt hfound hk Y.supp (a' (.lays rl_NSE Bundle.tN "suppressedExceptions" Bundle.listD) (by simp [rl_atoms]))
  obtain ⟨tyM, dM, hdM, hdnM⟩ := Cond.laysAt hfound hk hffM (a' (.lays rl_NSE Bundle.tN "detailMessage" "Ljava/lang/String;") (by simp [rl_atoms]))
  obtain ⟨tyB, dB, hdB, hdnB⟩ := Cond.laysAt hfound hk hffB (a' (.lays rl_NSE Bundle.tN "backtrace" "Ljava/lang/Object;") (by simp [rl_atoms]))
  have bC := Cond.laysApart hdB hdC hdnB hdnC (by rw [hnB, Y.causeName]; decide)
  have bS := Cond.laysApart hdB hdS hdnB hdnS (by rw [hnB, Y.stackName]; decide)
  have bP := Cond.laysApart hdB hdP hdnB hdnP (by rw [hnB, Y.suppName]; decide)
  have hskip : SkipFacts T e.platform s (fun u => u) u0 ((preparedCellV T.toThrowableT (freshCell P1.m.cls kX) a u0 sen).withEntry V.cur) :=
    ⟨{ ci198 := ci198, i198 := i198, fBack := fB }, ⟨hk198, hg198, ha198, hsB⟩, by
      have h9 := fresh_default (c := P1.m.cls) tyB
      rw [htB] at h9
      simpa [preparedCellV, Cell.setSlot, Cell.withEntry, Array.getElem?_setIfInBounds, bC, bS, bP, bC.symm, bS.symm, bP.symm, defaultValue] using h9, fun _ _ => rfl⟩
  obtain ⟨tm, methC, cdC, kC, vm₁, hnC, -, -, -, -, -, -, -, hW₁, st1⟩ := Steps.initColdS (tb := p.tables) (e := e) (below := below) (s := s) (U := V) X.here hexec X.warmed hpl hown (t := Bundle.initS rl_NSE) rfl rfl (by decide)
    (a' (.methodLink own ic (Bundle.initS rl_NSE)) (by simp [rl_atoms])) (h (.instanceMethod (Bundle.initS rl_NSE)) (by simp [rl_atoms, Bundle.passSAtoms])) (bytes := rl_nse) (maxL := 2) (h (.code (Bundle.initS rl_NSE) rl_nse 2 none) (by simp [rl_atoms, Bundle.passSAtoms]))
    (f := g) hg (a := a) (msg := msg) (rest := .ref a :: rest) hstack hd6
  cases Option.some.inj (hnC.symm.trans hP1m)
  have X₁ := X.noted hW₁
  obtain ⟨vm₂, X₂, st2⟩ := X₁.ctorMessageOffV hexec (g := { g with stack := .ref a :: rest }) hg hsize T L Z LZ M LM (P1 :: P2 :: Ps)
    (fun P hP => by
      rcases List.mem_cons.mp hP with rfl | hP
      · exact L1
      · rcases List.mem_cons.mp hP with rfl | hP
        · exact L2
        · exact hL P hP) ⟨hlink1, hlink2, hlink⟩ (u0 := u0) (sen := sen) (self := a) hmsg (cell := freshCell P1.m.cls kX) (cellS := cellS)
    hcell (fun _ => by simp) (by simp) rfl rfl hsel0 hselF hcellS hneS hknownS (by rw [hkeep _ (by simp)]; exact hu0) (by rw [hkeep _ (by simp)]; exact hsen)
    (Takes.of_laid hk hord tyC (by rw [Y.causeType]; rfl)) (Takes.of_laid hk hord tyS (by rw [Y.stackType]; exact fits_refV_array _ u0)) (Takes.of_laid hk hord tyP (by rw [Y.suppType]; exact fits_refV_object _ sen))
    (Takes.of_laid hk hord tyM (by rw [Y.msgType]; exact fits_refV_object _ ⟨msg, hmsg⟩)) Y.objLocals hskip htr [] hd6
    (by simp only [List.length_cons, List.length_nil] at hlen ⊢; omega) (by simp only [List.length_cons, List.length_nil] at hlen ⊢; rw [hlen]; exact hRl)
  obtain ⟨hwalk, hrun, hended, hWU, hsame⟩ := X₂.athrowLeaves hexec (g := { g with stack := .ref a :: rest, pc := g.pc + 3 }) hg hlocked hentered hout (a := a) (rest := rest) rfl hd9 hlocks
  have hlt : a < ((V.setVm vm₁).setVm vm₂).heap.size := (Array.getElem?_eq_some_iff.mp hcell).1
  have hU := heapAt_setCell_self (s := (V.setVm vm₁).setVm vm₂) (plainBareV T.toThrowableT (freshCell P1.m.cls kX) a u0 sen msg) hlt
  refine ⟨_, st1 _ (fun acts => ?_), hrun, hended, hWU, hsame.weaken (fun y hy hlt' => ?_) (Nat.le_refl _) (Nat.le_refl _), _, hU, rfl, rfl⟩
  · rw [doInvoke_state]
    exact st2 _ hwalk
  · rcases List.mem_append.mp hy with h1 | h1
    · exact h1
    · exfalso
      have hb : y.base = a := by
        simp only [List.mem_cons, List.not_mem_nil, or_false] at h1
        rcases h1 with rfl | rfl | rfl | rfl | rfl <;> rfl
      rw [hb] at hlt'
      exact Nat.not_lt.mpr hnew hlt'
end RLX
/-! A throw that leaves a method, and its catching by the caller -/
/-- the words of a throw that speak of the heap: where two statics of Throwable lie and that they hold references -/
def rl_Zw : List Cond := [.isRef (.static Bundle.tN "UNASSIGNED_STACK" Bundle.steD), .isRef (.static Bundle.tN "SUPPRESSED_SENTINEL" Bundle.listD), .laysStatic Bundle.tN "UNASSIGNED_STACK" Bundle.steD, .laysStatic Bundle.tN "SUPPRESSED_SENTINEL" Bundle.listD]
/-- the texts; what else is no good word -/
def rl_Zs : List (Nat × String) := [(133, "no such request"), (168, "a request has nothing such"), (190, "no such copy")]
def rl_Zd : List Cond := [.declares (Bundle.initS rl_RTE), .declares (Bundle.initS rl_EXC), .declares (Bundle.initS Bundle.tN)]
def rl_Z (U : State) : Prop := (∀ w ∈ rl_Zw, ∀ a : Array Value, w.before a U = true) ∧ (∀ (k : Nat) (tx : String), (k, tx) ∈ rl_Zs → ∃ b, vk_R "RightsLimit" k tx b U) ∧ ∀ w ∈ rl_Zd, va_Nw w U
/-- one static, its cell old -/
theorem rl_Z1 {C n d : String} {s U : State} {a a' : Array Value} (hvm : s.vm.Alike U.vm) (hh : ∀ (q : Nat) (cell : Cell), s.heap[q]? = some cell → U.heap[q]? = some cell) (hl : (Cond.laysStatic C n d).before a s = true) (hr : (Cond.isRef (.static C n d)).before a s = true) :
    (Cond.laysStatic C n d).before a' U = true ∧ (Cond.isRef (.static C n d)).before a' U = true := by
  obtain ⟨c, k, i, f, x, cell, h1, h2, h3, h4, h5, h6, h7, h8, h9⟩ := Cond.laysStatic_spec hl
  obtain ⟨k', hi', he⟩ := State.fieldFound?_setVm hvm h2
  have h5' : U.heap[x]? = some cell := hh _ _ h5
  have h1' : U.vm.findClass C = some c := by rw [hvm.findClass]; exact h1
  have h4' : k'.statics = some x := by rw [he]; exact h4
  have h9' : k'.staticTypes[f.slot]? = some f.type := by rw [he]; exact h9
  have hi2 : U.fieldFound? C n d = some (c, k', i, f) := hi'
  obtain ⟨v, hv⟩ : ∃ v, cell.slots[f.slot]? = some v := ⟨_, Array.getElem?_eq_getElem h8⟩
  have e0 : (Term.static C n d).eval a s none [] s = some v := by
    simp [Term.eval, State.fieldNamed?, h2, h3, h4, h5, h6, h7, hv]
  have e1 : (Term.static C n d).eval a' U none [] U = some v := by
    simp [Term.eval, State.fieldNamed?, hi2, h3, h4', h5', h6, h7, hv]
  refine ⟨Cond.laysStatic_of h1' hi2 h3 h4' h5' h6 h7 h8 h9', ?_⟩
  simp only [Cond.before, Cond.holds, Cond.value, e0] at hr
  simp only [Cond.before, Cond.holds, Cond.value, e1]
  exact hr
theorem rl_Zw.moved {s U : State} (hvm : s.vm.Alike U.vm) (hh : ∀ (q : Nat) (cell : Cell), s.heap[q]? = some cell → U.heap[q]? = some cell) (h : ∀ w ∈ rl_Zw, ∀ a : Array Value, w.before a s = true) : ∀ w ∈ rl_Zw, ∀ a : Array Value, w.before a U = true := by
  intro w hw a
  have q1 := rl_Z1 (C := Bundle.tN) (n := "UNASSIGNED_STACK") (d := Bundle.steD) (a := a) (a' := a) hvm hh (h _ (by simp [rl_Zw]) a) (h _ (by simp [rl_Zw]) a)
  have q2 := rl_Z1 (C := Bundle.tN) (n := "SUPPRESSED_SENTINEL") (d := Bundle.listD) (a := a) (a' := a) hvm hh (h _ (by simp [rl_Zw]) a) (h _ (by simp [rl_Zw]) a)
  simp only [rl_Zw, List.mem_cons, List.not_mem_nil, or_false] at hw
  rcases hw with rfl | rfl | rfl | rfl
  · exact q1.2
  · exact q2.2
  · exact q1.1
  · exact q2.1
theorem rl_Z.warm {s U : State} (hW : s.WarmedH U.vm) (hh : ∀ (q : Nat) (cell : Cell), s.heap[q]? = some cell → U.heap[q]? = some cell) (h : rl_Z s) : rl_Z U := by
  refine ⟨rl_Zw.moved hW.alike hh h.1, fun k tx hk => ?_, fun w hw => ?_⟩
  · obtain ⟨b, hb⟩ := h.2.1 k tx hk
    exact ⟨b, vk_R.warm hW hb⟩
  · have h9 := h.2.2 w hw
    simp only [rl_Zd, List.mem_cons, List.not_mem_nil, or_false] at hw
    rcases hw with rfl | rfl | rfl <;> exact va_Nw.warmD hW h9
theorem rl_Z.calling {U : State} {g : JFrame} {mk : MethodId} {a : Array Value} (h : rl_Z U) : rl_Z (U.calling g mk a) := by
  refine ⟨rl_Zw.moved (s := U) (Vm.Alike.refl U.vm) (fun _ _ h => h) h.1, fun k tx hk => ?_, fun w hw => ?_⟩
  · obtain ⟨b, hb⟩ := h.2.1 k tx hk
    exact ⟨b, vk_R.same (u := U) rfl hb⟩
  · have h9 := h.2.2 w hw
    simp only [rl_Zd, List.mem_cons, List.not_mem_nil, or_false] at hw
    rcases hw with rfl | rfl | rfl <;> exact va_Nw.same (u := U) rfl rfl h9
theorem rl_str {s : State} {args : Array Value} {k : Nat} {tx : String} (hZ : rl_Z s) (h : (k, tx) ∈ rl_Zs) : (Cond.stringRef "RightsLimit" k tx).before args s = true := by
  obtain ⟨b, hb⟩ := hZ.2.1 k tx h
  first | exact va_tabs rfl rfl hb.1 | exact hb.1
/-- what a method that answers an int or throws E leaves -/
def rl_Tq (E : String) (post : Int32 → Prop) (mc ms : Nat) : Array Value → State → Outcome → State → Prop := fun _ st o t =>
  st.WarmedH t.vm ∧ st.sameButNew ({ t with vm := st.vm } : State) [] mc ms ∧
  ((∃ r : Int32, o = .returned (some (.int r)) ∧ post r) ∨ ∃ (q : Addr) (ce : Cell), o = .threw q ∧ t.heap[q]? = some ce ∧ ce.vm = .none ∧ st.vm.findClass E = some ce.cls)
def rl_Mt (l : Launch) (y : MethodName) (ws : List Cond) (rm : Room) (Pc : Array Value → State → Prop) (E : String) (post : Int32 → Prop) (mc ms : Nat) : Prop :=
  MetFree l y (headSpec ws rm) Pc (fun _ _ _ _ _ => True) (rl_Tq E post mc ms)
def rl_TZ (below : List Frame) (E : String) (post : Int32 → Prop) (a : Array Value) (s : State) (mc ms : Nat) : State → Prop := fun t =>
  ∃ o, t.status = .running ∧ Ended t below o ∧ rl_Tq E post mc ms a s o t
theorem rl_nil {H0 H : Heap} {locs : List Loc} (h : va_S (fun _ => False) H0 H locs) : locs = [] := by
  cases locs with
  | nil => rfl
  | cons q t => exact (h.2.2 q List.mem_cons_self).elim
def rl_BT (D : va_G) (cl : List vw_C) (tys : List (ClassId × FieldType)) (nw : List Cond) (w : va_W) (H0 : Heap) (U : State) : Prop := rl_BR D cl tys nw w H0 U ∧ rl_Z U
theorem rl_BT.pre {D : va_G} {cl : List vw_C} {tys : List (ClassId × FieldType)} {nw : List Cond} {w : va_W} {s : State} {H : Heap} {av : List Value} (hnw : ∀ x ∈ nw, rl_nest x) (hP : va_P D cl w H) (hK : va_K D cl tys s) (hN : ∀ x ∈ nw, va_Nw x s) (hZ : ∀ U : State, U.heap = H → s.WarmedH U.vm → rl_Z U) : PreS s H (va_Pc av (rl_BT D cl tys nw w H)) av := by
  have h := rl_BR.pre (av := av) hnw hP hK hN
  refine ⟨fun a U g mk q => ?_, fun U hU hW => ⟨rfl, (h.2 U hU hW).2, hZ U hU hW⟩⟩
  obtain ⟨q0, q1, q2⟩ := q
  exact ⟨q0, (h.1 a U g mk ⟨q0, q1⟩).2, rl_Z.calling q2⟩
section RLT
variable {p : Program} {l : Launch} {e : Env} {R : Room} {s : State} {m : MethodId} {args : Array Value} {below : List Frame} {meth : Method} {c : Code} {H : Heap} {locs : List Loc} {cells slots : Nat} {Q : State → Prop}
variable {cc : ByteArray} {pc : Nat} {ls : Array Slot} {E : String} {post : Int32 → Prop} {mc ms : Nat}
/-- the road that returns -/
theorem rl_tret {g : JFrame} (k : W p l e R s m args below meth c s.heap locs 0 0 (MQ below (va_Qi (S := Unit) (fun r _ => post r) (fun _ t => t.heap = s.heap) (fun _ => False)) args s 0 0 (fun _ => False)) g) : W p l e R s m args below meth c s.heap locs 0 0 (rl_TZ below E post args s mc ms) g := by
  intro T hT X
  obtain ⟨t, a1, o, b1, b2, ⟨⟨r, u, hr, hp, -⟩, -⟩, L, ⟨-, hW, hs⟩, hL⟩ := k T hT X
  have e0 : L = [] := by
    cases L with
    | nil => rfl
    | cons q t => exact (hL q List.mem_cons_self).elim
  subst e0
  exact ⟨t, a1, o, b1, b2, hW, hs.mono (Nat.zero_le _) (Nat.zero_le _), Or.inl ⟨r, hr, hp⟩⟩
/-- 'throw new NoSuchElementException("text")': new; dup; ldc; invokespecial; athrow -/
theorem rl_throw (hexec : p.tables.exec = Jvm.exec) (hb : c.code = cc) (hl : l.stackTraces = false) {own text : String} {ik is ic : Nat}
    (hown : s.vm.findClass own = some m.cls) (hk : (Cond.classLink own ik rl_NSE).before args s = true) (hini : (Cond.initialized rl_NSE).before args s = true) (hstr : (Cond.stringRef own is text).before args s = true) (h : ∀ w ∈ rl_atoms own ic, w.before args s = true)
    (hS : va_S (fun _ => False) s.heap s.heap locs) (hsize : ls.size = c.maxLocals)
    (d0 : decode cc pc = .ok (.new ik, 3)) (d3 : decode cc (pc + 3) = .ok (.dup, 1)) (d4 : decode cc (pc + 4) = .ok (.ldc is, 2)) (d6 : decode cc (pc + 6) = .ok (.invokespecial ic, 3)) (d9 : decode cc (pc + 9) = .ok (.athrow, 1))
    (hout : ∀ x ∈ c.exceptionTable.toList, False) (hRf : 5 < R.frames) (hRl : 82 ≤ R.locals) (hRc : 1 ≤ R.cells) (hRs : 6 ≤ R.slots) (hlocks : meth.locks = false) :
    W p l e R s m args below meth c s.heap locs 0 0 (rl_TZ below rl_NSE post args s 1 6) (F0 m pc ls []) := by
  intro T hT X
  have e0 := rl_nil hS
  subst e0
  have htr : e.platform.stackTraces = false := (show e.platform.stackTraces = l.stackTraces by rw [X.admits.platform]).trans hl
  have hins : (Cond.instantiable rl_NSE 6).before args s = true := h _ (by simp [rl_atoms])
  obtain ⟨k0, cf, i0, sa, hk0, hcf0, hcp0, hq0, hr0, hsa⟩ := Cond.stringRef_spec hown hstr
  obtain ⟨vm₁, cX, kX, hfX, hkX, -, -, X₁, st1⟩ := X.newCold hexec (own := own) (C := rl_NSE) (index := ik) (n := 6) hown hk hins hini (g := F0 m pc ls []) rfl (by rw [hb]; exact d0) (by omega) (by omega)
  generalize hT1 : (T.setVm vm₁).pushCell { cls := cX, slots := kX.instanceTypes.map defaultValue, vm := .none } = T1 at X₁ st1
  have hcell : T1.heap[T.heap.size]? = some (freshCell cX kX) := by rw [← hT1]; exact State.heap_pushCell_size _ _
  have d3' : decode c.code (pc + 3) = .ok (.dup, 1) := by rw [hb]; exact d3
  have d4' : decode c.code (pc + 4) = .ok (.ldc is, 2) := by rw [hb]; exact d4
  obtain ⟨U, hsteps, hrun, hend, hW, hsame, ce, hce, hcv, hcc⟩ := rl_ctorThrow X₁ hexec htr (own := own) (ic := ic) hown h hfX hkX hcell (by rw [hT]; exact Nat.le_refl _) (msg := .ref sa) rfl
    (g := { method := m, pc := pc + 6, locals := ls, stack := .ref sa :: .ref T.heap.size :: .ref T.heap.size :: [], locked := none }) rfl hsize rfl rfl (rest := []) rfl
    (by rw [hb]; exact d6) (by rw [hb]; exact d9) (fun x hx => (hout x hx).elim) hRf (by show 2 * 0 + (1 + 0) + 81 ≤ R.locals; omega) hlocks
  refine ⟨U, ?_, .threw T.heap.size, hrun, hend, hW, hsame.mono (by omega) (by omega), Or.inr ⟨T.heap.size, ce, rfl, hce, hcv, by rw [hcc]; exact hfX⟩⟩
  refine st1 _ ?_
  show Steps p.tables e below (T1.setTop { method := m, pc := pc + 3, locals := ls, stack := .ref T.heap.size :: [], locked := none }) _
  jvm_step X₁.here [X₁.here.top, hexec, d3', Value.category]
  exact X₁.ldcString hexec (own := own) (text := text) (index := is) (a := sa) hown hstr hsa
    (g := { method := m, pc := pc + 4, locals := ls, stack := .ref T.heap.size :: .ref T.heap.size :: [], locked := none }) rfl d4' _ hsteps
end RLT
/-- the entry of a method that answers an int or throws -/
theorem rl_mett {E : String} {post : Int32 → Prop} {mc ms : Nat} {l : Launch} {y : MethodName} {ws ws' : List Cond} {rm : Room} {D : va_G} {cl : List vw_C} {tys : List (ClassId × FieldType)} {nw : List Cond} {av : List Value} {w : va_W} {H0 : Heap} {cc : ByteArray} {maxL : Nat} {ret : Option FieldType}
    (hy : plainName y.cls = true) (hw : ws = Cond.code y cc maxL ret :: ws') (hlen : (lg_sl av).length ≤ maxL)
    (body : ∀ (p : Program) (e : Env) (s : State) (m : MethodId) (below : List Frame) (meth : Method) (c : Code) (ls : Array Slot), p.tables.exec = Jvm.exec → c.code = cc → meth.sig.returnType = ret → c.maxLocals = maxL → s.vm.findClass y.cls = some m.cls → (∀ x ∈ ws, x.before av.toArray s = true) → meth.locks = false →
      va_P D cl w s.heap → va_K D cl tys s → va_S (fun _ => False) s.heap s.heap [] → (∀ x ∈ nw, va_Nw x s) → rl_Z s → (∀ x ∈ c.exceptionTable.toList, False) → lv_has ls maxL (lv_args 0 av) →
      W p l e rm s m av.toArray below meth c s.heap [] 0 0 (rl_TZ below E post av.toArray s mc ms) (F0 m 0 ls [])) :
    rl_Mt l y ws rm (va_Pc av (rl_BT D cl tys nw w H0)) E post mc ms := by
  refine MetFree.of_bodyS (code := cc) (maxLocals := maxL) (ret := ret) hy ?_ ?_
  · intro args s m h hn
    obtain ⟨meth, c, h1, h2, h3, h4, h5, h6, -, -⟩ := Cond.code_spec hn (atoms_spec (ws := ws) h _ (by rw [hw]; exact List.mem_cons_self))
    exact ⟨meth, c, h1, h2, h3, h4, h5, h6⟩
  · intro p e s m args below meth c s₁ B hml hP _
    obtain ⟨rfl, ⟨hH, hP, hK, hN⟩, hZ⟩ := hP
    subst hH
    have hh0 : s₁.heap = s.heap := by rw [B.state]; rfl
    have ht : ∀ x ∈ c.exceptionTable.toList, False := by
      obtain ⟨meth9, c9, h1, h2, -, -, -, -, h7, -⟩ := Cond.code_spec B.named (atoms_spec (ws := ws) B.pre _ (by rw [hw]; exact List.mem_cons_self))
      cases Option.some.inj (h1.symm.trans B.method)
      cases Option.some.inj (h2.symm.trans (Stand.of_body B).code)
      intro x hx
      rw [Array.isEmpty_iff.mp h7] at hx
      cases hx
    have hl := lv_entry av (n := maxL) hlen
    have K := body p e s m below meth c _ B.exec B.bytes B.returns hml (findClass_of_methodNamed B.named) (atoms_spec (ws := ws) B.pre) B.notSynchronized hP hK va_S.rf hN hZ ht hl
    rw [← lg_entry_eq] at K
    obtain ⟨t, a1, o, b1, b2, b3⟩ := K s₁ hh0 (Stand.of_body B)
    exact ⟨t, o, a1, b1, b2, b3⟩
end
section
/-! The caller of a method that answers an int or throws: its one handler takes it -/
section RLK
variable {p : Program} {l : Launch} {e : Env} {R : Room} {s : State} {m : MethodId} {args : Array Value} {below : List Frame} {meth : Method} {c : Code} {T : State} {H : Heap} {locs : List Loc} {cells slots : Nat} {Q : State → Prop}
variable {cc bytes : ByteArray} {pc nL maxL index n mc ms : Nat} {ls : Array Slot} {st0 rest As : List Value} {E own C : String} {post : Int32 → Prop} {Ts ws : List Cond} {y : MethodName} {ret : Option FieldType} {rm : Room} {Pc : Array Value → State → Prop} {b : Addr}
theorem rl_caught (X : Stand p l e R s m args below meth c T locs cells slots) (a : Addr) (hown : s.vm.findClass own = some m.cls) {x : ExceptionTableEntry} (htab : c.exceptionTable.toList = [x]) (hx : covers x pc = true) (h0 : x.catchType ≠ 0)
    (hlink : (Cond.classLink own x.catchType E).before args s = true) (hcast : (Cond.castable E E).before args s = true) {cell : Cell} (hcell : T.heap[a]? = some cell) (hv : cell.vm = .none) (hcl : s.vm.findClass E = some cell.cls) :
    ∃ vm', Stand p l e R s m args below meth c (T.setVm vm') locs cells slots ∧ ∀ tg, Steps p.tables e below ((T.setVm vm').setTop (F0 m x.handlerPc ls [.ref a])) tg → Steps p.tables e below ((T.setTop (F0 m pc ls rest)).pushFrame (.throwing a)) tg := by
  have hpl : e.platform.magicAccessors = ({} : Platform).magicAccessors := by rw [X.admits.platform]
  obtain ⟨c3, cT, hc3, hcT, hasg⟩ := Cond.castable_spec hcast
  cases hcl.symm.trans hc3
  obtain ⟨c', hc', hln⟩ := Cond.classLink_spec hown hlink e.platform hpl
  cases hcT.symm.trans hc'
  obtain ⟨dk, _, _, kt, hd, _, _, _, _, hkt, _, hopn⟩ := hln.here
  have hln₀ := X.warmed.classLinks hln
  have hW' : s.WarmedH (T.vm.noted m.cls x.catchType (.cls cT)) := X.warmed.noted hd hopn (State.rightAt_cls hln)
  have hal := X.warmed.alike
  obtain ⟨kt', hkt', -⟩ := hal.2.2 _ _ hkt
  have hfit : T.vm.assignable cell.cls cT = true := by rw [hal.assignable]; exact hasg
  obtain ⟨k1, hk1⟩ := Vm.classAt_of_assignable hfit ⟨kt', hkt'⟩
  have hobj : ∀ k, cell.vm ≠ .statics k := fun k h => by rw [hv] at h; cases h
  refine ⟨_, X.noted hW', fun tg hrest => ?_⟩
  have hfind : ∀ (Q : Handler → Pre) (E : CtlPost) (d : Bool) (acts : List Action), wp (findHandler (F0 m pc ls rest) a) Q E e d acts ((T.setTop (F0 m pc ls rest)).pushFrame (.throwing a)) ↔ Q (.found x.handlerPc) d acts (((T.setTop (F0 m pc ls rest)).pushFrame (.throwing a)).setVm (T.vm.noted m.cls x.catchType (.cls cT))) := by
    intro Q E d acts
    rw [Jvm.W.findHandler_eq (s := (T.setTop (F0 m pc ls rest)).pushFrame (.throwing a)) (f := F0 m pc ls rest) (meth := meth) (code := c) X.method' X.code, htab]
    have hx' := hx
    simp only [covers] at hx'
    obtain ⟨ha, ht⟩ := (resolveClass_links (vm := T.vm) e.toSetting hln₀).op (op := VmOp.resolveClass m.cls x.catchType) rfl
    have hal2 : T.vm.Alike (T.vm.noted m.cls x.catchType (.cls cT)) := (Vm.Alike.refl T.vm).noted _ _ _
    obtain ⟨k1', hk1', -⟩ := hal2.2.2 _ _ hk1
    obtain ⟨k2', hk2', -⟩ := hal2.2.2 _ _ hkt'
    have hfit' : (T.vm.noted m.cls x.catchType (.cls cT)).assignable cell.cls cT = true := by rw [hal2.assignable]; exact hfit
    have hvm : ((T.setTop (F0 m pc ls rest)).pushFrame (.throwing a)).vm = T.vm := rfl
    have hhp : ((T.setTop (F0 m pc ls rest)).pushFrame (.throwing a)).heap[a]? = some cell := hcell
    simp [findHandler.go, hx', h0, ha, ht, hvm, hhp, hobj, hk1', hk2', hfit', VmOp.dirties, VmOp.acts]
  have hstep : ∀ r : List Frame, (stepThrowing e ((T.setTop (F0 m pc ls rest)).pushFrame (.throwing a)) a (.java (F0 m pc ls rest) :: r)).Is ((((T.setTop (F0 m pc ls rest)).pushFrame (.throwing a)).setVm (T.vm.noted m.cls x.catchType (.cls cT))).setFrames (.java (F0 m x.handlerPc ls [.ref a]) :: r)) [] := by
    intro r
    simp only [stepThrowing, searchFrame, vmDo]
    generalize hr : Sem.go _ e false [] _ = res
    obtain ⟨as, rfl, ha⟩ := Sem.eq_ok_of hr (a := Handler.found x.handlerPc) (s' := ((T.setTop (F0 m pc ls rest)).pushFrame (.throwing a)).setVm (T.vm.noted m.cls x.catchType (.cls cT))) (acts' := []) (by simp [hfind _ _ _ _])
    exact ⟨rfl, ha⟩
  obtain ⟨hgo, hw⟩ := At.throwing (g := F0 m pc ls rest) X.here a
  refine Steps.head hgo hw ?_
  rw [stepThread_throwing (frames_entered X.here.top _), (hstep _).1]
  obtain ⟨g₀, hr⟩ := X.frames_eq
  have hr' : (T.setVm (T.vm.noted m.cls x.catchType (.cls cT))).frames = .java g₀ :: below := hr
  rw [State.setTop_of_frames _ hr'] at hrest
  have e1 : ∀ (u : State) (vm' : Vm) (F G : List Frame), ((u.setFrames F).setVm vm').setFrames G = (u.setVm vm').setFrames G := fun u vm' F G => by
    have h1 : (u.setFrames F).setVm vm' = (u.setVm vm').setFrames F := rfl
    rw [h1, State.setFrames_setFrames]
  rw [hr, List.tail_cons, State.pushFrame, e1, State.setTop_of_frames _ hr, e1]
  exact hrest
/-- the call: it answers, or it is caught -/
theorem rl_callt (S : CallFix p m c cc nL s args Ts own) (hM : rl_Mt l y ws rm Pc E post mc ms) (cw : CallW R s args own C index y bytes maxL ret ws rm mc ms n) (hp : PreV s H C b Pc As)
    (hn : As.length = n) (hsize : ls.size = nL) (hstack : st0 = As.reverse ++ .ref b :: rest) (hW : 2 * (F0 m pc ls st0).monitorRoom + (rest.map fun v => v.category).sum ≤ 8) (hdg : decode cc pc = .ok (.invokevirtual index, 3)) (hf : cells + mc ≤ R.cells ∧ slots + ms ≤ R.slots)
    {x : ExceptionTableEntry} (htab : c.exceptionTable.toList = [x]) (hx : covers x pc = true) (h0 : x.catchType ≠ 0) (hlink : (Cond.classLink own x.catchType E).before args s = true) (hcast : (Cond.castable E E).before args s = true)
    (kr : ∀ (r : Int32) (H1 : Heap), post r → (∀ (q : Nat) (cell : Cell), H[q]? = some cell → H1[q]? = some cell) → H.size ≤ H1.size → W p l e R s m args below meth c H1 locs (cells + mc) (slots + ms) Q (F0 m (pc + 3) ls (.int r :: rest)))
    (kx : ∀ (q : Addr) (H1 : Heap), (∀ (q : Nat) (cell : Cell), H[q]? = some cell → H1[q]? = some cell) → H.size ≤ H1.size → W p l e R s m args below meth c H1 locs (cells + mc) (slots + ms) Q (F0 m x.handlerPc ls [.ref q])) :
    W p l e R s m args below meth c H locs cells slots Q (F0 m pc ls st0) := by
  intro T hT X
  obtain ⟨⟨hrc, hrs, hfr, hlo, hws, hcw, hcode, hini, hy, hlen, hlk⟩, hin, hse⟩ := cw
  obtain ⟨hexec, hb, hml, hown, -⟩ := S
  obtain ⟨hbl, ⟨cellB, hcB, hoB, hclB⟩, hPc⟩ := hp
  obtain ⟨mk, methM, hnamed, hmethM, hstM, habM⟩ := Cond.instanceMethod_spec hin
  obtain ⟨methM', cM, hmethM', -, -, -, -, -, -, hsigM⟩ := Cond.code_spec hnamed hcode
  cases hmethM.symm.trans hmethM'
  obtain ⟨c2, r2, m2, q1, q2, q3, q4, kP, hkP, hkPi⟩ := Cond.selects_spec hse
  cases hclB.symm.trans q1
  cases (State.methodFound?_of_named hnamed hy).symm.trans q2
  cases hnamed.symm.trans q3
  have hselP : selectMethod e.platform s.vm cellB.cls mk = .method mk := by rw [Launch.admits_selectMethod X.admits]; exact q4
  have hdg' : decode c.code pc = .ok (.invokevirtual index, 3) := by rw [hb]; exact hdg
  obtain ⟨vm₁, X₁, hstep₁⟩ := X.invokevirtual hexec hown hlk hnamed hmethM hstM hkP hkPi hy (a := b) (cell := cellB) (by rw [hT]; exact hcB)
    (fun z h => by rw [h] at hoB; cases hoB) hselP hmethM habM hkP hkPi (g := F0 m pc ls st0) rfl (argsL := As) (rest := rest) (hn.trans (hlen _ hsigM)) hstack hdg'
  have hnm1 := X₁.named hnamed
  have h1 : (headSpec ws rm).pre.before (Value.ref b :: As).toArray (T.setVm vm₁) = true := atoms_intro fun w hw => hws w hw _ _ X₁.warmed
  have h2 : (Cond.code y bytes maxL ret).before (Value.ref b :: As).toArray (T.setVm vm₁) = true := hws _ hcw _ _ X₁.warmed
  have h3 : (Cond.initialized y.cls).before (Value.ref b :: As).toArray (T.setVm vm₁) = true := word_at X₁.warmed (Or.inl (by first | rfl | simp [Cond.onTables, Cond.keeps, Cond.steady])) hini
  have hPc1 : Pc (Value.ref b :: As).toArray ((T.setVm vm₁).calling (F0 m pc ls rest) mk (Value.ref b :: As).toArray) := hbl _ _ _ _ (hPc (T.setVm vm₁) hT X₁.warmed)
  obtain ⟨methY, cY, hmY, hcY, -, hlY, -, -, -, -⟩ := Cond.code_spec hnm1 h2
  obtain ⟨kY, hkY, -⟩ := className_of_methodNamed hnm1
  have hinitY : kY.init = .initialized := Cond.initialized_spec (findClass_of_methodNamed hnm1) hkY h3
  have hat : At (T.setVm vm₁) (F0 m pc ls rest).method c below := X₁.here
  have happ : (headSpec ws rm).appliesLoose y e.platform ((T.setVm vm₁).calling (F0 m pc ls rest) mk (Value.ref b :: As).toArray) = true :=
    Spec.appliesLoose_calling (g := F0 m pc ls rest) hat hdg' hnm1 hkY hinitY
      (X₁.room_calling (g := F0 m pc ls rest) (R' := (headSpec ws rm).room) (hsize.trans hml.symm) hmY hcY hfr (by
        rw [hlY]
        have e9 : (headSpec ws rm).room.locals = rm.locals := rfl
        have e8 : (F0 m pc ls rest).monitorRoom = (F0 m pc ls st0).monitorRoom := rfl
        rw [e9, e8]
        show 2 * (F0 m pc ls st0).monitorRoom + (rest.map fun v => v.category).sum + (maxL + 11) + rm.locals ≤ R.locals
        omega) (by rw [show (headSpec ws rm).room.cells = mc from hrc]; exact hf.1) (by rw [show (headSpec ws rm).room.slots = ms from hrs]; exact hf.2)) h1
  obtain ⟨g₀, hr⟩ := X₁.frames_eq
  have hfrm : ((T.setVm vm₁).setTop (F0 m pc ls rest)).frames = [.java (F0 m pc ls rest)] ++ below := by rw [State.frames_setTop' _ hat.top, X₁.tail]; rfl
  obtain ⟨o, s₂, hsteps, -, hend, hWm, hsm, hq⟩ := Steps.callFree hM p X₁.admits X₁.cas X₁.clock (acts := []) hfrm happ hPc1 trivial
  rw [State.frames_setTop' _ hat.top, X₁.tail] at hend
  have hWm' : (T.setVm vm₁).WarmedH s₂.vm := hWm
  have hsm' : ((T.setVm vm₁).calling (F0 m pc ls rest) mk (Value.ref b :: As).toArray).sameButNew ({ s₂ with vm := ((T.setVm vm₁).calling (F0 m pc ls rest) mk (Value.ref b :: As).toArray).vm } : State) [] mc ms := hsm
  obtain ⟨e2, z2, z3, z4, z5, z6⟩ := id hsm'
  have e3 : s₂ = ({ ((T.setVm vm₁).calling (F0 m pc ls rest) mk (Value.ref b :: As).toArray).setFrames s₂.frames with heap := s₂.heap, slotsUsed := s₂.slotsUsed } : State).setVm s₂.vm := by
    have e4 : s₂ = ({ s₂ with vm := ((T.setVm vm₁).calling (F0 m pc ls rest) mk (Value.ref b :: As).toArray).vm } : State).setVm s₂.vm := rfl
    rw [e2] at e4
    exact e4
  have hr' : (({ T.setVm vm₁ with heap := s₂.heap, slotsUsed := s₂.slotsUsed } : State).setVm s₂.vm).frames = .java g₀ :: below := hr
  have hsame : (T.setVm vm₁).sameButNew ({ T.setVm vm₁ with heap := s₂.heap, slotsUsed := s₂.slotsUsed } : State) [] mc ms := by
    refine ⟨?_, z2, z3, z4, z5, z6⟩
    obtain ⟨t, ht, -⟩ := State.frames_cons hr
    show ({ T.setVm vm₁ with heap := s₂.heap, slotsUsed := s₂.slotsUsed } : State) = { (T.setVm vm₁).setFrames (T.setVm vm₁).frames with heap := s₂.heap, slotsUsed := s₂.slotsUsed }
    rw [State.setFrames_self ht]
  have XX := X₁.same.trans (hsame.setVm s.vm)
  rw [List.append_nil] at XX
  have X' : Stand p l e R s m args below meth c (({ T.setVm vm₁ with heap := s₂.heap, slotsUsed := s₂.slotsUsed } : State).setVm s₂.vm) locs (cells + mc) (slots + ms) :=
    ⟨X₁.admits, X₁.cas, X₁.clock, X₁.frames, X₁.room, X₁.hears, X₁.method, X₁.code, (X₁.here.setHeapUsed s₂.heap s₂.slotsUsed).setVm hWm'.alike, X₁.tail, State.WarmedH.trans X₁.warmed hWm', X₁.limits, X₁.bytes, XX⟩
  have hold : ∀ (q : Nat) (cell : Cell), H[q]? = some cell → s₂.heap[q]? = some cell := fun q cell hq => hsm.old_cell (a := q) (c := cell) (by show T.heap[q]? = some cell; rw [hT]; exact hq)
  have hsz : H.size ≤ s₂.heap.size := by
    have h9 : T.heap.size ≤ s₂.heap.size := z2
    rw [hT] at h9
    exact h9
  rcases hq with ⟨r, rfl, hpost⟩ | ⟨q, ce, rfl, hce, hcv, hcl⟩
  · obtain ⟨c₂, i₂, len₂, hc₂, hd₂, hf₂⟩ := hend
    have hcc : c₂ = c := by
      have h5 : s₂.code? m = (T.setVm vm₁).code? m := by rw [State.code?_eq, State.code?_eq, hWm'.alike.method?]
      exact Option.some.inj (hc₂.symm.trans (h5.trans hat.code))
    subst hcc
    have hlen3 : len₂ = 3 := by rw [hdg'] at hd₂; cases hd₂; rfl
    subst hlen3
    have hs₂ : s₂ = (({ T.setVm vm₁ with heap := s₂.heap, slotsUsed := s₂.slotsUsed } : State).setVm s₂.vm).setTop (F0 m (pc + 3) ls (.int r :: rest)) := by
      refine e3.trans ?_
      rw [hf₂, State.calling_eq hat.top, State.setFrames_setFrames, State.setTop_of_frames _ hr']
      rfl
    obtain ⟨t, a1, b1⟩ := kr r s₂.heap hpost hold hsz (({ T.setVm vm₁ with heap := s₂.heap, slotsUsed := s₂.slotsUsed } : State).setVm s₂.vm) rfl X'
    refine ⟨t, hstep₁ _ fun acts => ?_, b1⟩
    rw [doInvoke_state]
    rw [hs₂] at hsteps
    exact hsteps.trans a1
  · have hf₂ : s₂.frames = .throwing q :: .java (F0 m pc ls rest) :: below := hend
    have hs₂ : s₂ = ((({ T.setVm vm₁ with heap := s₂.heap, slotsUsed := s₂.slotsUsed } : State).setVm s₂.vm).setTop (F0 m pc ls rest)).pushFrame (.throwing q) := by
      refine e3.trans ?_
      rw [hf₂, State.calling_eq hat.top, State.setFrames_setFrames, State.pushFrame, State.frames_setTop _ hr', State.setTop_of_frames _ hr', State.setFrames_setFrames]
      rfl
    have hclE : s.vm.findClass E = some ce.cls := by
      have h6 : (T.setVm vm₁).vm.findClass E = some ce.cls := hcl
      rw [X₁.warmed.alike.findClass] at h6
      exact h6
    obtain ⟨vm', X'', hst⟩ := rl_caught (pc := pc) (ls := ls) (rest := rest) X' q hown htab hx h0 hlink hcast (cell := ce) hce hcv hclE
    obtain ⟨t, a1, b1⟩ := kx q s₂.heap hold hsz ((({ T.setVm vm₁ with heap := s₂.heap, slotsUsed := s₂.slotsUsed } : State).setVm s₂.vm).setVm vm') rfl X''
    refine ⟨t, hstep₁ _ fun acts => ?_, b1⟩
    rw [doInvoke_state]
    rw [hs₂] at hsteps
    exact hsteps.trans (hst _ a1)
end RLK
section RLH
variable {p : Program} {l : Launch} {e : Env} {R : Room} {s : State} {m : MethodId} {args : Array Value} {below : List Frame} {meth : Method} {c : Code} {T : State} {H : Heap} {locs : List Loc} {cells slots : Nat}
variable {y : MethodName} {bytes cc : ByteArray} {maxL nL mc ms n index : Nat} {ret : Option FieldType} {hh : List (Nat × Nat × Nat × Nat)} {ws ws' : List Cond} {rm : Room} {Pc : Array Value → State → Prop} {Qc : Array Value → State → Outcome → State → Prop} {free : Addr → Prop} {Ts : List Cond} {own : String} {As rest : List Value} {g : JFrame}
/-- a static method of one's own that has a handler: its words, and its call -/
theorem rl_runH (S : CallFix p m c cc nL s args Ts own) (hM : Met l y ws rm Pc Qc mc ms free) (hT : GoodIn Ts (wsS own index y ws)) (hw : ws = Cond.codeWith y bytes maxL ret hh :: ws') (hrc : rm.cells = mc) (hrs : rm.slots = ms)
    (hd : y.cls = own ∧ y.cls ≠ "java/lang/invoke/MethodHandle" ∧ y.cls ≠ "java/lang/invoke/VarHandle" ∧ (parseMethodDescriptor y.desc).map (fun d => d.parameters.length) = some n) (hR : rm.frames + 1 ≤ R.frames ∧ 8 + (maxL + 11) + rm.locals ≤ R.locals) (hp : PreS s H Pc As)
    (hg : g.method = m) (hn : As.length = n) (hsize : g.locals.size = nL) (hstack : g.stack = As.reverse ++ rest) (hW : 2 * g.monitorRoom + (rest.map fun v => v.category).sum ≤ 8) (hdg : decode cc g.pc = .ok (.invokestatic index, 3)) (hf : cells + mc ≤ R.cells ∧ slots + ms ≤ R.slots) :
    va_Run p l e R s m args below meth c H locs cells slots mc ms g rest (Qc As.toArray) free := by
  obtain ⟨hx, hb, hml, hown, hts⟩ := S
  obtain ⟨hC, hy1, hy2, hd⟩ := hd
  have ok : ∀ w ∈ wsS own index y ws, w.before args s = true := fun w h => hts w (hT w h).1
  have hG : GoodIn Ts ws := fun w h => hT w (by unfold wsS; exact List.mem_append_right _ h)
  have hc : Cond.codeWith y bytes maxL ret hh ∈ ws := by rw [hw]; exact List.mem_cons_self
  have hcode : (Cond.codeWith y bytes maxL ret hh).before args s = true := hts _ (hG _ hc).1
  have hini : (Cond.initialized y.cls).before args s = true := by rw [hC]; exact ok _ (by simp [wsS])
  have hlink : (Cond.methodLink own index y).before args s = true := ok _ (by simp [wsS])
  have hstt : (Cond.static y).before args s = true := ok _ (by simp [wsS])
  have hK : Back l R p e below s args y 3 8 (PreOf R mc ms Pc) (PostOf Qc mc ms free) := va_backW (hh := hh) (bytes := bytes) (maxL := maxL) (ret := ret) hM hp.1 hrc hrs hR.1 hR.2 (pay_in hts hG) hc (fun a' U hW => word_at hW (Or.inl (by first | rfl | simp [Cond.onTables, Cond.keeps, Cond.steady])) hini)
  intro T hT X
  obtain ⟨mk, methM, cM, hnamed, hmethM, -, -, -, -, -, -, hsigM⟩ := Cond.codeWith_spec hcode
  have hstatic : methM.isStatic = true := Cond.static_spec hnamed hmethM hstt
  obtain ⟨kP, hkP, -⟩ := className_of_methodNamed hnamed
  have hinitP : kP.init = .initialized := Cond.initialized_spec (findClass_of_methodNamed hnamed) hkP hini
  have hlen : As.length = methM.sig.parameters.length := by
    rw [hsigM] at hd
    exact hn.trans (Option.some.inj hd).symm
  have hdg' : decode c.code g.pc = .ok (.invokestatic index, 3) := by rw [hb]; exact hdg
  obtain ⟨vm₁, X₁, hstep₁⟩ := X.invokestatic hx hown hlink hnamed hmethM hstatic hkP hinitP ⟨hy1, hy2⟩ (g := g) hg (argsL := As) (rest := rest) hlen hstack hdg'
  obtain ⟨v, ⟨U', l2, c2, s2⟩, X', ⟨g', mk', t, L, e1, e2, hq, h1, hL, h2, h3⟩, hsteps⟩ := hK m meth c ⟨T.setVm vm₁, locs, cells, slots⟩ { g with stack := rest } (.invokestatic index) mk As.toArray X₁ hg (hsize.trans hml.symm) hdg' hW (X₁.named hnamed) ⟨hf.1, hf.2, hp.2 (T.setVm vm₁) hT X₁.warmed⟩
  dsimp only [Pt.U, Pt.locs, Pt.cells, Pt.slots] at X' e1 e2 h1 h2 h3 hsteps
  subst h1; subst h2; subst h3
  exact ⟨v, (T.setVm vm₁).calling g' mk' As.toArray, t, U', L, hT, X', hL, e1, e2, hq, fun target h => hstep₁ _ fun acts => by rw [doInvoke_state]; exact hsteps.trans h⟩
end RLH
end
section
def rl_G : List Cond := lw_tbl.filter goodWord
theorem rl_G_in {w : Cond} (h : w ∈ rl_G) : w ∈ lw_tbl := (List.mem_filter.mp h).1
theorem rl_wd {w : Cond} (i : Nat) (h : lw_tbl[i]? = some w) (g : goodWord w = true) : w ∈ rl_G := List.mem_filter.mpr ⟨List.mem_of_getElem? h, g⟩
theorem rl_good {w : Cond} (h : w ∈ rl_G) : (w.onTables && w.keeps) = true ∨ ∃ ty, w = .arrayClass ty := good_of_word (List.mem_filter.mp h).2
theorem rl_gV {own C : String} {idx maxL : Nat} {y : MethodName} {cc : ByteArray} {ret : Option FieldType} (h1 : Cond.methodLink own idx y ∈ rl_G) (h2 : Cond.instanceMethod y ∈ rl_G) (h3 : Cond.selects C y y ∈ rl_G) (h4 : Cond.initialized C ∈ rl_G) (h5 : Cond.code y cc maxL ret ∈ rl_G) : GoodIn rl_G (wsV own idx C y (Cond.code y cc maxL ret :: rl_G)) := by
  intro w hw
  simp only [wsV, List.cons_append, List.nil_append, List.mem_cons] at hw
  rcases hw with rfl | rfl | rfl | rfl | rfl | h
  · exact ⟨h1, rl_good h1⟩
  · exact ⟨h2, rl_good h2⟩
  · exact ⟨h3, rl_good h3⟩
  · exact ⟨h4, rl_good h4⟩
  · exact ⟨h5, rl_good h5⟩
  · exact ⟨h, rl_good h⟩
theorem rl_gS {own : String} {idx maxL : Nat} {y : MethodName} {cc : ByteArray} {ret : Option FieldType} (h1 : Cond.methodLink own idx y ∈ rl_G) (h2 : Cond.static y ∈ rl_G) (h4 : Cond.initialized own ∈ rl_G) (h5 : Cond.code y cc maxL ret ∈ rl_G) : GoodIn rl_G (wsS own idx y (Cond.code y cc maxL ret :: rl_G)) := by
  intro w hw
  simp only [wsS, List.cons_append, List.nil_append, List.mem_cons] at hw
  rcases hw with rfl | rfl | rfl | rfl | h
  · exact ⟨h1, rl_good h1⟩
  · exact ⟨h2, rl_good h2⟩
  · exact ⟨h4, rl_good h4⟩
  · exact ⟨h5, rl_good h5⟩
  · exact ⟨h, rl_good h⟩
theorem rl_gH {own : String} {idx maxL : Nat} {y : MethodName} {cc : ByteArray} {ret : Option FieldType} {hh : List (Nat × Nat × Nat × Nat)} (h1 : Cond.methodLink own idx y ∈ rl_G) (h2 : Cond.static y ∈ rl_G) (h4 : Cond.initialized own ∈ rl_G) (h5 : Cond.codeWith y cc maxL ret hh ∈ rl_G) : GoodIn rl_G (wsS own idx y (Cond.codeWith y cc maxL ret hh :: rl_G)) := by
  intro w hw
  simp only [wsS, List.cons_append, List.nil_append, List.mem_cons] at hw
  rcases hw with rfl | rfl | rfl | rfl | h
  · exact ⟨h1, rl_good h1⟩
  · exact ⟨h2, rl_good h2⟩
  · exact ⟨h4, rl_good h4⟩
  · exact ⟨h5, rl_good h5⟩
  · exact ⟨h, rl_good h⟩
theorem rl_gI {maxL : Nat} {y : MethodName} {cc : ByteArray} {ret : Option FieldType} (h5 : Cond.code y cc maxL ret ∈ rl_G) : GoodIn rl_G (Cond.code y cc maxL ret :: rl_G) := fun w hw => (List.mem_cons.mp hw).elim (fun e => by rw [e]; exact ⟨h5, rl_good h5⟩) (fun h => ⟨h, rl_good h⟩)
def fT_x : u_T := fun k => match k with
  | 0 => ("RightsLimit", "titles", "LRightsLimit$Titles;", true)
  | 1 => ("RightsLimit", "limits", "LRightsLimit$Limits;", true)
  | 2 => ("RightsLimit", "licences", "LRightsLimit$Licences;", true)
  | 3 => ("RightsLimit", "requests", "LRightsLimit$Requests;", true)
  | 4 => ("RightsLimit", "feeOfPublisher", "[I", true)
  | 5 => ("RightsLimit", "rightsOfPerson", "[I", true)
  | 6 => ("RightsLimit", "now", "I", false)
  | _ => ("RightsLimit", "latestWhy", "I", false)
def fy_x : Nat → FieldType := fun k => match k with
  | 0 => .object "RightsLimit$Titles"
  | 1 => .object "RightsLimit$Limits"
  | 2 => .object "RightsLimit$Licences"
  | 3 => .object "RightsLimit$Requests"
  | 4 => .array .int
  | 5 => .array .int
  | 6 => .int
  | _ => .int
theorem fn_x : ∀ a, a < 8 → ∀ b, b < 8 → a ≠ b → (fT_x a).2.1 ≠ (fT_x b).2.1 := by decide +kernel
theorem fo_x : ∀ k, k < 8 → parseFieldDescriptor (fT_x k).2.2.1 = some (fy_x k) := by decide +kernel
theorem fi_x : ∀ w ∈ u_ws "RightsLimit" fT_x 8, w ∈ rl_G := by
  have h1 : ∀ w ∈ u_ws "RightsLimit" fT_x 8, w ∈ lw_tbl := by decide +kernel
  have h2 : (u_ws "RightsLimit" fT_x 8).all goodWord = true := by decide +kernel
  exact fun w hw => List.mem_filter.mpr ⟨h1 w hw, List.all_eq_true.mp h2 w hw⟩
def fT_t : u_T := fun k => match k with
  | 0 => ("RightsLimit$Titles", "publisher", "[I", true)
  | 1 => ("RightsLimit$Titles", "isOpen", "[Z", true)
  | 2 => ("RightsLimit$Titles", "rightToWaive", "[I", true)
  | 3 => ("RightsLimit$Titles", "waiversLeft", "[I", true)
  | _ => ("RightsLimit$Titles", "count", "I", false)
def fy_t : Nat → FieldType := fun k => match k with
  | 0 => .array .int
  | 1 => .array .boolean
  | 2 => .array .int
  | 3 => .array .int
  | _ => .int
theorem fn_t : ∀ a, a < 5 → ∀ b, b < 5 → a ≠ b → (fT_t a).2.1 ≠ (fT_t b).2.1 := by decide +kernel
theorem fo_t : ∀ k, k < 5 → parseFieldDescriptor (fT_t k).2.2.1 = some (fy_t k) := by decide +kernel
theorem fi_t : ∀ w ∈ u_ws "RightsLimit$Titles" fT_t 5, w ∈ rl_G := by
  have h1 : ∀ w ∈ u_ws "RightsLimit$Titles" fT_t 5, w ∈ lw_tbl := by decide +kernel
  have h2 : (u_ws "RightsLimit$Titles" fT_t 5).all goodWord = true := by decide +kernel
  exact fun w hw => List.mem_filter.mpr ⟨h1 w hw, List.all_eq_true.mp h2 w hw⟩
def fT_l : u_T := fun k => match k with
  | 0 => ("RightsLimit$Limits", "title", "[I", true)
  | 1 => ("RightsLimit$Limits", "kind", "[I", true)
  | 2 => ("RightsLimit$Limits", "days", "[I", true)
  | 3 => ("RightsLimit$Limits", "copies", "[I", true)
  | _ => ("RightsLimit$Limits", "count", "I", false)
def fy_l : Nat → FieldType := fun k => match k with
  | 0 => .array .int
  | 1 => .array .int
  | 2 => .array .int
  | 3 => .array .int
  | _ => .int
theorem fn_l : ∀ a, a < 5 → ∀ b, b < 5 → a ≠ b → (fT_l a).2.1 ≠ (fT_l b).2.1 := by decide +kernel
theorem fo_l : ∀ k, k < 5 → parseFieldDescriptor (fT_l k).2.2.1 = some (fy_l k) := by decide +kernel
theorem fi_l : ∀ w ∈ u_ws "RightsLimit$Limits" fT_l 5, w ∈ rl_G := by
  have h1 : ∀ w ∈ u_ws "RightsLimit$Limits" fT_l 5, w ∈ lw_tbl := by decide +kernel
  have h2 : (u_ws "RightsLimit$Limits" fT_l 5).all goodWord = true := by decide +kernel
  exact fun w hw => List.mem_filter.mpr ⟨h1 w hw, List.all_eq_true.mp h2 w hw⟩
def fT_c : u_T := fun k => match k with
  | 0 => ("RightsLimit$Licences", "title", "[I", true)
  | 1 => ("RightsLimit$Licences", "kind", "[I", true)
  | 2 => ("RightsLimit$Licences", "copiesLeft", "[I", true)
  | 3 => ("RightsLimit$Licences", "from", "[I", true)
  | 4 => ("RightsLimit$Licences", "to", "[I", true)
  | _ => ("RightsLimit$Licences", "count", "I", false)
def fy_c : Nat → FieldType := fun k => match k with
  | 0 => .array .int
  | 1 => .array .int
  | 2 => .array .int
  | 3 => .array .int
  | 4 => .array .int
  | _ => .int
theorem fn_c : ∀ a, a < 6 → ∀ b, b < 6 → a ≠ b → (fT_c a).2.1 ≠ (fT_c b).2.1 := by decide +kernel
theorem fo_c : ∀ k, k < 6 → parseFieldDescriptor (fT_c k).2.2.1 = some (fy_c k) := by decide +kernel
theorem fi_c : ∀ w ∈ u_ws "RightsLimit$Licences" fT_c 6, w ∈ rl_G := by
  have h1 : ∀ w ∈ u_ws "RightsLimit$Licences" fT_c 6, w ∈ lw_tbl := by decide +kernel
  have h2 : (u_ws "RightsLimit$Licences" fT_c 6).all goodWord = true := by decide +kernel
  exact fun w hw => List.mem_filter.mpr ⟨h1 w hw, List.all_eq_true.mp h2 w hw⟩
def fT_q : u_T := fun k => match k with
  | 0 => ("RightsLimit$Requests", "person", "[I", true)
  | 1 => ("RightsLimit$Requests", "title", "[I", true)
  | 2 => ("RightsLimit$Requests", "kind", "[I", true)
  | 3 => ("RightsLimit$Requests", "pages", "[I", true)
  | 4 => ("RightsLimit$Requests", "time", "[I", true)
  | 5 => ("RightsLimit$Requests", "by", "[I", true)
  | 6 => ("RightsLimit$Requests", "licence", "[I", true)
  | 7 => ("RightsLimit$Requests", "centsEachTime", "[I", true)
  | 8 => ("RightsLimit$Requests", "centsInAll", "[I", true)
  | 9 => ("RightsLimit$Requests", "end", "[I", true)
  | 10 => ("RightsLimit$Requests", "renewals", "[I", true)
  | 11 => ("RightsLimit$Requests", "deletedAt", "[I", true)
  | _ => ("RightsLimit$Requests", "count", "I", false)
def fy_q : Nat → FieldType := fun k => match k with
  | 0 => .array .int
  | 1 => .array .int
  | 2 => .array .int
  | 3 => .array .int
  | 4 => .array .int
  | 5 => .array .int
  | 6 => .array .int
  | 7 => .array .int
  | 8 => .array .int
  | 9 => .array .int
  | 10 => .array .int
  | 11 => .array .int
  | _ => .int
theorem fn_q : ∀ a, a < 13 → ∀ b, b < 13 → a ≠ b → (fT_q a).2.1 ≠ (fT_q b).2.1 := by decide +kernel
theorem fo_q : ∀ k, k < 13 → parseFieldDescriptor (fT_q k).2.2.1 = some (fy_q k) := by decide +kernel
theorem fi_q : ∀ w ∈ u_ws "RightsLimit$Requests" fT_q 13, w ∈ rl_G := by
  have h1 : ∀ w ∈ u_ws "RightsLimit$Requests" fT_q 13, w ∈ lw_tbl := by decide +kernel
  have h2 : (u_ws "RightsLimit$Requests" fT_q 13).all goodWord = true := by decide +kernel
  exact fun w hw => List.mem_filter.mpr ⟨h1 w hw, List.all_eq_true.mp h2 w hw⟩
def fT_m : u_T := fun k => match k with
  | 0 => ("RightsLimitModel", "thrown", "I", false)
  | 1 => ("RightsLimitModel", "now", "I", false)
  | 2 => ("RightsLimitModel", "titles", "I", false)
  | 3 => ("RightsLimitModel", "publisher", "[I", true)
  | 4 => ("RightsLimitModel", "isOpen", "[Z", true)
  | 5 => ("RightsLimitModel", "titleRight", "[I", true)
  | 6 => ("RightsLimitModel", "waivers", "[I", true)
  | 7 => ("RightsLimitModel", "fees", "[I", true)
  | 8 => ("RightsLimitModel", "rights", "[Z", true)
  | 9 => ("RightsLimitModel", "limits", "I", false)
  | 10 => ("RightsLimitModel", "limitTitle", "[I", true)
  | 11 => ("RightsLimitModel", "limitKind", "[I", true)
  | 12 => ("RightsLimitModel", "limitDays", "[I", true)
  | 13 => ("RightsLimitModel", "limitMost", "[I", true)
  | 14 => ("RightsLimitModel", "licences", "I", false)
  | 15 => ("RightsLimitModel", "licenceTitle", "[I", true)
  | 16 => ("RightsLimitModel", "licenceKind", "[I", true)
  | 17 => ("RightsLimitModel", "licenceLeft", "[I", true)
  | 18 => ("RightsLimitModel", "licenceFrom", "[I", true)
  | 19 => ("RightsLimitModel", "licenceTo", "[I", true)
  | 20 => ("RightsLimitModel", "requests", "I", false)
  | 21 => ("RightsLimitModel", "person", "[I", true)
  | 22 => ("RightsLimitModel", "title", "[I", true)
  | 23 => ("RightsLimitModel", "kind", "[I", true)
  | 24 => ("RightsLimitModel", "pages", "[I", true)
  | 25 => ("RightsLimitModel", "time", "[I", true)
  | 26 => ("RightsLimitModel", "by", "[I", true)
  | 27 => ("RightsLimitModel", "byLicence", "[I", true)
  | 28 => ("RightsLimitModel", "fee", "[I", true)
  | 29 => ("RightsLimitModel", "end", "[I", true)
  | 30 => ("RightsLimitModel", "renewed", "[I", true)
  | 31 => ("RightsLimitModel", "deleted", "[I", true)
  | _ => ("RightsLimitModel", "why", "I", false)
def fy_m : Nat → FieldType := fun k => match k with
  | 0 => .int
  | 1 => .int
  | 2 => .int
  | 3 => .array .int
  | 4 => .array .boolean
  | 5 => .array .int
  | 6 => .array .int
  | 7 => .array .int
  | 8 => .array .boolean
  | 9 => .int
  | 10 => .array .int
  | 11 => .array .int
  | 12 => .array .int
  | 13 => .array .int
  | 14 => .int
  | 15 => .array .int
  | 16 => .array .int
  | 17 => .array .int
  | 18 => .array .int
  | 19 => .array .int
  | 20 => .int
  | 21 => .array .int
  | 22 => .array .int
  | 23 => .array .int
  | 24 => .array .int
  | 25 => .array .int
  | 26 => .array .int
  | 27 => .array .int
  | 28 => .array .int
  | 29 => .array .int
  | 30 => .array .int
  | 31 => .array .int
  | _ => .int
theorem fn_m : ∀ a, a < 33 → ∀ b, b < 33 → a ≠ b → (fT_m a).2.1 ≠ (fT_m b).2.1 := by decide +kernel
theorem fo_m : ∀ k, k < 33 → parseFieldDescriptor (fT_m k).2.2.1 = some (fy_m k) := by decide +kernel
theorem fi_m : ∀ w ∈ u_ws "RightsLimitModel" fT_m 33, w ∈ rl_G := by
  have h1 : ∀ w ∈ u_ws "RightsLimitModel" fT_m 33, w ∈ lw_tbl := by decide +kernel
  have h2 : (u_ws "RightsLimitModel" fT_m 33).all goodWord = true := by decide +kernel
  exact fun w hw => List.mem_filter.mpr ⟨h1 w hw, List.all_eq_true.mp h2 w hw⟩
abbrev rl_cl : List vw_C := [("RightsLimit", fT_x, 8), ("RightsLimit$Titles", fT_t, 5), ("RightsLimit$Limits", fT_l, 5), ("RightsLimit$Licences", fT_c, 6), ("RightsLimit$Requests", fT_q, 13), ("RightsLimitModel", fT_m, 33)]
theorem rl_nm4 : ((-4) : Int32).toInt = -4 := by decide
theorem rl_nm3 : ((-3) : Int32).toInt = -3 := by decide
theorem rl_nm2 : ((-2) : Int32).toInt = -2 := by decide
theorem rl_nm1 : ((-1) : Int32).toInt = -1 := by decide
theorem rl_n0 : (0 : Int32).toInt = 0 := by decide
theorem rl_n1 : (1 : Int32).toInt = 1 := by decide
theorem rl_n2 : (2 : Int32).toInt = 2 := by decide
theorem rl_n3 : (3 : Int32).toInt = 3 := by decide
theorem rl_n4 : (4 : Int32).toInt = 4 := by decide
theorem rl_n5 : (5 : Int32).toInt = 5 := by decide
theorem rl_n9 : (9 : Int32).toInt = 9 := by decide
theorem rl_n10 : (10 : Int32).toInt = 10 := by decide
theorem rl_n20 : (20 : Int32).toInt = 20 := by decide
theorem rl_n50 : (50 : Int32).toInt = 50 := by decide
theorem rl_n99 : (99 : Int32).toInt = 99 := by decide
theorem rl_n100 : (100 : Int32).toInt = 100 := by decide
theorem rl_n300 : (300 : Int32).toInt = 300 := by decide
theorem rl_n1000 : (1000 : Int32).toInt = 1000 := by decide
theorem rl_n5000 : (5000 : Int32).toInt = 5000 := by decide
theorem rl_n10000 : (10000 : Int32).toInt = 10000 := by decide
theorem rl_n1000000000 : (1000000000 : Int32).toInt = 1000000000 := by decide
end
section
set_option maxRecDepth 100000 in
theorem wd_0 : Cond.selects "RightsLimit" ⟨"RightsLimit", "goOnTo", "(I)Z"⟩ ⟨"RightsLimit", "goOnTo", "(I)Z"⟩ ∈ rl_G := rl_wd 0 rfl rfl
set_option maxRecDepth 100000 in
theorem wd_1 : Cond.selects "RightsLimit" ⟨"RightsLimit", "decide", "(IIII)V"⟩ ⟨"RightsLimit", "decide", "(IIII)V"⟩ ∈ rl_G := rl_wd 1 rfl rfl
set_option maxRecDepth 100000 in
theorem wd_2 : Cond.selects "RightsLimit" ⟨"RightsLimit", "firstLimitReached", "(III)I"⟩ ⟨"RightsLimit", "firstLimitReached", "(III)I"⟩ ∈ rl_G := rl_wd 2 rfl rfl
set_option maxRecDepth 100000 in
theorem wd_3 : Cond.selects "RightsLimit" ⟨"RightsLimit", "decideBeyondLimits", "(III)V"⟩ ⟨"RightsLimit", "decideBeyondLimits", "(III)V"⟩ ∈ rl_G := rl_wd 3 rfl rfl
set_option maxRecDepth 100000 in
theorem wd_4 : Cond.selects "RightsLimit" ⟨"RightsLimit", "mayWaive", "(II)Z"⟩ ⟨"RightsLimit", "mayWaive", "(II)Z"⟩ ∈ rl_G := rl_wd 4 rfl rfl
set_option maxRecDepth 100000 in
theorem wd_6 : Cond.selects "RightsLimitModel" ⟨"RightsLimitModel", "isTitle", "(I)Z"⟩ ⟨"RightsLimitModel", "isTitle", "(I)Z"⟩ ∈ rl_G := rl_wd 6 rfl rfl
set_option maxRecDepth 100000 in
theorem wd_7 : Cond.selects "RightsLimitModel" ⟨"RightsLimitModel", "isNow", "(I)Z"⟩ ⟨"RightsLimitModel", "isNow", "(I)Z"⟩ ∈ rl_G := rl_wd 7 rfl rfl
set_option maxRecDepth 100000 in
theorem wd_8 : Cond.selects "RightsLimitModel" ⟨"RightsLimitModel", "decide", "(III)I"⟩ ⟨"RightsLimitModel", "decide", "(III)I"⟩ ∈ rl_G := rl_wd 8 rfl rfl
set_option maxRecDepth 100000 in
theorem wd_9 : Cond.selects "RightsLimitModel" ⟨"RightsLimitModel", "licenceFor", "(III)I"⟩ ⟨"RightsLimitModel", "licenceFor", "(III)I"⟩ ∈ rl_G := rl_wd 9 rfl rfl
set_option maxRecDepth 100000 in
theorem wd_10 : Cond.selects "RightsLimitModel" ⟨"RightsLimitModel", "barrier", "(III)I"⟩ ⟨"RightsLimitModel", "barrier", "(III)I"⟩ ∈ rl_G := rl_wd 10 rfl rfl
set_option maxRecDepth 100000 in
theorem wd_11 : Cond.selects "RightsLimitModel" ⟨"RightsLimitModel", "count", "(IIII)I"⟩ ⟨"RightsLimitModel", "count", "(IIII)I"⟩ ∈ rl_G := rl_wd 11 rfl rfl
set_option maxRecDepth 100000 in
theorem wd_12 : Cond.selects "RightsLimitModel" ⟨"RightsLimitModel", "cents", "(I)I"⟩ ⟨"RightsLimitModel", "cents", "(I)I"⟩ ∈ rl_G := rl_wd 12 rfl rfl
set_option maxRecDepth 100000 in
theorem wd_14 : Cond.initialized "RightsLimit" ∈ rl_G := rl_wd 14 rfl rfl
set_option maxRecDepth 100000 in
theorem wd_15 : Cond.initialized "RightsLimit$Titles" ∈ rl_G := rl_wd 15 rfl rfl
set_option maxRecDepth 100000 in
theorem wd_16 : Cond.initialized "RightsLimit$Limits" ∈ rl_G := rl_wd 16 rfl rfl
set_option maxRecDepth 100000 in
theorem wd_17 : Cond.initialized "RightsLimit$Licences" ∈ rl_G := rl_wd 17 rfl rfl
set_option maxRecDepth 100000 in
theorem wd_18 : Cond.initialized "RightsLimit$Requests" ∈ rl_G := rl_wd 18 rfl rfl
set_option maxRecDepth 100000 in
theorem wd_19 : Cond.initialized "RightsLimitModel" ∈ rl_G := rl_wd 19 rfl rfl
set_option maxRecDepth 100000 in
theorem wd_23 : Cond.initialized "java/util/NoSuchElementException" ∈ rl_G := rl_wd 23 rfl rfl
set_option maxRecDepth 100000 in
theorem wd_29 : Cond.methodLink "RightsLimit" 3 ⟨"java/lang/Object", "<init>", "()V"⟩ ∈ rl_G := rl_wd 29 rfl rfl
set_option maxRecDepth 100000 in
theorem wd_30 : Cond.instanceMethod ⟨"java/lang/Object", "<init>", "()V"⟩ ∈ rl_G := rl_wd 30 rfl rfl
set_option maxRecDepth 100000 in
theorem wd_31 : Cond.code ⟨"java/lang/Object", "<init>", "()V"⟩ object_method_1_code 1 none ∈ rl_G := rl_wd 31 rfl rfl
set_option maxRecDepth 100000 in
theorem wd_32 : Cond.classLink "RightsLimit" 9 "RightsLimit$Titles" ∈ rl_G := rl_wd 32 rfl rfl
set_option maxRecDepth 100000 in
theorem wd_33 : Cond.instantiable "RightsLimit$Titles" 5 ∈ rl_G := rl_wd 33 rfl rfl
set_option maxRecDepth 100000 in
theorem wd_35 : Cond.instanceMethod ⟨"RightsLimit$Titles", "<init>", "()V"⟩ ∈ rl_G := rl_wd 35 rfl rfl
set_option maxRecDepth 100000 in
theorem wd_36 : Cond.code ⟨"RightsLimit$Titles", "<init>", "()V"⟩ prog_5_method_1_code 1 none ∈ rl_G := rl_wd 36 rfl rfl
set_option maxRecDepth 100000 in
theorem wd_37 : Cond.methodLink "RightsLimit$Titles" 3 ⟨"java/lang/Object", "<init>", "()V"⟩ ∈ rl_G := rl_wd 37 rfl rfl
set_option maxRecDepth 100000 in
theorem wd_38 : Cond.fieldLink "RightsLimit$Titles" 9 "RightsLimit$Titles" "publisher" "[I" ∈ rl_G := rl_wd 38 rfl rfl
set_option maxRecDepth 100000 in
theorem wd_39 : Cond.fieldLink "RightsLimit" 207 "RightsLimit$Titles" "publisher" "[I" ∈ rl_G := rl_wd 39 rfl rfl
set_option maxRecDepth 100000 in
theorem wd_40 : Cond.fieldLink "RightsLimit$Titles" 15 "RightsLimit$Titles" "isOpen" "[Z" ∈ rl_G := rl_wd 40 rfl rfl
set_option maxRecDepth 100000 in
theorem wd_41 : Cond.fieldLink "RightsLimit" 62 "RightsLimit$Titles" "isOpen" "[Z" ∈ rl_G := rl_wd 41 rfl rfl
set_option maxRecDepth 100000 in
theorem wd_42 : Cond.fieldLink "RightsLimit$Titles" 19 "RightsLimit$Titles" "rightToWaive" "[I" ∈ rl_G := rl_wd 42 rfl rfl
set_option maxRecDepth 100000 in
theorem wd_43 : Cond.fieldLink "RightsLimit" 102 "RightsLimit$Titles" "rightToWaive" "[I" ∈ rl_G := rl_wd 43 rfl rfl
set_option maxRecDepth 100000 in
theorem wd_44 : Cond.fieldLink "RightsLimit$Titles" 22 "RightsLimit$Titles" "waiversLeft" "[I" ∈ rl_G := rl_wd 44 rfl rfl
set_option maxRecDepth 100000 in
theorem wd_45 : Cond.fieldLink "RightsLimit" 109 "RightsLimit$Titles" "waiversLeft" "[I" ∈ rl_G := rl_wd 45 rfl rfl
set_option maxRecDepth 100000 in
theorem wd_46 : Cond.fieldLink "RightsLimit$Titles" 25 "RightsLimit$Titles" "count" "I" ∈ rl_G := rl_wd 46 rfl rfl
set_option maxRecDepth 100000 in
theorem wd_58 : Cond.arrayClass .int ∈ rl_G := rl_wd 58 rfl rfl
set_option maxRecDepth 100000 in
theorem wd_59 : Cond.arrayClass .boolean ∈ rl_G := rl_wd 59 rfl rfl
set_option maxRecDepth 100000 in
theorem wd_60 : Cond.classLink "RightsLimit" 16 "RightsLimit$Limits" ∈ rl_G := rl_wd 60 rfl rfl
set_option maxRecDepth 100000 in
theorem wd_61 : Cond.instantiable "RightsLimit$Limits" 5 ∈ rl_G := rl_wd 61 rfl rfl
set_option maxRecDepth 100000 in
theorem wd_63 : Cond.instanceMethod ⟨"RightsLimit$Limits", "<init>", "()V"⟩ ∈ rl_G := rl_wd 63 rfl rfl
set_option maxRecDepth 100000 in
theorem wd_64 : Cond.code ⟨"RightsLimit$Limits", "<init>", "()V"⟩ prog_3_method_1_code 1 none ∈ rl_G := rl_wd 64 rfl rfl
set_option maxRecDepth 100000 in
theorem wd_65 : Cond.methodLink "RightsLimit$Limits" 3 ⟨"java/lang/Object", "<init>", "()V"⟩ ∈ rl_G := rl_wd 65 rfl rfl
set_option maxRecDepth 100000 in
theorem wd_66 : Cond.fieldLink "RightsLimit$Limits" 9 "RightsLimit$Limits" "title" "[I" ∈ rl_G := rl_wd 66 rfl rfl
set_option maxRecDepth 100000 in
theorem wd_67 : Cond.fieldLink "RightsLimit$Limits" 15 "RightsLimit$Limits" "kind" "[I" ∈ rl_G := rl_wd 67 rfl rfl
set_option maxRecDepth 100000 in
theorem wd_68 : Cond.fieldLink "RightsLimit$Limits" 18 "RightsLimit$Limits" "days" "[I" ∈ rl_G := rl_wd 68 rfl rfl
set_option maxRecDepth 100000 in
theorem wd_69 : Cond.fieldLink "RightsLimit" 219 "RightsLimit$Limits" "days" "[I" ∈ rl_G := rl_wd 69 rfl rfl
set_option maxRecDepth 100000 in
theorem wd_70 : Cond.fieldLink "RightsLimit$Limits" 21 "RightsLimit$Limits" "copies" "[I" ∈ rl_G := rl_wd 70 rfl rfl
set_option maxRecDepth 100000 in
theorem wd_71 : Cond.fieldLink "RightsLimit" 222 "RightsLimit$Limits" "copies" "[I" ∈ rl_G := rl_wd 71 rfl rfl
set_option maxRecDepth 100000 in
theorem wd_72 : Cond.fieldLink "RightsLimit$Limits" 24 "RightsLimit$Limits" "count" "I" ∈ rl_G := rl_wd 72 rfl rfl
set_option maxRecDepth 100000 in
theorem wd_73 : Cond.fieldLink "RightsLimit" 213 "RightsLimit$Limits" "count" "I" ∈ rl_G := rl_wd 73 rfl rfl
set_option maxRecDepth 100000 in
theorem wd_85 : Cond.classLink "RightsLimit" 23 "RightsLimit$Licences" ∈ rl_G := rl_wd 85 rfl rfl
set_option maxRecDepth 100000 in
theorem wd_86 : Cond.instantiable "RightsLimit$Licences" 6 ∈ rl_G := rl_wd 86 rfl rfl
set_option maxRecDepth 100000 in
theorem wd_88 : Cond.instanceMethod ⟨"RightsLimit$Licences", "<init>", "()V"⟩ ∈ rl_G := rl_wd 88 rfl rfl
set_option maxRecDepth 100000 in
theorem wd_89 : Cond.code ⟨"RightsLimit$Licences", "<init>", "()V"⟩ prog_2_method_1_code 1 none ∈ rl_G := rl_wd 89 rfl rfl
set_option maxRecDepth 100000 in
theorem wd_90 : Cond.methodLink "RightsLimit$Licences" 3 ⟨"java/lang/Object", "<init>", "()V"⟩ ∈ rl_G := rl_wd 90 rfl rfl
set_option maxRecDepth 100000 in
theorem wd_91 : Cond.fieldLink "RightsLimit$Licences" 9 "RightsLimit$Licences" "title" "[I" ∈ rl_G := rl_wd 91 rfl rfl
set_option maxRecDepth 100000 in
theorem wd_92 : Cond.fieldLink "RightsLimit$Licences" 15 "RightsLimit$Licences" "kind" "[I" ∈ rl_G := rl_wd 92 rfl rfl
set_option maxRecDepth 100000 in
theorem wd_93 : Cond.fieldLink "RightsLimit$Licences" 18 "RightsLimit$Licences" "copiesLeft" "[I" ∈ rl_G := rl_wd 93 rfl rfl
set_option maxRecDepth 100000 in
theorem wd_94 : Cond.fieldLink "RightsLimit" 171 "RightsLimit$Licences" "copiesLeft" "[I" ∈ rl_G := rl_wd 94 rfl rfl
set_option maxRecDepth 100000 in
theorem wd_95 : Cond.fieldLink "RightsLimit$Licences" 21 "RightsLimit$Licences" "from" "[I" ∈ rl_G := rl_wd 95 rfl rfl
set_option maxRecDepth 100000 in
theorem wd_96 : Cond.fieldLink "RightsLimit$Licences" 24 "RightsLimit$Licences" "to" "[I" ∈ rl_G := rl_wd 96 rfl rfl
set_option maxRecDepth 100000 in
theorem wd_97 : Cond.fieldLink "RightsLimit$Licences" 27 "RightsLimit$Licences" "count" "I" ∈ rl_G := rl_wd 97 rfl rfl
set_option maxRecDepth 100000 in
theorem wd_111 : Cond.classLink "RightsLimit" 30 "RightsLimit$Requests" ∈ rl_G := rl_wd 111 rfl rfl
set_option maxRecDepth 100000 in
theorem wd_112 : Cond.instantiable "RightsLimit$Requests" 13 ∈ rl_G := rl_wd 112 rfl rfl
set_option maxRecDepth 100000 in
theorem wd_114 : Cond.instanceMethod ⟨"RightsLimit$Requests", "<init>", "()V"⟩ ∈ rl_G := rl_wd 114 rfl rfl
set_option maxRecDepth 100000 in
theorem wd_115 : Cond.code ⟨"RightsLimit$Requests", "<init>", "()V"⟩ prog_4_method_1_code 1 none ∈ rl_G := rl_wd 115 rfl rfl
set_option maxRecDepth 100000 in
theorem wd_116 : Cond.methodLink "RightsLimit$Requests" 3 ⟨"java/lang/Object", "<init>", "()V"⟩ ∈ rl_G := rl_wd 116 rfl rfl
set_option maxRecDepth 100000 in
theorem wd_117 : Cond.fieldLink "RightsLimit$Requests" 9 "RightsLimit$Requests" "person" "[I" ∈ rl_G := rl_wd 117 rfl rfl
set_option maxRecDepth 100000 in
theorem wd_118 : Cond.fieldLink "RightsLimit" 138 "RightsLimit$Requests" "person" "[I" ∈ rl_G := rl_wd 118 rfl rfl
set_option maxRecDepth 100000 in
theorem wd_119 : Cond.fieldLink "RightsLimit$Requests" 15 "RightsLimit$Requests" "title" "[I" ∈ rl_G := rl_wd 119 rfl rfl
set_option maxRecDepth 100000 in
theorem wd_120 : Cond.fieldLink "RightsLimit" 141 "RightsLimit$Requests" "title" "[I" ∈ rl_G := rl_wd 120 rfl rfl
set_option maxRecDepth 100000 in
theorem wd_121 : Cond.fieldLink "RightsLimit$Requests" 18 "RightsLimit$Requests" "kind" "[I" ∈ rl_G := rl_wd 121 rfl rfl
set_option maxRecDepth 100000 in
theorem wd_122 : Cond.fieldLink "RightsLimit" 144 "RightsLimit$Requests" "kind" "[I" ∈ rl_G := rl_wd 122 rfl rfl
set_option maxRecDepth 100000 in
theorem wd_123 : Cond.fieldLink "RightsLimit$Requests" 21 "RightsLimit$Requests" "pages" "[I" ∈ rl_G := rl_wd 123 rfl rfl
set_option maxRecDepth 100000 in
theorem wd_124 : Cond.fieldLink "RightsLimit" 147 "RightsLimit$Requests" "pages" "[I" ∈ rl_G := rl_wd 124 rfl rfl
set_option maxRecDepth 100000 in
theorem wd_125 : Cond.fieldLink "RightsLimit$Requests" 24 "RightsLimit$Requests" "time" "[I" ∈ rl_G := rl_wd 125 rfl rfl
set_option maxRecDepth 100000 in
theorem wd_126 : Cond.fieldLink "RightsLimit" 150 "RightsLimit$Requests" "time" "[I" ∈ rl_G := rl_wd 126 rfl rfl
set_option maxRecDepth 100000 in
theorem wd_127 : Cond.fieldLink "RightsLimit$Requests" 27 "RightsLimit$Requests" "by" "[I" ∈ rl_G := rl_wd 127 rfl rfl
set_option maxRecDepth 100000 in
theorem wd_128 : Cond.fieldLink "RightsLimit" 153 "RightsLimit$Requests" "by" "[I" ∈ rl_G := rl_wd 128 rfl rfl
set_option maxRecDepth 100000 in
theorem wd_129 : Cond.fieldLink "RightsLimit$Requests" 30 "RightsLimit$Requests" "licence" "[I" ∈ rl_G := rl_wd 129 rfl rfl
set_option maxRecDepth 100000 in
theorem wd_130 : Cond.fieldLink "RightsLimit" 156 "RightsLimit$Requests" "licence" "[I" ∈ rl_G := rl_wd 130 rfl rfl
set_option maxRecDepth 100000 in
theorem wd_131 : Cond.fieldLink "RightsLimit$Requests" 33 "RightsLimit$Requests" "centsEachTime" "[I" ∈ rl_G := rl_wd 131 rfl rfl
set_option maxRecDepth 100000 in
theorem wd_132 : Cond.fieldLink "RightsLimit$Requests" 36 "RightsLimit$Requests" "centsInAll" "[I" ∈ rl_G := rl_wd 132 rfl rfl
set_option maxRecDepth 100000 in
theorem wd_133 : Cond.fieldLink "RightsLimit" 159 "RightsLimit$Requests" "centsInAll" "[I" ∈ rl_G := rl_wd 133 rfl rfl
set_option maxRecDepth 100000 in
theorem wd_134 : Cond.fieldLink "RightsLimit$Requests" 39 "RightsLimit$Requests" "end" "[I" ∈ rl_G := rl_wd 134 rfl rfl
set_option maxRecDepth 100000 in
theorem wd_135 : Cond.fieldLink "RightsLimit" 162 "RightsLimit$Requests" "end" "[I" ∈ rl_G := rl_wd 135 rfl rfl
set_option maxRecDepth 100000 in
theorem wd_136 : Cond.fieldLink "RightsLimit$Requests" 42 "RightsLimit$Requests" "renewals" "[I" ∈ rl_G := rl_wd 136 rfl rfl
set_option maxRecDepth 100000 in
theorem wd_137 : Cond.fieldLink "RightsLimit" 165 "RightsLimit$Requests" "renewals" "[I" ∈ rl_G := rl_wd 137 rfl rfl
set_option maxRecDepth 100000 in
theorem wd_138 : Cond.fieldLink "RightsLimit$Requests" 45 "RightsLimit$Requests" "deletedAt" "[I" ∈ rl_G := rl_wd 138 rfl rfl
set_option maxRecDepth 100000 in
theorem wd_139 : Cond.fieldLink "RightsLimit" 122 "RightsLimit$Requests" "deletedAt" "[I" ∈ rl_G := rl_wd 139 rfl rfl
set_option maxRecDepth 100000 in
theorem wd_140 : Cond.fieldLink "RightsLimit$Requests" 48 "RightsLimit$Requests" "count" "I" ∈ rl_G := rl_wd 140 rfl rfl
set_option maxRecDepth 100000 in
theorem wd_168 : Cond.fieldLink "RightsLimit" 12 "RightsLimit" "titles" "LRightsLimit$Titles;" ∈ rl_G := rl_wd 168 rfl rfl
set_option maxRecDepth 100000 in
theorem wd_169 : Cond.fieldLink "RightsLimit" 19 "RightsLimit" "limits" "LRightsLimit$Limits;" ∈ rl_G := rl_wd 169 rfl rfl
set_option maxRecDepth 100000 in
theorem wd_170 : Cond.fieldLink "RightsLimit" 26 "RightsLimit" "licences" "LRightsLimit$Licences;" ∈ rl_G := rl_wd 170 rfl rfl
set_option maxRecDepth 100000 in
theorem wd_171 : Cond.fieldLink "RightsLimit" 33 "RightsLimit" "requests" "LRightsLimit$Requests;" ∈ rl_G := rl_wd 171 rfl rfl
set_option maxRecDepth 100000 in
theorem wd_172 : Cond.fieldLink "RightsLimit" 37 "RightsLimit" "feeOfPublisher" "[I" ∈ rl_G := rl_wd 172 rfl rfl
set_option maxRecDepth 100000 in
theorem wd_173 : Cond.fieldLink "RightsLimit" 41 "RightsLimit" "rightsOfPerson" "[I" ∈ rl_G := rl_wd 173 rfl rfl
set_option maxRecDepth 100000 in
theorem wd_174 : Cond.fieldLink "RightsLimit" 44 "RightsLimit" "now" "I" ∈ rl_G := rl_wd 174 rfl rfl
set_option maxRecDepth 100000 in
theorem wd_175 : Cond.fieldLink "RightsLimit" 48 "RightsLimit" "latestWhy" "I" ∈ rl_G := rl_wd 175 rfl rfl
set_option maxRecDepth 100000 in
theorem wd_197 : Cond.methodLink "RightsLimit" 51 ⟨"RightsLimit", "isPublisher", "(I)Z"⟩ ∈ rl_G := rl_wd 197 rfl rfl
set_option maxRecDepth 100000 in
theorem wd_198 : Cond.static ⟨"RightsLimit", "isPublisher", "(I)Z"⟩ ∈ rl_G := rl_wd 198 rfl rfl
set_option maxRecDepth 100000 in
theorem wd_199 : Cond.code ⟨"RightsLimit", "isPublisher", "(I)Z"⟩ prog_1_method_25_code 1 (some .boolean) ∈ rl_G := rl_wd 199 rfl rfl
set_option maxRecDepth 100000 in
theorem wd_200 : Cond.methodLink "RightsLimit" 84 ⟨"RightsLimit", "isBetween", "(III)Z"⟩ ∈ rl_G := rl_wd 200 rfl rfl
set_option maxRecDepth 100000 in
theorem wd_201 : Cond.static ⟨"RightsLimit", "isBetween", "(III)Z"⟩ ∈ rl_G := rl_wd 201 rfl rfl
set_option maxRecDepth 100000 in
theorem wd_202 : Cond.code ⟨"RightsLimit", "isBetween", "(III)Z"⟩ prog_1_method_30_code 3 (some .boolean) ∈ rl_G := rl_wd 202 rfl rfl
set_option maxRecDepth 100000 in
theorem wd_203 : Cond.methodLink "RightsLimit" 55 ⟨"RightsLimit$Titles", "add", "(I)I"⟩ ∈ rl_G := rl_wd 203 rfl rfl
set_option maxRecDepth 100000 in
theorem wd_204 : Cond.instanceMethod ⟨"RightsLimit$Titles", "add", "(I)I"⟩ ∈ rl_G := rl_wd 204 rfl rfl
set_option maxRecDepth 100000 in
theorem wd_205 : Cond.selects "RightsLimit$Titles" ⟨"RightsLimit$Titles", "add", "(I)I"⟩ ⟨"RightsLimit$Titles", "add", "(I)I"⟩ ∈ rl_G := rl_wd 205 rfl rfl
set_option maxRecDepth 100000 in
theorem wd_206 : Cond.code ⟨"RightsLimit$Titles", "add", "(I)I"⟩ prog_5_method_3_code 2 (some .int) ∈ rl_G := rl_wd 206 rfl rfl
set_option maxRecDepth 100000 in
theorem wd_211 : Cond.methodLink "RightsLimit" 59 ⟨"RightsLimit$Titles", "has", "(I)Z"⟩ ∈ rl_G := rl_wd 211 rfl rfl
set_option maxRecDepth 100000 in
theorem wd_212 : Cond.instanceMethod ⟨"RightsLimit$Titles", "has", "(I)Z"⟩ ∈ rl_G := rl_wd 212 rfl rfl
set_option maxRecDepth 100000 in
theorem wd_213 : Cond.selects "RightsLimit$Titles" ⟨"RightsLimit$Titles", "has", "(I)Z"⟩ ⟨"RightsLimit$Titles", "has", "(I)Z"⟩ ∈ rl_G := rl_wd 213 rfl rfl
set_option maxRecDepth 100000 in
theorem wd_214 : Cond.code ⟨"RightsLimit$Titles", "has", "(I)Z"⟩ prog_5_method_2_code 2 (some .boolean) ∈ rl_G := rl_wd 214 rfl rfl
set_option maxRecDepth 100000 in
theorem wd_219 : Cond.methodLink "RightsLimit" 66 ⟨"RightsLimit", "isKind", "(I)Z"⟩ ∈ rl_G := rl_wd 219 rfl rfl
set_option maxRecDepth 100000 in
theorem wd_220 : Cond.static ⟨"RightsLimit", "isKind", "(I)Z"⟩ ∈ rl_G := rl_wd 220 rfl rfl
set_option maxRecDepth 100000 in
theorem wd_221 : Cond.code ⟨"RightsLimit", "isKind", "(I)Z"⟩ prog_1_method_27_code 1 (some .boolean) ∈ rl_G := rl_wd 221 rfl rfl
set_option maxRecDepth 100000 in
theorem wd_222 : Cond.methodLink "RightsLimit" 69 ⟨"RightsLimit", "isDays", "(I)Z"⟩ ∈ rl_G := rl_wd 222 rfl rfl
set_option maxRecDepth 100000 in
theorem wd_223 : Cond.static ⟨"RightsLimit", "isDays", "(I)Z"⟩ ∈ rl_G := rl_wd 223 rfl rfl
set_option maxRecDepth 100000 in
theorem wd_224 : Cond.code ⟨"RightsLimit", "isDays", "(I)Z"⟩ prog_1_method_28_code 1 (some .boolean) ∈ rl_G := rl_wd 224 rfl rfl
set_option maxRecDepth 100000 in
theorem wd_225 : Cond.methodLink "RightsLimit" 72 ⟨"RightsLimit", "isCopies", "(I)Z"⟩ ∈ rl_G := rl_wd 225 rfl rfl
set_option maxRecDepth 100000 in
theorem wd_226 : Cond.static ⟨"RightsLimit", "isCopies", "(I)Z"⟩ ∈ rl_G := rl_wd 226 rfl rfl
set_option maxRecDepth 100000 in
theorem wd_227 : Cond.code ⟨"RightsLimit", "isCopies", "(I)Z"⟩ prog_1_method_29_code 1 (some .boolean) ∈ rl_G := rl_wd 227 rfl rfl
set_option maxRecDepth 100000 in
theorem wd_228 : Cond.methodLink "RightsLimit" 75 ⟨"RightsLimit$Limits", "add", "(IIII)I"⟩ ∈ rl_G := rl_wd 228 rfl rfl
set_option maxRecDepth 100000 in
theorem wd_229 : Cond.instanceMethod ⟨"RightsLimit$Limits", "add", "(IIII)I"⟩ ∈ rl_G := rl_wd 229 rfl rfl
set_option maxRecDepth 100000 in
theorem wd_230 : Cond.selects "RightsLimit$Limits" ⟨"RightsLimit$Limits", "add", "(IIII)I"⟩ ⟨"RightsLimit$Limits", "add", "(IIII)I"⟩ ∈ rl_G := rl_wd 230 rfl rfl
set_option maxRecDepth 100000 in
theorem wd_231 : Cond.code ⟨"RightsLimit$Limits", "add", "(IIII)I"⟩ prog_3_method_2_code 5 (some .int) ∈ rl_G := rl_wd 231 rfl rfl
set_option maxRecDepth 100000 in
theorem wd_236 : Cond.methodLink "RightsLimit" 78 ⟨"RightsLimit", "isTime", "(I)Z"⟩ ∈ rl_G := rl_wd 236 rfl rfl
set_option maxRecDepth 100000 in
theorem wd_237 : Cond.static ⟨"RightsLimit", "isTime", "(I)Z"⟩ ∈ rl_G := rl_wd 237 rfl rfl
set_option maxRecDepth 100000 in
theorem wd_238 : Cond.code ⟨"RightsLimit", "isTime", "(I)Z"⟩ prog_1_method_24_code 1 (some .boolean) ∈ rl_G := rl_wd 238 rfl rfl
set_option maxRecDepth 100000 in
theorem wd_239 : Cond.constant "RightsLimit" 225 1000000000 ∈ rl_G := rl_wd 239 rfl rfl
set_option maxRecDepth 100000 in
theorem wd_240 : Cond.methodLink "RightsLimit" 81 ⟨"RightsLimit$Licences", "add", "(IIIII)I"⟩ ∈ rl_G := rl_wd 240 rfl rfl
set_option maxRecDepth 100000 in
theorem wd_241 : Cond.instanceMethod ⟨"RightsLimit$Licences", "add", "(IIIII)I"⟩ ∈ rl_G := rl_wd 241 rfl rfl
set_option maxRecDepth 100000 in
theorem wd_242 : Cond.selects "RightsLimit$Licences" ⟨"RightsLimit$Licences", "add", "(IIIII)I"⟩ ⟨"RightsLimit$Licences", "add", "(IIIII)I"⟩ ∈ rl_G := rl_wd 242 rfl rfl
set_option maxRecDepth 100000 in
theorem wd_243 : Cond.code ⟨"RightsLimit$Licences", "add", "(IIIII)I"⟩ prog_2_method_3_code 6 (some .int) ∈ rl_G := rl_wd 243 rfl rfl
set_option maxRecDepth 100000 in
theorem wd_252 : Cond.methodLink "RightsLimit" 88 ⟨"RightsLimit", "isPerson", "(I)Z"⟩ ∈ rl_G := rl_wd 252 rfl rfl
set_option maxRecDepth 100000 in
theorem wd_253 : Cond.static ⟨"RightsLimit", "isPerson", "(I)Z"⟩ ∈ rl_G := rl_wd 253 rfl rfl
set_option maxRecDepth 100000 in
theorem wd_254 : Cond.code ⟨"RightsLimit", "isPerson", "(I)Z"⟩ prog_1_method_26_code 1 (some .boolean) ∈ rl_G := rl_wd 254 rfl rfl
set_option maxRecDepth 100000 in
theorem wd_255 : Cond.methodLink "RightsLimit" 91 ⟨"RightsLimit", "goOnTo", "(I)Z"⟩ ∈ rl_G := rl_wd 255 rfl rfl
set_option maxRecDepth 100000 in
theorem wd_257 : Cond.instanceMethod ⟨"RightsLimit", "goOnTo", "(I)Z"⟩ ∈ rl_G := rl_wd 257 rfl rfl
set_option maxRecDepth 100000 in
theorem wd_258 : Cond.code ⟨"RightsLimit", "goOnTo", "(I)Z"⟩ prog_1_method_23_code 2 (some .boolean) ∈ rl_G := rl_wd 258 rfl rfl
set_option maxRecDepth 100000 in
theorem wd_259 : Cond.methodLink "RightsLimit" 94 ⟨"RightsLimit$Requests", "add", "(IIIII)I"⟩ ∈ rl_G := rl_wd 259 rfl rfl
set_option maxRecDepth 100000 in
theorem wd_260 : Cond.instanceMethod ⟨"RightsLimit$Requests", "add", "(IIIII)I"⟩ ∈ rl_G := rl_wd 260 rfl rfl
set_option maxRecDepth 100000 in
theorem wd_261 : Cond.selects "RightsLimit$Requests" ⟨"RightsLimit$Requests", "add", "(IIIII)I"⟩ ⟨"RightsLimit$Requests", "add", "(IIIII)I"⟩ ∈ rl_G := rl_wd 261 rfl rfl
set_option maxRecDepth 100000 in
theorem wd_262 : Cond.code ⟨"RightsLimit$Requests", "add", "(IIIII)I"⟩ prog_4_method_3_code 6 (some .int) ∈ rl_G := rl_wd 262 rfl rfl
set_option maxRecDepth 100000 in
theorem wd_263 : Cond.methodLink "RightsLimit" 95 ⟨"RightsLimit", "decide", "(IIII)V"⟩ ∈ rl_G := rl_wd 263 rfl rfl
set_option maxRecDepth 100000 in
theorem wd_265 : Cond.instanceMethod ⟨"RightsLimit", "decide", "(IIII)V"⟩ ∈ rl_G := rl_wd 265 rfl rfl
set_option maxRecDepth 100000 in
theorem wd_266 : Cond.code ⟨"RightsLimit", "decide", "(IIII)V"⟩ prog_1_method_19_code 7 none ∈ rl_G := rl_wd 266 rfl rfl
set_option maxRecDepth 100000 in
theorem wd_267 : Cond.methodLink "RightsLimit" 192 ⟨"RightsLimit$Requests", "allow", "(II)V"⟩ ∈ rl_G := rl_wd 267 rfl rfl
set_option maxRecDepth 100000 in
theorem wd_268 : Cond.instanceMethod ⟨"RightsLimit$Requests", "allow", "(II)V"⟩ ∈ rl_G := rl_wd 268 rfl rfl
set_option maxRecDepth 100000 in
theorem wd_269 : Cond.selects "RightsLimit$Requests" ⟨"RightsLimit$Requests", "allow", "(II)V"⟩ ⟨"RightsLimit$Requests", "allow", "(II)V"⟩ ∈ rl_G := rl_wd 269 rfl rfl
set_option maxRecDepth 100000 in
theorem wd_270 : Cond.code ⟨"RightsLimit$Requests", "allow", "(II)V"⟩ prog_4_method_4_code 3 none ∈ rl_G := rl_wd 270 rfl rfl
set_option maxRecDepth 100000 in
theorem wd_271 : Cond.constant "RightsLimit$Requests" 52 2592000 ∈ rl_G := rl_wd 271 rfl rfl
set_option maxRecDepth 100000 in
theorem wd_272 : Cond.methodLink "RightsLimit" 196 ⟨"RightsLimit$Licences", "firstThatHolds", "(III)I"⟩ ∈ rl_G := rl_wd 272 rfl rfl
set_option maxRecDepth 100000 in
theorem wd_273 : Cond.instanceMethod ⟨"RightsLimit$Licences", "firstThatHolds", "(III)I"⟩ ∈ rl_G := rl_wd 273 rfl rfl
set_option maxRecDepth 100000 in
theorem wd_274 : Cond.selects "RightsLimit$Licences" ⟨"RightsLimit$Licences", "firstThatHolds", "(III)I"⟩ ⟨"RightsLimit$Licences", "firstThatHolds", "(III)I"⟩ ∈ rl_G := rl_wd 274 rfl rfl
set_option maxRecDepth 100000 in
theorem wd_275 : Cond.code ⟨"RightsLimit$Licences", "firstThatHolds", "(III)I"⟩ prog_2_method_4_code 5 (some .int) ∈ rl_G := rl_wd 275 rfl rfl
set_option maxRecDepth 100000 in
theorem wd_277 : Cond.methodLink "RightsLimit" 200 ⟨"RightsLimit", "firstLimitReached", "(III)I"⟩ ∈ rl_G := rl_wd 277 rfl rfl
set_option maxRecDepth 100000 in
theorem wd_279 : Cond.instanceMethod ⟨"RightsLimit", "firstLimitReached", "(III)I"⟩ ∈ rl_G := rl_wd 279 rfl rfl
set_option maxRecDepth 100000 in
theorem wd_280 : Cond.code ⟨"RightsLimit", "firstLimitReached", "(III)I"⟩ prog_1_method_21_code 5 (some .int) ∈ rl_G := rl_wd 280 rfl rfl
set_option maxRecDepth 100000 in
theorem wd_281 : Cond.methodLink "RightsLimit" 216 ⟨"RightsLimit$Limits", "isOf", "(III)Z"⟩ ∈ rl_G := rl_wd 281 rfl rfl
set_option maxRecDepth 100000 in
theorem wd_282 : Cond.instanceMethod ⟨"RightsLimit$Limits", "isOf", "(III)Z"⟩ ∈ rl_G := rl_wd 282 rfl rfl
set_option maxRecDepth 100000 in
theorem wd_283 : Cond.selects "RightsLimit$Limits" ⟨"RightsLimit$Limits", "isOf", "(III)Z"⟩ ⟨"RightsLimit$Limits", "isOf", "(III)Z"⟩ ∈ rl_G := rl_wd 283 rfl rfl
set_option maxRecDepth 100000 in
theorem wd_284 : Cond.code ⟨"RightsLimit$Limits", "isOf", "(III)Z"⟩ prog_3_method_3_code 4 (some .boolean) ∈ rl_G := rl_wd 284 rfl rfl
set_option maxRecDepth 100000 in
theorem wd_285 : Cond.methodLink "RightsLimit" 128 ⟨"RightsLimit$Requests", "countInSpan", "(IIII)I"⟩ ∈ rl_G := rl_wd 285 rfl rfl
set_option maxRecDepth 100000 in
theorem wd_286 : Cond.instanceMethod ⟨"RightsLimit$Requests", "countInSpan", "(IIII)I"⟩ ∈ rl_G := rl_wd 286 rfl rfl
set_option maxRecDepth 100000 in
theorem wd_287 : Cond.selects "RightsLimit$Requests" ⟨"RightsLimit$Requests", "countInSpan", "(IIII)I"⟩ ⟨"RightsLimit$Requests", "countInSpan", "(IIII)I"⟩ ∈ rl_G := rl_wd 287 rfl rfl
set_option maxRecDepth 100000 in
theorem wd_288 : Cond.code ⟨"RightsLimit$Requests", "countInSpan", "(IIII)I"⟩ prog_4_method_12_code 8 (some .int) ∈ rl_G := rl_wd 288 rfl rfl
set_option maxRecDepth 100000 in
theorem wd_289 : Cond.constant "RightsLimit$Requests" 64 86400 ∈ rl_G := rl_wd 289 rfl rfl
set_option maxRecDepth 100000 in
theorem wd_290 : Cond.methodLink "RightsLimit$Requests" 65 ⟨"RightsLimit$Requests", "countsForLimits", "(I)Z"⟩ ∈ rl_G := rl_wd 290 rfl rfl
set_option maxRecDepth 100000 in
theorem wd_291 : Cond.instanceMethod ⟨"RightsLimit$Requests", "countsForLimits", "(I)Z"⟩ ∈ rl_G := rl_wd 291 rfl rfl
set_option maxRecDepth 100000 in
theorem wd_292 : Cond.selects "RightsLimit$Requests" ⟨"RightsLimit$Requests", "countsForLimits", "(I)Z"⟩ ⟨"RightsLimit$Requests", "countsForLimits", "(I)Z"⟩ ∈ rl_G := rl_wd 292 rfl rfl
set_option maxRecDepth 100000 in
theorem wd_293 : Cond.code ⟨"RightsLimit$Requests", "countsForLimits", "(I)Z"⟩ prog_4_method_11_code 3 (some .boolean) ∈ rl_G := rl_wd 293 rfl rfl
set_option maxRecDepth 100000 in
theorem wd_295 : Cond.methodLink "RightsLimit" 203 ⟨"RightsLimit", "decideBeyondLimits", "(III)V"⟩ ∈ rl_G := rl_wd 295 rfl rfl
set_option maxRecDepth 100000 in
theorem wd_297 : Cond.instanceMethod ⟨"RightsLimit", "decideBeyondLimits", "(III)V"⟩ ∈ rl_G := rl_wd 297 rfl rfl
set_option maxRecDepth 100000 in
theorem wd_298 : Cond.code ⟨"RightsLimit", "decideBeyondLimits", "(III)V"⟩ prog_1_method_20_code 5 none ∈ rl_G := rl_wd 298 rfl rfl
set_option maxRecDepth 100000 in
theorem wd_299 : Cond.methodLink "RightsLimit" 210 ⟨"RightsLimit$Requests", "charge", "(II)V"⟩ ∈ rl_G := rl_wd 299 rfl rfl
set_option maxRecDepth 100000 in
theorem wd_300 : Cond.instanceMethod ⟨"RightsLimit$Requests", "charge", "(II)V"⟩ ∈ rl_G := rl_wd 300 rfl rfl
set_option maxRecDepth 100000 in
theorem wd_301 : Cond.selects "RightsLimit$Requests" ⟨"RightsLimit$Requests", "charge", "(II)V"⟩ ⟨"RightsLimit$Requests", "charge", "(II)V"⟩ ∈ rl_G := rl_wd 301 rfl rfl
set_option maxRecDepth 100000 in
theorem wd_302 : Cond.code ⟨"RightsLimit$Requests", "charge", "(II)V"⟩ prog_4_method_5_code 3 none ∈ rl_G := rl_wd 302 rfl rfl
set_option maxRecDepth 100000 in
theorem wd_303 : Cond.methodLink "RightsLimit" 99 ⟨"RightsLimit$Requests", "isCopy", "(I)Z"⟩ ∈ rl_G := rl_wd 303 rfl rfl
set_option maxRecDepth 100000 in
theorem wd_304 : Cond.instanceMethod ⟨"RightsLimit$Requests", "isCopy", "(I)Z"⟩ ∈ rl_G := rl_wd 304 rfl rfl
set_option maxRecDepth 100000 in
theorem wd_305 : Cond.selects "RightsLimit$Requests" ⟨"RightsLimit$Requests", "isCopy", "(I)Z"⟩ ⟨"RightsLimit$Requests", "isCopy", "(I)Z"⟩ ∈ rl_G := rl_wd 305 rfl rfl
set_option maxRecDepth 100000 in
theorem wd_306 : Cond.code ⟨"RightsLimit$Requests", "isCopy", "(I)Z"⟩ prog_4_method_7_code 2 (some .boolean) ∈ rl_G := rl_wd 306 rfl rfl
set_option maxRecDepth 100000 in
theorem wd_323 : Cond.methodLink "RightsLimit" 105 ⟨"RightsLimit", "mayWaive", "(II)Z"⟩ ∈ rl_G := rl_wd 323 rfl rfl
set_option maxRecDepth 100000 in
theorem wd_325 : Cond.instanceMethod ⟨"RightsLimit", "mayWaive", "(II)Z"⟩ ∈ rl_G := rl_wd 325 rfl rfl
set_option maxRecDepth 100000 in
theorem wd_326 : Cond.code ⟨"RightsLimit", "mayWaive", "(II)Z"⟩ prog_1_method_22_code 4 (some .boolean) ∈ rl_G := rl_wd 326 rfl rfl
set_option maxRecDepth 100000 in
theorem wd_331 : Cond.methodLink "RightsLimit" 112 ⟨"RightsLimit$Requests", "has", "(I)Z"⟩ ∈ rl_G := rl_wd 331 rfl rfl
set_option maxRecDepth 100000 in
theorem wd_332 : Cond.instanceMethod ⟨"RightsLimit$Requests", "has", "(I)Z"⟩ ∈ rl_G := rl_wd 332 rfl rfl
set_option maxRecDepth 100000 in
theorem wd_333 : Cond.selects "RightsLimit$Requests" ⟨"RightsLimit$Requests", "has", "(I)Z"⟩ ⟨"RightsLimit$Requests", "has", "(I)Z"⟩ ∈ rl_G := rl_wd 333 rfl rfl
set_option maxRecDepth 100000 in
theorem wd_334 : Cond.code ⟨"RightsLimit$Requests", "has", "(I)Z"⟩ prog_4_method_2_code 2 (some .boolean) ∈ rl_G := rl_wd 334 rfl rfl
set_option maxRecDepth 100000 in
theorem wd_335 : Cond.methodLink "RightsLimit" 113 ⟨"RightsLimit$Requests", "isRenewable", "(II)Z"⟩ ∈ rl_G := rl_wd 335 rfl rfl
set_option maxRecDepth 100000 in
theorem wd_336 : Cond.instanceMethod ⟨"RightsLimit$Requests", "isRenewable", "(II)Z"⟩ ∈ rl_G := rl_wd 336 rfl rfl
set_option maxRecDepth 100000 in
theorem wd_337 : Cond.selects "RightsLimit$Requests" ⟨"RightsLimit$Requests", "isRenewable", "(II)Z"⟩ ⟨"RightsLimit$Requests", "isRenewable", "(II)Z"⟩ ∈ rl_G := rl_wd 337 rfl rfl
set_option maxRecDepth 100000 in
theorem wd_338 : Cond.code ⟨"RightsLimit$Requests", "isRenewable", "(II)Z"⟩ prog_4_method_10_code 3 (some .boolean) ∈ rl_G := rl_wd 338 rfl rfl
set_option maxRecDepth 100000 in
theorem wd_339 : Cond.methodLink "RightsLimit$Requests" 57 ⟨"RightsLimit$Requests", "isKept", "(I)Z"⟩ ∈ rl_G := rl_wd 339 rfl rfl
set_option maxRecDepth 100000 in
theorem wd_340 : Cond.instanceMethod ⟨"RightsLimit$Requests", "isKept", "(I)Z"⟩ ∈ rl_G := rl_wd 340 rfl rfl
set_option maxRecDepth 100000 in
theorem wd_341 : Cond.selects "RightsLimit$Requests" ⟨"RightsLimit$Requests", "isKept", "(I)Z"⟩ ⟨"RightsLimit$Requests", "isKept", "(I)Z"⟩ ∈ rl_G := rl_wd 341 rfl rfl
set_option maxRecDepth 100000 in
theorem wd_342 : Cond.code ⟨"RightsLimit$Requests", "isKept", "(I)Z"⟩ prog_4_method_8_code 2 (some .boolean) ∈ rl_G := rl_wd 342 rfl rfl
set_option maxRecDepth 100000 in
theorem wd_343 : Cond.methodLink "RightsLimit$Requests" 53 ⟨"RightsLimit$Requests", "isCopy", "(I)Z"⟩ ∈ rl_G := rl_wd 343 rfl rfl
set_option maxRecDepth 100000 in
theorem wd_344 : Cond.methodLink "RightsLimit$Requests" 60 ⟨"RightsLimit$Requests", "hasEnded", "(II)Z"⟩ ∈ rl_G := rl_wd 344 rfl rfl
set_option maxRecDepth 100000 in
theorem wd_345 : Cond.instanceMethod ⟨"RightsLimit$Requests", "hasEnded", "(II)Z"⟩ ∈ rl_G := rl_wd 345 rfl rfl
set_option maxRecDepth 100000 in
theorem wd_346 : Cond.selects "RightsLimit$Requests" ⟨"RightsLimit$Requests", "hasEnded", "(II)Z"⟩ ⟨"RightsLimit$Requests", "hasEnded", "(II)Z"⟩ ∈ rl_G := rl_wd 346 rfl rfl
set_option maxRecDepth 100000 in
theorem wd_347 : Cond.code ⟨"RightsLimit$Requests", "hasEnded", "(II)Z"⟩ prog_4_method_9_code 3 (some .boolean) ∈ rl_G := rl_wd 347 rfl rfl
set_option maxRecDepth 100000 in
theorem wd_348 : Cond.methodLink "RightsLimit" 116 ⟨"RightsLimit$Requests", "prolong", "(I)I"⟩ ∈ rl_G := rl_wd 348 rfl rfl
set_option maxRecDepth 100000 in
theorem wd_349 : Cond.instanceMethod ⟨"RightsLimit$Requests", "prolong", "(I)I"⟩ ∈ rl_G := rl_wd 349 rfl rfl
set_option maxRecDepth 100000 in
theorem wd_350 : Cond.selects "RightsLimit$Requests" ⟨"RightsLimit$Requests", "prolong", "(I)I"⟩ ⟨"RightsLimit$Requests", "prolong", "(I)I"⟩ ∈ rl_G := rl_wd 350 rfl rfl
set_option maxRecDepth 100000 in
theorem wd_351 : Cond.code ⟨"RightsLimit$Requests", "prolong", "(I)I"⟩ prog_4_method_6_code 2 (some .int) ∈ rl_G := rl_wd 351 rfl rfl
set_option maxRecDepth 100000 in
theorem wd_356 : Cond.methodLink "RightsLimit" 119 ⟨"RightsLimit$Requests", "isKept", "(I)Z"⟩ ∈ rl_G := rl_wd 356 rfl rfl
set_option maxRecDepth 100000 in
theorem wd_357 : Cond.methodLink "RightsLimit" 125 ⟨"RightsLimit$Requests", "hasEnded", "(II)Z"⟩ ∈ rl_G := rl_wd 357 rfl rfl
set_option maxRecDepth 100000 in
theorem wd_366 : Cond.methodLink "RightsLimit" 170 ⟨"RightsLimit$Licences", "has", "(I)Z"⟩ ∈ rl_G := rl_wd 366 rfl rfl
set_option maxRecDepth 100000 in
theorem wd_367 : Cond.instanceMethod ⟨"RightsLimit$Licences", "has", "(I)Z"⟩ ∈ rl_G := rl_wd 367 rfl rfl
set_option maxRecDepth 100000 in
theorem wd_368 : Cond.selects "RightsLimit$Licences" ⟨"RightsLimit$Licences", "has", "(I)Z"⟩ ⟨"RightsLimit$Licences", "has", "(I)Z"⟩ ∈ rl_G := rl_wd 368 rfl rfl
set_option maxRecDepth 100000 in
theorem wd_369 : Cond.code ⟨"RightsLimit$Licences", "has", "(I)Z"⟩ prog_2_method_2_code 2 (some .boolean) ∈ rl_G := rl_wd 369 rfl rfl
set_option maxRecDepth 100000 in
theorem wd_374 : Cond.methodLink "RightsLimit" 174 ⟨"RightsLimit$Requests", "countOf", "(I)I"⟩ ∈ rl_G := rl_wd 374 rfl rfl
set_option maxRecDepth 100000 in
theorem wd_375 : Cond.instanceMethod ⟨"RightsLimit$Requests", "countOf", "(I)I"⟩ ∈ rl_G := rl_wd 375 rfl rfl
set_option maxRecDepth 100000 in
theorem wd_376 : Cond.selects "RightsLimit$Requests" ⟨"RightsLimit$Requests", "countOf", "(I)I"⟩ ⟨"RightsLimit$Requests", "countOf", "(I)I"⟩ ∈ rl_G := rl_wd 376 rfl rfl
set_option maxRecDepth 100000 in
theorem wd_377 : Cond.code ⟨"RightsLimit$Requests", "countOf", "(I)I"⟩ prog_4_method_14_code 4 (some .int) ∈ rl_G := rl_wd 377 rfl rfl
set_option maxRecDepth 100000 in
theorem wd_378 : Cond.methodLink "RightsLimit" 177 ⟨"RightsLimit$Requests", "countRefusedOf", "(I)I"⟩ ∈ rl_G := rl_wd 378 rfl rfl
set_option maxRecDepth 100000 in
theorem wd_379 : Cond.instanceMethod ⟨"RightsLimit$Requests", "countRefusedOf", "(I)I"⟩ ∈ rl_G := rl_wd 379 rfl rfl
set_option maxRecDepth 100000 in
theorem wd_380 : Cond.selects "RightsLimit$Requests" ⟨"RightsLimit$Requests", "countRefusedOf", "(I)I"⟩ ⟨"RightsLimit$Requests", "countRefusedOf", "(I)I"⟩ ∈ rl_G := rl_wd 380 rfl rfl
set_option maxRecDepth 100000 in
theorem wd_381 : Cond.code ⟨"RightsLimit$Requests", "countRefusedOf", "(I)I"⟩ prog_4_method_15_code 4 (some .int) ∈ rl_G := rl_wd 381 rfl rfl
set_option maxRecDepth 100000 in
theorem wd_382 : Cond.methodLink "RightsLimit" 180 ⟨"RightsLimit$Requests", "pagesAllowedTo", "(I)I"⟩ ∈ rl_G := rl_wd 382 rfl rfl
set_option maxRecDepth 100000 in
theorem wd_383 : Cond.instanceMethod ⟨"RightsLimit$Requests", "pagesAllowedTo", "(I)I"⟩ ∈ rl_G := rl_wd 383 rfl rfl
set_option maxRecDepth 100000 in
theorem wd_384 : Cond.selects "RightsLimit$Requests" ⟨"RightsLimit$Requests", "pagesAllowedTo", "(I)I"⟩ ⟨"RightsLimit$Requests", "pagesAllowedTo", "(I)I"⟩ ∈ rl_G := rl_wd 384 rfl rfl
set_option maxRecDepth 100000 in
theorem wd_385 : Cond.code ⟨"RightsLimit$Requests", "pagesAllowedTo", "(I)I"⟩ prog_4_method_16_code 4 (some .int) ∈ rl_G := rl_wd 385 rfl rfl
set_option maxRecDepth 100000 in
theorem wd_386 : Cond.methodLink "RightsLimit" 183 ⟨"RightsLimit$Requests", "centsOf", "(I)I"⟩ ∈ rl_G := rl_wd 386 rfl rfl
set_option maxRecDepth 100000 in
theorem wd_387 : Cond.instanceMethod ⟨"RightsLimit$Requests", "centsOf", "(I)I"⟩ ∈ rl_G := rl_wd 387 rfl rfl
set_option maxRecDepth 100000 in
theorem wd_388 : Cond.selects "RightsLimit$Requests" ⟨"RightsLimit$Requests", "centsOf", "(I)I"⟩ ⟨"RightsLimit$Requests", "centsOf", "(I)I"⟩ ∈ rl_G := rl_wd 388 rfl rfl
set_option maxRecDepth 100000 in
theorem wd_389 : Cond.code ⟨"RightsLimit$Requests", "centsOf", "(I)I"⟩ prog_4_method_17_code 4 (some .int) ∈ rl_G := rl_wd 389 rfl rfl
set_option maxRecDepth 100000 in
theorem wd_398 : Cond.classLink "RightsLimit" 131 "java/util/NoSuchElementException" ∈ rl_G := rl_wd 398 rfl rfl
set_option maxRecDepth 100000 in
theorem wd_472 : Cond.methodLink "RightsLimit" 186 ⟨"RightsLimit$Requests", "endedAt", "(II)I"⟩ ∈ rl_G := rl_wd 472 rfl rfl
set_option maxRecDepth 100000 in
theorem wd_473 : Cond.instanceMethod ⟨"RightsLimit$Requests", "endedAt", "(II)I"⟩ ∈ rl_G := rl_wd 473 rfl rfl
set_option maxRecDepth 100000 in
theorem wd_474 : Cond.selects "RightsLimit$Requests" ⟨"RightsLimit$Requests", "endedAt", "(II)I"⟩ ⟨"RightsLimit$Requests", "endedAt", "(II)I"⟩ ∈ rl_G := rl_wd 474 rfl rfl
set_option maxRecDepth 100000 in
theorem wd_475 : Cond.code ⟨"RightsLimit$Requests", "endedAt", "(II)I"⟩ prog_4_method_13_code 5 (some .int) ∈ rl_G := rl_wd 475 rfl rfl
set_option maxRecDepth 100000 in
theorem wd_482 : Cond.methodLink "RightsLimitModel" 1 ⟨"java/lang/Object", "<init>", "()V"⟩ ∈ rl_G := rl_wd 482 rfl rfl
set_option maxRecDepth 100000 in
theorem wd_483 : Cond.fieldLink "RightsLimitModel" 93 "RightsLimitModel" "thrown" "I" ∈ rl_G := rl_wd 483 rfl rfl
set_option maxRecDepth 100000 in
theorem wd_484 : Cond.fieldLink "RightsLimitModel" 103 "RightsLimitModel" "now" "I" ∈ rl_G := rl_wd 484 rfl rfl
set_option maxRecDepth 100000 in
theorem wd_485 : Cond.fieldLink "RightsLimitModel" 96 "RightsLimitModel" "titles" "I" ∈ rl_G := rl_wd 485 rfl rfl
set_option maxRecDepth 100000 in
theorem wd_486 : Cond.fieldLink "RightsLimitModel" 7 "RightsLimitModel" "publisher" "[I" ∈ rl_G := rl_wd 486 rfl rfl
set_option maxRecDepth 100000 in
theorem wd_487 : Cond.fieldLink "RightsLimitModel" 13 "RightsLimitModel" "isOpen" "[Z" ∈ rl_G := rl_wd 487 rfl rfl
set_option maxRecDepth 100000 in
theorem wd_488 : Cond.fieldLink "RightsLimitModel" 17 "RightsLimitModel" "titleRight" "[I" ∈ rl_G := rl_wd 488 rfl rfl
set_option maxRecDepth 100000 in
theorem wd_489 : Cond.fieldLink "RightsLimitModel" 20 "RightsLimitModel" "waivers" "[I" ∈ rl_G := rl_wd 489 rfl rfl
set_option maxRecDepth 100000 in
theorem wd_490 : Cond.fieldLink "RightsLimitModel" 23 "RightsLimitModel" "fees" "[I" ∈ rl_G := rl_wd 490 rfl rfl
set_option maxRecDepth 100000 in
theorem wd_491 : Cond.fieldLink "RightsLimitModel" 26 "RightsLimitModel" "rights" "[Z" ∈ rl_G := rl_wd 491 rfl rfl
set_option maxRecDepth 100000 in
theorem wd_492 : Cond.fieldLink "RightsLimitModel" 111 "RightsLimitModel" "limits" "I" ∈ rl_G := rl_wd 492 rfl rfl
set_option maxRecDepth 100000 in
theorem wd_493 : Cond.fieldLink "RightsLimitModel" 29 "RightsLimitModel" "limitTitle" "[I" ∈ rl_G := rl_wd 493 rfl rfl
set_option maxRecDepth 100000 in
theorem wd_494 : Cond.fieldLink "RightsLimitModel" 32 "RightsLimitModel" "limitKind" "[I" ∈ rl_G := rl_wd 494 rfl rfl
set_option maxRecDepth 100000 in
theorem wd_495 : Cond.fieldLink "RightsLimitModel" 35 "RightsLimitModel" "limitDays" "[I" ∈ rl_G := rl_wd 495 rfl rfl
set_option maxRecDepth 100000 in
theorem wd_496 : Cond.fieldLink "RightsLimitModel" 38 "RightsLimitModel" "limitMost" "[I" ∈ rl_G := rl_wd 496 rfl rfl
set_option maxRecDepth 100000 in
theorem wd_497 : Cond.fieldLink "RightsLimitModel" 114 "RightsLimitModel" "licences" "I" ∈ rl_G := rl_wd 497 rfl rfl
set_option maxRecDepth 100000 in
theorem wd_498 : Cond.fieldLink "RightsLimitModel" 41 "RightsLimitModel" "licenceTitle" "[I" ∈ rl_G := rl_wd 498 rfl rfl
set_option maxRecDepth 100000 in
theorem wd_499 : Cond.fieldLink "RightsLimitModel" 44 "RightsLimitModel" "licenceKind" "[I" ∈ rl_G := rl_wd 499 rfl rfl
set_option maxRecDepth 100000 in
theorem wd_500 : Cond.fieldLink "RightsLimitModel" 47 "RightsLimitModel" "licenceLeft" "[I" ∈ rl_G := rl_wd 500 rfl rfl
set_option maxRecDepth 100000 in
theorem wd_501 : Cond.fieldLink "RightsLimitModel" 50 "RightsLimitModel" "licenceFrom" "[I" ∈ rl_G := rl_wd 501 rfl rfl
set_option maxRecDepth 100000 in
theorem wd_502 : Cond.fieldLink "RightsLimitModel" 53 "RightsLimitModel" "licenceTo" "[I" ∈ rl_G := rl_wd 502 rfl rfl
set_option maxRecDepth 100000 in
theorem wd_503 : Cond.fieldLink "RightsLimitModel" 117 "RightsLimitModel" "requests" "I" ∈ rl_G := rl_wd 503 rfl rfl
set_option maxRecDepth 100000 in
theorem wd_504 : Cond.fieldLink "RightsLimitModel" 56 "RightsLimitModel" "person" "[I" ∈ rl_G := rl_wd 504 rfl rfl
set_option maxRecDepth 100000 in
theorem wd_505 : Cond.fieldLink "RightsLimitModel" 59 "RightsLimitModel" "title" "[I" ∈ rl_G := rl_wd 505 rfl rfl
set_option maxRecDepth 100000 in
theorem wd_506 : Cond.fieldLink "RightsLimitModel" 62 "RightsLimitModel" "kind" "[I" ∈ rl_G := rl_wd 506 rfl rfl
set_option maxRecDepth 100000 in
theorem wd_507 : Cond.fieldLink "RightsLimitModel" 65 "RightsLimitModel" "pages" "[I" ∈ rl_G := rl_wd 507 rfl rfl
set_option maxRecDepth 100000 in
theorem wd_508 : Cond.fieldLink "RightsLimitModel" 68 "RightsLimitModel" "time" "[I" ∈ rl_G := rl_wd 508 rfl rfl
set_option maxRecDepth 100000 in
theorem wd_509 : Cond.fieldLink "RightsLimitModel" 71 "RightsLimitModel" "by" "[I" ∈ rl_G := rl_wd 509 rfl rfl
set_option maxRecDepth 100000 in
theorem wd_510 : Cond.fieldLink "RightsLimitModel" 74 "RightsLimitModel" "byLicence" "[I" ∈ rl_G := rl_wd 510 rfl rfl
set_option maxRecDepth 100000 in
theorem wd_511 : Cond.fieldLink "RightsLimitModel" 77 "RightsLimitModel" "fee" "[I" ∈ rl_G := rl_wd 511 rfl rfl
set_option maxRecDepth 100000 in
theorem wd_512 : Cond.fieldLink "RightsLimitModel" 80 "RightsLimitModel" "end" "[I" ∈ rl_G := rl_wd 512 rfl rfl
set_option maxRecDepth 100000 in
theorem wd_513 : Cond.fieldLink "RightsLimitModel" 83 "RightsLimitModel" "renewed" "[I" ∈ rl_G := rl_wd 513 rfl rfl
set_option maxRecDepth 100000 in
theorem wd_514 : Cond.fieldLink "RightsLimitModel" 86 "RightsLimitModel" "deleted" "[I" ∈ rl_G := rl_wd 514 rfl rfl
set_option maxRecDepth 100000 in
theorem wd_515 : Cond.fieldLink "RightsLimitModel" 89 "RightsLimitModel" "why" "I" ∈ rl_G := rl_wd 515 rfl rfl
set_option maxRecDepth 100000 in
theorem wd_587 : Cond.methodLink "RightsLimitModel" 99 ⟨"RightsLimitModel", "in", "(III)Z"⟩ ∈ rl_G := rl_wd 587 rfl rfl
set_option maxRecDepth 100000 in
theorem wd_588 : Cond.static ⟨"RightsLimitModel", "in", "(III)Z"⟩ ∈ rl_G := rl_wd 588 rfl rfl
set_option maxRecDepth 100000 in
theorem wd_589 : Cond.code ⟨"RightsLimitModel", "in", "(III)Z"⟩ prog_7_method_3_code 3 (some .boolean) ∈ rl_G := rl_wd 589 rfl rfl
set_option maxRecDepth 100000 in
theorem wd_594 : Cond.methodLink "RightsLimitModel" 107 ⟨"RightsLimitModel", "isTitle", "(I)Z"⟩ ∈ rl_G := rl_wd 594 rfl rfl
set_option maxRecDepth 100000 in
theorem wd_596 : Cond.instanceMethod ⟨"RightsLimitModel", "isTitle", "(I)Z"⟩ ∈ rl_G := rl_wd 596 rfl rfl
set_option maxRecDepth 100000 in
theorem wd_597 : Cond.code ⟨"RightsLimitModel", "isTitle", "(I)Z"⟩ prog_7_method_4_code 2 (some .boolean) ∈ rl_G := rl_wd 597 rfl rfl
set_option maxRecDepth 100000 in
theorem wd_606 : Cond.constant "RightsLimitModel" 106 1000000000 ∈ rl_G := rl_wd 606 rfl rfl
set_option maxRecDepth 100000 in
theorem wd_615 : Cond.methodLink "RightsLimitModel" 133 ⟨"RightsLimitModel", "isNow", "(I)Z"⟩ ∈ rl_G := rl_wd 615 rfl rfl
set_option maxRecDepth 100000 in
theorem wd_617 : Cond.instanceMethod ⟨"RightsLimitModel", "isNow", "(I)Z"⟩ ∈ rl_G := rl_wd 617 rfl rfl
set_option maxRecDepth 100000 in
theorem wd_618 : Cond.code ⟨"RightsLimitModel", "isNow", "(I)Z"⟩ prog_7_method_5_code 2 (some .boolean) ∈ rl_G := rl_wd 618 rfl rfl
set_option maxRecDepth 100000 in
theorem wd_619 : Cond.methodLink "RightsLimitModel" 136 ⟨"RightsLimitModel", "decide", "(III)I"⟩ ∈ rl_G := rl_wd 619 rfl rfl
set_option maxRecDepth 100000 in
theorem wd_621 : Cond.instanceMethod ⟨"RightsLimitModel", "decide", "(III)I"⟩ ∈ rl_G := rl_wd 621 rfl rfl
set_option maxRecDepth 100000 in
theorem wd_622 : Cond.code ⟨"RightsLimitModel", "decide", "(III)I"⟩ prog_7_method_14_code 4 (some .int) ∈ rl_G := rl_wd 622 rfl rfl
set_option maxRecDepth 100000 in
theorem wd_623 : Cond.methodLink "RightsLimitModel" 126 ⟨"RightsLimitModel", "licenceFor", "(III)I"⟩ ∈ rl_G := rl_wd 623 rfl rfl
set_option maxRecDepth 100000 in
theorem wd_625 : Cond.instanceMethod ⟨"RightsLimitModel", "licenceFor", "(III)I"⟩ ∈ rl_G := rl_wd 625 rfl rfl
set_option maxRecDepth 100000 in
theorem wd_626 : Cond.code ⟨"RightsLimitModel", "licenceFor", "(III)I"⟩ prog_7_method_13_code 5 (some .int) ∈ rl_G := rl_wd 626 rfl rfl
set_option maxRecDepth 100000 in
theorem wd_627 : Cond.methodLink "RightsLimitModel" 130 ⟨"RightsLimitModel", "barrier", "(III)I"⟩ ∈ rl_G := rl_wd 627 rfl rfl
set_option maxRecDepth 100000 in
theorem wd_629 : Cond.instanceMethod ⟨"RightsLimitModel", "barrier", "(III)I"⟩ ∈ rl_G := rl_wd 629 rfl rfl
set_option maxRecDepth 100000 in
theorem wd_630 : Cond.code ⟨"RightsLimitModel", "barrier", "(III)I"⟩ prog_7_method_12_code 5 (some .int) ∈ rl_G := rl_wd 630 rfl rfl
set_option maxRecDepth 100000 in
theorem wd_631 : Cond.methodLink "RightsLimitModel" 122 ⟨"RightsLimitModel", "count", "(IIII)I"⟩ ∈ rl_G := rl_wd 631 rfl rfl
set_option maxRecDepth 100000 in
theorem wd_633 : Cond.instanceMethod ⟨"RightsLimitModel", "count", "(IIII)I"⟩ ∈ rl_G := rl_wd 633 rfl rfl
set_option maxRecDepth 100000 in
theorem wd_634 : Cond.code ⟨"RightsLimitModel", "count", "(IIII)I"⟩ prog_7_method_11_code 7 (some .int) ∈ rl_G := rl_wd 634 rfl rfl
set_option maxRecDepth 100000 in
theorem wd_635 : Cond.constantLong "RightsLimitModel" 120 86400 ∈ rl_G := rl_wd 635 rfl rfl
set_option maxRecDepth 100000 in
theorem wd_636 : Cond.constant "RightsLimitModel" 139 2592000 ∈ rl_G := rl_wd 636 rfl rfl
set_option maxRecDepth 100000 in
theorem wd_669 : Cond.methodLink "RightsLimitModel" 140 ⟨"RightsLimitModel", "cents", "(I)I"⟩ ∈ rl_G := rl_wd 669 rfl rfl
set_option maxRecDepth 100000 in
theorem wd_671 : Cond.instanceMethod ⟨"RightsLimitModel", "cents", "(I)I"⟩ ∈ rl_G := rl_wd 671 rfl rfl
set_option maxRecDepth 100000 in
theorem wd_672 : Cond.code ⟨"RightsLimitModel", "cents", "(I)I"⟩ prog_7_method_23_code 2 (some .int) ∈ rl_G := rl_wd 672 rfl rfl
end
section
theorem d_x_init_0 : decode prog_1_method_1_code 0 = .ok (.aload_n 0, 1) := by decide +kernel
theorem d_x_init_1 : decode prog_1_method_1_code 1 = .ok (.invokespecial 3, 3) := by decide +kernel
theorem d_x_init_4 : decode prog_1_method_1_code 4 = .ok (.aload_n 0, 1) := by decide +kernel
theorem d_x_init_5 : decode prog_1_method_1_code 5 = .ok (.new 9, 3) := by decide +kernel
theorem d_x_init_8 : decode prog_1_method_1_code 8 = .ok (.dup, 1) := by decide +kernel
theorem d_x_init_9 : decode prog_1_method_1_code 9 = .ok (.invokespecial 11, 3) := by decide +kernel
theorem d_x_init_12 : decode prog_1_method_1_code 12 = .ok (.putfield 12, 3) := by decide +kernel
theorem d_x_init_15 : decode prog_1_method_1_code 15 = .ok (.aload_n 0, 1) := by decide +kernel
theorem d_x_init_16 : decode prog_1_method_1_code 16 = .ok (.new 16, 3) := by decide +kernel
theorem d_x_init_19 : decode prog_1_method_1_code 19 = .ok (.dup, 1) := by decide +kernel
theorem d_x_init_20 : decode prog_1_method_1_code 20 = .ok (.invokespecial 18, 3) := by decide +kernel
theorem d_x_init_23 : decode prog_1_method_1_code 23 = .ok (.putfield 19, 3) := by decide +kernel
theorem d_x_init_26 : decode prog_1_method_1_code 26 = .ok (.aload_n 0, 1) := by decide +kernel
theorem d_x_init_27 : decode prog_1_method_1_code 27 = .ok (.new 23, 3) := by decide +kernel
theorem d_x_init_30 : decode prog_1_method_1_code 30 = .ok (.dup, 1) := by decide +kernel
theorem d_x_init_31 : decode prog_1_method_1_code 31 = .ok (.invokespecial 25, 3) := by decide +kernel
theorem d_x_init_34 : decode prog_1_method_1_code 34 = .ok (.putfield 26, 3) := by decide +kernel
theorem d_x_init_37 : decode prog_1_method_1_code 37 = .ok (.aload_n 0, 1) := by decide +kernel
theorem d_x_init_38 : decode prog_1_method_1_code 38 = .ok (.new 30, 3) := by decide +kernel
theorem d_x_init_41 : decode prog_1_method_1_code 41 = .ok (.dup, 1) := by decide +kernel
theorem d_x_init_42 : decode prog_1_method_1_code 42 = .ok (.invokespecial 32, 3) := by decide +kernel
theorem d_x_init_45 : decode prog_1_method_1_code 45 = .ok (.putfield 33, 3) := by decide +kernel
theorem d_x_init_48 : decode prog_1_method_1_code 48 = .ok (.aload_n 0, 1) := by decide +kernel
theorem d_x_init_49 : decode prog_1_method_1_code 49 = .ok (.bipush 100, 2) := by decide +kernel
theorem d_x_init_51 : decode prog_1_method_1_code 51 = .ok (.newarray .int, 2) := by decide +kernel
theorem d_x_init_53 : decode prog_1_method_1_code 53 = .ok (.putfield 37, 3) := by decide +kernel
theorem d_x_init_56 : decode prog_1_method_1_code 56 = .ok (.aload_n 0, 1) := by decide +kernel
theorem d_x_init_57 : decode prog_1_method_1_code 57 = .ok (.bipush 100, 2) := by decide +kernel
theorem d_x_init_59 : decode prog_1_method_1_code 59 = .ok (.newarray .int, 2) := by decide +kernel
theorem d_x_init_61 : decode prog_1_method_1_code 61 = .ok (.putfield 41, 3) := by decide +kernel
theorem d_x_init_64 : decode prog_1_method_1_code 64 = .ok (.aload_n 0, 1) := by decide +kernel
theorem d_x_init_65 : decode prog_1_method_1_code 65 = .ok (.iconst 0, 1) := by decide +kernel
theorem d_x_init_66 : decode prog_1_method_1_code 66 = .ok (.putfield 44, 3) := by decide +kernel
theorem d_x_init_69 : decode prog_1_method_1_code 69 = .ok (.aload_n 0, 1) := by decide +kernel
theorem d_x_init_70 : decode prog_1_method_1_code 70 = .ok (.iconst (-1), 1) := by decide +kernel
theorem d_x_init_71 : decode prog_1_method_1_code 71 = .ok (.putfield 48, 3) := by decide +kernel
theorem d_x_init_74 : decode prog_1_method_1_code 74 = .ok (.return_, 1) := by decide +kernel
theorem d_x_ask_0 : decode prog_1_method_7_code 0 = .ok (.aload_n 0, 1) := by decide +kernel
theorem d_x_ask_1 : decode prog_1_method_7_code 1 = .ok (.getfield 12, 3) := by decide +kernel
theorem d_x_ask_4 : decode prog_1_method_7_code 4 = .ok (.iload_n 2, 1) := by decide +kernel
theorem d_x_ask_5 : decode prog_1_method_7_code 5 = .ok (.invokevirtual 59, 3) := by decide +kernel
theorem d_x_ask_8 : decode prog_1_method_7_code 8 = .ok (.ifCond .ne 5, 3) := by decide +kernel
theorem d_x_ask_11 : decode prog_1_method_7_code 11 = .ok (.iconst (-1), 1) := by decide +kernel
theorem d_x_ask_12 : decode prog_1_method_7_code 12 = .ok (.ireturn, 1) := by decide +kernel
theorem d_x_ask_13 : decode prog_1_method_7_code 13 = .ok (.iload_n 1, 1) := by decide +kernel
theorem d_x_ask_14 : decode prog_1_method_7_code 14 = .ok (.invokestatic 88, 3) := by decide +kernel
theorem d_x_ask_17 : decode prog_1_method_7_code 17 = .ok (.ifCond .eq 22, 3) := by decide +kernel
theorem d_x_ask_20 : decode prog_1_method_7_code 20 = .ok (.iload_n 3, 1) := by decide +kernel
theorem d_x_ask_21 : decode prog_1_method_7_code 21 = .ok (.invokestatic 66, 3) := by decide +kernel
theorem d_x_ask_24 : decode prog_1_method_7_code 24 = .ok (.ifCond .eq 15, 3) := by decide +kernel
theorem d_x_ask_27 : decode prog_1_method_7_code 27 = .ok (.iload 4, 2) := by decide +kernel
theorem d_x_ask_29 : decode prog_1_method_7_code 29 = .ok (.iconst 1, 1) := by decide +kernel
theorem d_x_ask_30 : decode prog_1_method_7_code 30 = .ok (.sipush 1000, 3) := by decide +kernel
theorem d_x_ask_33 : decode prog_1_method_7_code 33 = .ok (.invokestatic 84, 3) := by decide +kernel
theorem d_x_ask_36 : decode prog_1_method_7_code 36 = .ok (.ifCond .ne 6, 3) := by decide +kernel
theorem d_x_ask_39 : decode prog_1_method_7_code 39 = .ok (.bipush (-2), 2) := by decide +kernel
theorem d_x_ask_41 : decode prog_1_method_7_code 41 = .ok (.ireturn, 1) := by decide +kernel
theorem d_x_ask_42 : decode prog_1_method_7_code 42 = .ok (.aload_n 0, 1) := by decide +kernel
theorem d_x_ask_43 : decode prog_1_method_7_code 43 = .ok (.iload 5, 2) := by decide +kernel
theorem d_x_ask_45 : decode prog_1_method_7_code 45 = .ok (.invokevirtual 91, 3) := by decide +kernel
theorem d_x_ask_48 : decode prog_1_method_7_code 48 = .ok (.ifCond .ne 6, 3) := by decide +kernel
theorem d_x_ask_51 : decode prog_1_method_7_code 51 = .ok (.bipush (-2), 2) := by decide +kernel
theorem d_x_ask_53 : decode prog_1_method_7_code 53 = .ok (.ireturn, 1) := by decide +kernel
theorem d_x_ask_54 : decode prog_1_method_7_code 54 = .ok (.aload_n 0, 1) := by decide +kernel
theorem d_x_ask_55 : decode prog_1_method_7_code 55 = .ok (.getfield 33, 3) := by decide +kernel
theorem d_x_ask_58 : decode prog_1_method_7_code 58 = .ok (.iload_n 1, 1) := by decide +kernel
theorem d_x_ask_59 : decode prog_1_method_7_code 59 = .ok (.iload_n 2, 1) := by decide +kernel
theorem d_x_ask_60 : decode prog_1_method_7_code 60 = .ok (.iload_n 3, 1) := by decide +kernel
theorem d_x_ask_61 : decode prog_1_method_7_code 61 = .ok (.iload 4, 2) := by decide +kernel
theorem d_x_ask_63 : decode prog_1_method_7_code 63 = .ok (.iload 5, 2) := by decide +kernel
theorem d_x_ask_65 : decode prog_1_method_7_code 65 = .ok (.invokevirtual 94, 3) := by decide +kernel
theorem d_x_ask_68 : decode prog_1_method_7_code 68 = .ok (.istore 6, 2) := by decide +kernel
theorem d_x_ask_70 : decode prog_1_method_7_code 70 = .ok (.iload 6, 2) := by decide +kernel
theorem d_x_ask_72 : decode prog_1_method_7_code 72 = .ok (.bipush (-4), 2) := by decide +kernel
theorem d_x_ask_74 : decode prog_1_method_7_code 74 = .ok (.if_icmp .ne 6, 3) := by decide +kernel
theorem d_x_ask_77 : decode prog_1_method_7_code 77 = .ok (.bipush (-4), 2) := by decide +kernel
theorem d_x_ask_79 : decode prog_1_method_7_code 79 = .ok (.ireturn, 1) := by decide +kernel
theorem d_x_ask_80 : decode prog_1_method_7_code 80 = .ok (.aload_n 0, 1) := by decide +kernel
theorem d_x_ask_81 : decode prog_1_method_7_code 81 = .ok (.iload 6, 2) := by decide +kernel
theorem d_x_ask_83 : decode prog_1_method_7_code 83 = .ok (.iload_n 2, 1) := by decide +kernel
theorem d_x_ask_84 : decode prog_1_method_7_code 84 = .ok (.iload_n 3, 1) := by decide +kernel
theorem d_x_ask_85 : decode prog_1_method_7_code 85 = .ok (.iload 5, 2) := by decide +kernel
theorem d_x_ask_87 : decode prog_1_method_7_code 87 = .ok (.invokevirtual 95, 3) := by decide +kernel
theorem d_x_ask_90 : decode prog_1_method_7_code 90 = .ok (.aload_n 0, 1) := by decide +kernel
theorem d_x_ask_91 : decode prog_1_method_7_code 91 = .ok (.getfield 33, 3) := by decide +kernel
theorem d_x_ask_94 : decode prog_1_method_7_code 94 = .ok (.iload 6, 2) := by decide +kernel
theorem d_x_ask_96 : decode prog_1_method_7_code 96 = .ok (.invokevirtual 99, 3) := by decide +kernel
theorem d_x_ask_99 : decode prog_1_method_7_code 99 = .ok (.ifCond .eq 8, 3) := by decide +kernel
theorem d_x_ask_102 : decode prog_1_method_7_code 102 = .ok (.iload 6, 2) := by decide +kernel
theorem d_x_ask_104 : decode prog_1_method_7_code 104 = .ok (.goto 8, 3) := by decide +kernel
theorem d_x_ask_107 : decode prog_1_method_7_code 107 = .ok (.bipush (-10), 2) := by decide +kernel
theorem d_x_ask_109 : decode prog_1_method_7_code 109 = .ok (.iload 6, 2) := by decide +kernel
theorem d_x_ask_111 : decode prog_1_method_7_code 111 = .ok (.isub, 1) := by decide +kernel
theorem d_x_ask_112 : decode prog_1_method_7_code 112 = .ok (.ireturn, 1) := by decide +kernel
theorem d_x_counted_0 : decode prog_1_method_14_code 0 = .ok (.aload_n 0, 1) := by decide +kernel
theorem d_x_counted_1 : decode prog_1_method_14_code 1 = .ok (.getfield 12, 3) := by decide +kernel
theorem d_x_counted_4 : decode prog_1_method_14_code 4 = .ok (.iload_n 1, 1) := by decide +kernel
theorem d_x_counted_5 : decode prog_1_method_14_code 5 = .ok (.invokevirtual 59, 3) := by decide +kernel
theorem d_x_counted_8 : decode prog_1_method_14_code 8 = .ok (.ifCond .ne 5, 3) := by decide +kernel
theorem d_x_counted_11 : decode prog_1_method_14_code 11 = .ok (.iconst (-1), 1) := by decide +kernel
theorem d_x_counted_12 : decode prog_1_method_14_code 12 = .ok (.ireturn, 1) := by decide +kernel
theorem d_x_counted_13 : decode prog_1_method_14_code 13 = .ok (.iload_n 2, 1) := by decide +kernel
theorem d_x_counted_14 : decode prog_1_method_14_code 14 = .ok (.invokestatic 66, 3) := by decide +kernel
theorem d_x_counted_17 : decode prog_1_method_14_code 17 = .ok (.ifCond .eq 18, 3) := by decide +kernel
theorem d_x_counted_20 : decode prog_1_method_14_code 20 = .ok (.iload_n 3, 1) := by decide +kernel
theorem d_x_counted_21 : decode prog_1_method_14_code 21 = .ok (.invokestatic 69, 3) := by decide +kernel
theorem d_x_counted_24 : decode prog_1_method_14_code 24 = .ok (.ifCond .eq 11, 3) := by decide +kernel
theorem d_x_counted_27 : decode prog_1_method_14_code 27 = .ok (.iload 4, 2) := by decide +kernel
theorem d_x_counted_29 : decode prog_1_method_14_code 29 = .ok (.invokestatic 78, 3) := by decide +kernel
theorem d_x_counted_32 : decode prog_1_method_14_code 32 = .ok (.ifCond .ne 6, 3) := by decide +kernel
theorem d_x_counted_35 : decode prog_1_method_14_code 35 = .ok (.bipush (-2), 2) := by decide +kernel
theorem d_x_counted_37 : decode prog_1_method_14_code 37 = .ok (.ireturn, 1) := by decide +kernel
theorem d_x_counted_38 : decode prog_1_method_14_code 38 = .ok (.aload_n 0, 1) := by decide +kernel
theorem d_x_counted_39 : decode prog_1_method_14_code 39 = .ok (.getfield 33, 3) := by decide +kernel
theorem d_x_counted_42 : decode prog_1_method_14_code 42 = .ok (.iload_n 1, 1) := by decide +kernel
theorem d_x_counted_43 : decode prog_1_method_14_code 43 = .ok (.iload_n 2, 1) := by decide +kernel
theorem d_x_counted_44 : decode prog_1_method_14_code 44 = .ok (.iload_n 3, 1) := by decide +kernel
theorem d_x_counted_45 : decode prog_1_method_14_code 45 = .ok (.iload 4, 2) := by decide +kernel
theorem d_x_counted_47 : decode prog_1_method_14_code 47 = .ok (.invokevirtual 128, 3) := by decide +kernel
theorem d_x_counted_50 : decode prog_1_method_14_code 50 = .ok (.ireturn, 1) := by decide +kernel
theorem d_x_decide_0 : decode prog_1_method_19_code 0 = .ok (.aload_n 0, 1) := by decide +kernel
theorem d_x_decide_1 : decode prog_1_method_19_code 1 = .ok (.getfield 12, 3) := by decide +kernel
theorem d_x_decide_4 : decode prog_1_method_19_code 4 = .ok (.getfield 62, 3) := by decide +kernel
theorem d_x_decide_7 : decode prog_1_method_19_code 7 = .ok (.iload_n 2, 1) := by decide +kernel
theorem d_x_decide_8 : decode prog_1_method_19_code 8 = .ok (.baload, 1) := by decide +kernel
theorem d_x_decide_9 : decode prog_1_method_19_code 9 = .ok (.ifCond .eq 13, 3) := by decide +kernel
theorem d_x_decide_12 : decode prog_1_method_19_code 12 = .ok (.aload_n 0, 1) := by decide +kernel
theorem d_x_decide_13 : decode prog_1_method_19_code 13 = .ok (.getfield 33, 3) := by decide +kernel
theorem d_x_decide_16 : decode prog_1_method_19_code 16 = .ok (.iload_n 1, 1) := by decide +kernel
theorem d_x_decide_17 : decode prog_1_method_19_code 17 = .ok (.iconst 1, 1) := by decide +kernel
theorem d_x_decide_18 : decode prog_1_method_19_code 18 = .ok (.invokevirtual 192, 3) := by decide +kernel
theorem d_x_decide_21 : decode prog_1_method_19_code 21 = .ok (.return_, 1) := by decide +kernel
theorem d_x_decide_22 : decode prog_1_method_19_code 22 = .ok (.aload_n 0, 1) := by decide +kernel
theorem d_x_decide_23 : decode prog_1_method_19_code 23 = .ok (.getfield 26, 3) := by decide +kernel
theorem d_x_decide_26 : decode prog_1_method_19_code 26 = .ok (.iload_n 2, 1) := by decide +kernel
theorem d_x_decide_27 : decode prog_1_method_19_code 27 = .ok (.iload_n 3, 1) := by decide +kernel
theorem d_x_decide_28 : decode prog_1_method_19_code 28 = .ok (.iload 4, 2) := by decide +kernel
theorem d_x_decide_30 : decode prog_1_method_19_code 30 = .ok (.invokevirtual 196, 3) := by decide +kernel
theorem d_x_decide_33 : decode prog_1_method_19_code 33 = .ok (.istore 5, 2) := by decide +kernel
theorem d_x_decide_35 : decode prog_1_method_19_code 35 = .ok (.iload 5, 2) := by decide +kernel
theorem d_x_decide_37 : decode prog_1_method_19_code 37 = .ok (.iconst (-1), 1) := by decide +kernel
theorem d_x_decide_38 : decode prog_1_method_19_code 38 = .ok (.if_icmp .eq 38, 3) := by decide +kernel
theorem d_x_decide_41 : decode prog_1_method_19_code 41 = .ok (.aload_n 0, 1) := by decide +kernel
theorem d_x_decide_42 : decode prog_1_method_19_code 42 = .ok (.getfield 26, 3) := by decide +kernel
theorem d_x_decide_45 : decode prog_1_method_19_code 45 = .ok (.getfield 171, 3) := by decide +kernel
theorem d_x_decide_48 : decode prog_1_method_19_code 48 = .ok (.iload 5, 2) := by decide +kernel
theorem d_x_decide_50 : decode prog_1_method_19_code 50 = .ok (.dup2, 1) := by decide +kernel
theorem d_x_decide_51 : decode prog_1_method_19_code 51 = .ok (.iaload, 1) := by decide +kernel
theorem d_x_decide_52 : decode prog_1_method_19_code 52 = .ok (.iconst 1, 1) := by decide +kernel
theorem d_x_decide_53 : decode prog_1_method_19_code 53 = .ok (.isub, 1) := by decide +kernel
theorem d_x_decide_54 : decode prog_1_method_19_code 54 = .ok (.iastore, 1) := by decide +kernel
theorem d_x_decide_55 : decode prog_1_method_19_code 55 = .ok (.aload_n 0, 1) := by decide +kernel
theorem d_x_decide_56 : decode prog_1_method_19_code 56 = .ok (.getfield 33, 3) := by decide +kernel
theorem d_x_decide_59 : decode prog_1_method_19_code 59 = .ok (.getfield 156, 3) := by decide +kernel
theorem d_x_decide_62 : decode prog_1_method_19_code 62 = .ok (.iload_n 1, 1) := by decide +kernel
theorem d_x_decide_63 : decode prog_1_method_19_code 63 = .ok (.iload 5, 2) := by decide +kernel
theorem d_x_decide_65 : decode prog_1_method_19_code 65 = .ok (.iastore, 1) := by decide +kernel
theorem d_x_decide_66 : decode prog_1_method_19_code 66 = .ok (.aload_n 0, 1) := by decide +kernel
theorem d_x_decide_67 : decode prog_1_method_19_code 67 = .ok (.getfield 33, 3) := by decide +kernel
theorem d_x_decide_70 : decode prog_1_method_19_code 70 = .ok (.iload_n 1, 1) := by decide +kernel
theorem d_x_decide_71 : decode prog_1_method_19_code 71 = .ok (.iconst 2, 1) := by decide +kernel
theorem d_x_decide_72 : decode prog_1_method_19_code 72 = .ok (.invokevirtual 192, 3) := by decide +kernel
theorem d_x_decide_75 : decode prog_1_method_19_code 75 = .ok (.return_, 1) := by decide +kernel
theorem d_x_decide_76 : decode prog_1_method_19_code 76 = .ok (.aload_n 0, 1) := by decide +kernel
theorem d_x_decide_77 : decode prog_1_method_19_code 77 = .ok (.iload_n 2, 1) := by decide +kernel
theorem d_x_decide_78 : decode prog_1_method_19_code 78 = .ok (.iload_n 3, 1) := by decide +kernel
theorem d_x_decide_79 : decode prog_1_method_19_code 79 = .ok (.iload 4, 2) := by decide +kernel
theorem d_x_decide_81 : decode prog_1_method_19_code 81 = .ok (.invokevirtual 200, 3) := by decide +kernel
theorem d_x_decide_84 : decode prog_1_method_19_code 84 = .ok (.istore 6, 2) := by decide +kernel
theorem d_x_decide_86 : decode prog_1_method_19_code 86 = .ok (.iload 6, 2) := by decide +kernel
theorem d_x_decide_88 : decode prog_1_method_19_code 88 = .ok (.iconst (-1), 1) := by decide +kernel
theorem d_x_decide_89 : decode prog_1_method_19_code 89 = .ok (.if_icmp .ne 15, 3) := by decide +kernel
theorem d_x_decide_92 : decode prog_1_method_19_code 92 = .ok (.aload_n 0, 1) := by decide +kernel
theorem d_x_decide_93 : decode prog_1_method_19_code 93 = .ok (.getfield 33, 3) := by decide +kernel
theorem d_x_decide_96 : decode prog_1_method_19_code 96 = .ok (.iload_n 1, 1) := by decide +kernel
theorem d_x_decide_97 : decode prog_1_method_19_code 97 = .ok (.iconst 3, 1) := by decide +kernel
theorem d_x_decide_98 : decode prog_1_method_19_code 98 = .ok (.invokevirtual 192, 3) := by decide +kernel
theorem d_x_decide_101 : decode prog_1_method_19_code 101 = .ok (.goto 11, 3) := by decide +kernel
theorem d_x_decide_104 : decode prog_1_method_19_code 104 = .ok (.aload_n 0, 1) := by decide +kernel
theorem d_x_decide_105 : decode prog_1_method_19_code 105 = .ok (.iload_n 1, 1) := by decide +kernel
theorem d_x_decide_106 : decode prog_1_method_19_code 106 = .ok (.iload_n 2, 1) := by decide +kernel
theorem d_x_decide_107 : decode prog_1_method_19_code 107 = .ok (.iload 6, 2) := by decide +kernel
theorem d_x_decide_109 : decode prog_1_method_19_code 109 = .ok (.invokevirtual 203, 3) := by decide +kernel
theorem d_x_decide_112 : decode prog_1_method_19_code 112 = .ok (.return_, 1) := by decide +kernel
theorem d_x_decideBeyondLimits_0 : decode prog_1_method_20_code 0 = .ok (.aload_n 0, 1) := by decide +kernel
theorem d_x_decideBeyondLimits_1 : decode prog_1_method_20_code 1 = .ok (.getfield 37, 3) := by decide +kernel
theorem d_x_decideBeyondLimits_4 : decode prog_1_method_20_code 4 = .ok (.aload_n 0, 1) := by decide +kernel
theorem d_x_decideBeyondLimits_5 : decode prog_1_method_20_code 5 = .ok (.getfield 12, 3) := by decide +kernel
theorem d_x_decideBeyondLimits_8 : decode prog_1_method_20_code 8 = .ok (.getfield 207, 3) := by decide +kernel
theorem d_x_decideBeyondLimits_11 : decode prog_1_method_20_code 11 = .ok (.iload_n 2, 1) := by decide +kernel
theorem d_x_decideBeyondLimits_12 : decode prog_1_method_20_code 12 = .ok (.iaload, 1) := by decide +kernel
theorem d_x_decideBeyondLimits_13 : decode prog_1_method_20_code 13 = .ok (.iaload, 1) := by decide +kernel
theorem d_x_decideBeyondLimits_14 : decode prog_1_method_20_code 14 = .ok (.istore 4, 2) := by decide +kernel
theorem d_x_decideBeyondLimits_16 : decode prog_1_method_20_code 16 = .ok (.aload_n 0, 1) := by decide +kernel
theorem d_x_decideBeyondLimits_17 : decode prog_1_method_20_code 17 = .ok (.getfield 12, 3) := by decide +kernel
theorem d_x_decideBeyondLimits_20 : decode prog_1_method_20_code 20 = .ok (.getfield 109, 3) := by decide +kernel
theorem d_x_decideBeyondLimits_23 : decode prog_1_method_20_code 23 = .ok (.iload_n 2, 1) := by decide +kernel
theorem d_x_decideBeyondLimits_24 : decode prog_1_method_20_code 24 = .ok (.iaload, 1) := by decide +kernel
theorem d_x_decideBeyondLimits_25 : decode prog_1_method_20_code 25 = .ok (.ifCond .le 28, 3) := by decide +kernel
theorem d_x_decideBeyondLimits_28 : decode prog_1_method_20_code 28 = .ok (.aload_n 0, 1) := by decide +kernel
theorem d_x_decideBeyondLimits_29 : decode prog_1_method_20_code 29 = .ok (.getfield 12, 3) := by decide +kernel
theorem d_x_decideBeyondLimits_32 : decode prog_1_method_20_code 32 = .ok (.getfield 109, 3) := by decide +kernel
theorem d_x_decideBeyondLimits_35 : decode prog_1_method_20_code 35 = .ok (.iload_n 2, 1) := by decide +kernel
theorem d_x_decideBeyondLimits_36 : decode prog_1_method_20_code 36 = .ok (.dup2, 1) := by decide +kernel
theorem d_x_decideBeyondLimits_37 : decode prog_1_method_20_code 37 = .ok (.iaload, 1) := by decide +kernel
theorem d_x_decideBeyondLimits_38 : decode prog_1_method_20_code 38 = .ok (.iconst 1, 1) := by decide +kernel
theorem d_x_decideBeyondLimits_39 : decode prog_1_method_20_code 39 = .ok (.isub, 1) := by decide +kernel
theorem d_x_decideBeyondLimits_40 : decode prog_1_method_20_code 40 = .ok (.iastore, 1) := by decide +kernel
theorem d_x_decideBeyondLimits_41 : decode prog_1_method_20_code 41 = .ok (.aload_n 0, 1) := by decide +kernel
theorem d_x_decideBeyondLimits_42 : decode prog_1_method_20_code 42 = .ok (.getfield 33, 3) := by decide +kernel
theorem d_x_decideBeyondLimits_45 : decode prog_1_method_20_code 45 = .ok (.iload_n 1, 1) := by decide +kernel
theorem d_x_decideBeyondLimits_46 : decode prog_1_method_20_code 46 = .ok (.iconst 4, 1) := by decide +kernel
theorem d_x_decideBeyondLimits_47 : decode prog_1_method_20_code 47 = .ok (.invokevirtual 192, 3) := by decide +kernel
theorem d_x_decideBeyondLimits_50 : decode prog_1_method_20_code 50 = .ok (.goto 35, 3) := by decide +kernel
theorem d_x_decideBeyondLimits_53 : decode prog_1_method_20_code 53 = .ok (.iload 4, 2) := by decide +kernel
theorem d_x_decideBeyondLimits_55 : decode prog_1_method_20_code 55 = .ok (.ifCond .le 25, 3) := by decide +kernel
theorem d_x_decideBeyondLimits_58 : decode prog_1_method_20_code 58 = .ok (.aload_n 0, 1) := by decide +kernel
theorem d_x_decideBeyondLimits_59 : decode prog_1_method_20_code 59 = .ok (.getfield 33, 3) := by decide +kernel
theorem d_x_decideBeyondLimits_62 : decode prog_1_method_20_code 62 = .ok (.iload_n 1, 1) := by decide +kernel
theorem d_x_decideBeyondLimits_63 : decode prog_1_method_20_code 63 = .ok (.iload 4, 2) := by decide +kernel
theorem d_x_decideBeyondLimits_65 : decode prog_1_method_20_code 65 = .ok (.invokevirtual 210, 3) := by decide +kernel
theorem d_x_decideBeyondLimits_68 : decode prog_1_method_20_code 68 = .ok (.aload_n 0, 1) := by decide +kernel
theorem d_x_decideBeyondLimits_69 : decode prog_1_method_20_code 69 = .ok (.getfield 33, 3) := by decide +kernel
theorem d_x_decideBeyondLimits_72 : decode prog_1_method_20_code 72 = .ok (.iload_n 1, 1) := by decide +kernel
theorem d_x_decideBeyondLimits_73 : decode prog_1_method_20_code 73 = .ok (.iconst 5, 1) := by decide +kernel
theorem d_x_decideBeyondLimits_74 : decode prog_1_method_20_code 74 = .ok (.invokevirtual 192, 3) := by decide +kernel
theorem d_x_decideBeyondLimits_77 : decode prog_1_method_20_code 77 = .ok (.goto 8, 3) := by decide +kernel
theorem d_x_decideBeyondLimits_80 : decode prog_1_method_20_code 80 = .ok (.aload_n 0, 1) := by decide +kernel
theorem d_x_decideBeyondLimits_81 : decode prog_1_method_20_code 81 = .ok (.iload_n 3, 1) := by decide +kernel
theorem d_x_decideBeyondLimits_82 : decode prog_1_method_20_code 82 = .ok (.putfield 48, 3) := by decide +kernel
theorem d_x_decideBeyondLimits_85 : decode prog_1_method_20_code 85 = .ok (.return_, 1) := by decide +kernel
theorem d_x_delete_0 : decode prog_1_method_13_code 0 = .ok (.aload_n 0, 1) := by decide +kernel
theorem d_x_delete_1 : decode prog_1_method_13_code 1 = .ok (.getfield 33, 3) := by decide +kernel
theorem d_x_delete_4 : decode prog_1_method_13_code 4 = .ok (.iload_n 1, 1) := by decide +kernel
theorem d_x_delete_5 : decode prog_1_method_13_code 5 = .ok (.invokevirtual 112, 3) := by decide +kernel
theorem d_x_delete_8 : decode prog_1_method_13_code 8 = .ok (.ifCond .ne 5, 3) := by decide +kernel
theorem d_x_delete_11 : decode prog_1_method_13_code 11 = .ok (.iconst (-1), 1) := by decide +kernel
theorem d_x_delete_12 : decode prog_1_method_13_code 12 = .ok (.ireturn, 1) := by decide +kernel
theorem d_x_delete_13 : decode prog_1_method_13_code 13 = .ok (.aload_n 0, 1) := by decide +kernel
theorem d_x_delete_14 : decode prog_1_method_13_code 14 = .ok (.iload_n 2, 1) := by decide +kernel
theorem d_x_delete_15 : decode prog_1_method_13_code 15 = .ok (.invokevirtual 91, 3) := by decide +kernel
theorem d_x_delete_18 : decode prog_1_method_13_code 18 = .ok (.ifCond .ne 6, 3) := by decide +kernel
theorem d_x_delete_21 : decode prog_1_method_13_code 21 = .ok (.bipush (-2), 2) := by decide +kernel
theorem d_x_delete_23 : decode prog_1_method_13_code 23 = .ok (.ireturn, 1) := by decide +kernel
theorem d_x_delete_24 : decode prog_1_method_13_code 24 = .ok (.aload_n 0, 1) := by decide +kernel
theorem d_x_delete_25 : decode prog_1_method_13_code 25 = .ok (.getfield 33, 3) := by decide +kernel
theorem d_x_delete_28 : decode prog_1_method_13_code 28 = .ok (.iload_n 1, 1) := by decide +kernel
theorem d_x_delete_29 : decode prog_1_method_13_code 29 = .ok (.invokevirtual 119, 3) := by decide +kernel
theorem d_x_delete_32 : decode prog_1_method_13_code 32 = .ok (.ifCond .ne 6, 3) := by decide +kernel
theorem d_x_delete_35 : decode prog_1_method_13_code 35 = .ok (.bipush (-3), 2) := by decide +kernel
theorem d_x_delete_37 : decode prog_1_method_13_code 37 = .ok (.ireturn, 1) := by decide +kernel
theorem d_x_delete_38 : decode prog_1_method_13_code 38 = .ok (.aload_n 0, 1) := by decide +kernel
theorem d_x_delete_39 : decode prog_1_method_13_code 39 = .ok (.getfield 33, 3) := by decide +kernel
theorem d_x_delete_42 : decode prog_1_method_13_code 42 = .ok (.getfield 122, 3) := by decide +kernel
theorem d_x_delete_45 : decode prog_1_method_13_code 45 = .ok (.iload_n 1, 1) := by decide +kernel
theorem d_x_delete_46 : decode prog_1_method_13_code 46 = .ok (.iload_n 2, 1) := by decide +kernel
theorem d_x_delete_47 : decode prog_1_method_13_code 47 = .ok (.iastore, 1) := by decide +kernel
theorem d_x_delete_48 : decode prog_1_method_13_code 48 = .ok (.aload_n 0, 1) := by decide +kernel
theorem d_x_delete_49 : decode prog_1_method_13_code 49 = .ok (.getfield 33, 3) := by decide +kernel
theorem d_x_delete_52 : decode prog_1_method_13_code 52 = .ok (.iload_n 1, 1) := by decide +kernel
theorem d_x_delete_53 : decode prog_1_method_13_code 53 = .ok (.iload_n 2, 1) := by decide +kernel
theorem d_x_delete_54 : decode prog_1_method_13_code 54 = .ok (.invokevirtual 125, 3) := by decide +kernel
theorem d_x_delete_57 : decode prog_1_method_13_code 57 = .ok (.ifCond .eq 7, 3) := by decide +kernel
theorem d_x_delete_60 : decode prog_1_method_13_code 60 = .ok (.iconst 0, 1) := by decide +kernel
theorem d_x_delete_61 : decode prog_1_method_13_code 61 = .ok (.goto 4, 3) := by decide +kernel
theorem d_x_delete_64 : decode prog_1_method_13_code 64 = .ok (.iconst 1, 1) := by decide +kernel
theorem d_x_delete_65 : decode prog_1_method_13_code 65 = .ok (.ireturn, 1) := by decide +kernel
theorem d_x_fee_0 : decode prog_1_method_6_code 0 = .ok (.iload_n 1, 1) := by decide +kernel
theorem d_x_fee_1 : decode prog_1_method_6_code 1 = .ok (.invokestatic 51, 3) := by decide +kernel
theorem d_x_fee_4 : decode prog_1_method_6_code 4 = .ok (.ifCond .eq 14, 3) := by decide +kernel
theorem d_x_fee_7 : decode prog_1_method_6_code 7 = .ok (.iload_n 2, 1) := by decide +kernel
theorem d_x_fee_8 : decode prog_1_method_6_code 8 = .ok (.iconst 0, 1) := by decide +kernel
theorem d_x_fee_9 : decode prog_1_method_6_code 9 = .ok (.sipush 10000, 3) := by decide +kernel
theorem d_x_fee_12 : decode prog_1_method_6_code 12 = .ok (.invokestatic 84, 3) := by decide +kernel
theorem d_x_fee_15 : decode prog_1_method_6_code 15 = .ok (.ifCond .ne 6, 3) := by decide +kernel
theorem d_x_fee_18 : decode prog_1_method_6_code 18 = .ok (.bipush (-2), 2) := by decide +kernel
theorem d_x_fee_20 : decode prog_1_method_6_code 20 = .ok (.ireturn, 1) := by decide +kernel
theorem d_x_fee_21 : decode prog_1_method_6_code 21 = .ok (.aload_n 0, 1) := by decide +kernel
theorem d_x_fee_22 : decode prog_1_method_6_code 22 = .ok (.getfield 37, 3) := by decide +kernel
theorem d_x_fee_25 : decode prog_1_method_6_code 25 = .ok (.iload_n 1, 1) := by decide +kernel
theorem d_x_fee_26 : decode prog_1_method_6_code 26 = .ok (.iload_n 2, 1) := by decide +kernel
theorem d_x_fee_27 : decode prog_1_method_6_code 27 = .ok (.iastore, 1) := by decide +kernel
theorem d_x_fee_28 : decode prog_1_method_6_code 28 = .ok (.iconst 1, 1) := by decide +kernel
theorem d_x_fee_29 : decode prog_1_method_6_code 29 = .ok (.ireturn, 1) := by decide +kernel
theorem d_x_firstLimitReached_0 : decode prog_1_method_21_code 0 = .ok (.iconst 0, 1) := by decide +kernel
theorem d_x_firstLimitReached_1 : decode prog_1_method_21_code 1 = .ok (.istore 4, 2) := by decide +kernel
theorem d_x_firstLimitReached_3 : decode prog_1_method_21_code 3 = .ok (.iload 4, 2) := by decide +kernel
theorem d_x_firstLimitReached_5 : decode prog_1_method_21_code 5 = .ok (.aload_n 0, 1) := by decide +kernel
theorem d_x_firstLimitReached_6 : decode prog_1_method_21_code 6 = .ok (.getfield 19, 3) := by decide +kernel
theorem d_x_firstLimitReached_9 : decode prog_1_method_21_code 9 = .ok (.getfield 213, 3) := by decide +kernel
theorem d_x_firstLimitReached_12 : decode prog_1_method_21_code 12 = .ok (.if_icmp .ge 59, 3) := by decide +kernel
theorem d_x_firstLimitReached_15 : decode prog_1_method_21_code 15 = .ok (.aload_n 0, 1) := by decide +kernel
theorem d_x_firstLimitReached_16 : decode prog_1_method_21_code 16 = .ok (.getfield 19, 3) := by decide +kernel
theorem d_x_firstLimitReached_19 : decode prog_1_method_21_code 19 = .ok (.iload 4, 2) := by decide +kernel
theorem d_x_firstLimitReached_21 : decode prog_1_method_21_code 21 = .ok (.iload_n 1, 1) := by decide +kernel
theorem d_x_firstLimitReached_22 : decode prog_1_method_21_code 22 = .ok (.iload_n 2, 1) := by decide +kernel
theorem d_x_firstLimitReached_23 : decode prog_1_method_21_code 23 = .ok (.invokevirtual 216, 3) := by decide +kernel
theorem d_x_firstLimitReached_26 : decode prog_1_method_21_code 26 = .ok (.ifCond .eq 39, 3) := by decide +kernel
theorem d_x_firstLimitReached_29 : decode prog_1_method_21_code 29 = .ok (.aload_n 0, 1) := by decide +kernel
theorem d_x_firstLimitReached_30 : decode prog_1_method_21_code 30 = .ok (.getfield 33, 3) := by decide +kernel
theorem d_x_firstLimitReached_33 : decode prog_1_method_21_code 33 = .ok (.iload_n 1, 1) := by decide +kernel
theorem d_x_firstLimitReached_34 : decode prog_1_method_21_code 34 = .ok (.iload_n 2, 1) := by decide +kernel
theorem d_x_firstLimitReached_35 : decode prog_1_method_21_code 35 = .ok (.aload_n 0, 1) := by decide +kernel
theorem d_x_firstLimitReached_36 : decode prog_1_method_21_code 36 = .ok (.getfield 19, 3) := by decide +kernel
theorem d_x_firstLimitReached_39 : decode prog_1_method_21_code 39 = .ok (.getfield 219, 3) := by decide +kernel
theorem d_x_firstLimitReached_42 : decode prog_1_method_21_code 42 = .ok (.iload 4, 2) := by decide +kernel
theorem d_x_firstLimitReached_44 : decode prog_1_method_21_code 44 = .ok (.iaload, 1) := by decide +kernel
theorem d_x_firstLimitReached_45 : decode prog_1_method_21_code 45 = .ok (.iload_n 3, 1) := by decide +kernel
theorem d_x_firstLimitReached_46 : decode prog_1_method_21_code 46 = .ok (.invokevirtual 128, 3) := by decide +kernel
theorem d_x_firstLimitReached_49 : decode prog_1_method_21_code 49 = .ok (.aload_n 0, 1) := by decide +kernel
theorem d_x_firstLimitReached_50 : decode prog_1_method_21_code 50 = .ok (.getfield 19, 3) := by decide +kernel
theorem d_x_firstLimitReached_53 : decode prog_1_method_21_code 53 = .ok (.getfield 222, 3) := by decide +kernel
theorem d_x_firstLimitReached_56 : decode prog_1_method_21_code 56 = .ok (.iload 4, 2) := by decide +kernel
theorem d_x_firstLimitReached_58 : decode prog_1_method_21_code 58 = .ok (.iaload, 1) := by decide +kernel
theorem d_x_firstLimitReached_59 : decode prog_1_method_21_code 59 = .ok (.if_icmp .lt 6, 3) := by decide +kernel
theorem d_x_firstLimitReached_62 : decode prog_1_method_21_code 62 = .ok (.iload 4, 2) := by decide +kernel
theorem d_x_firstLimitReached_64 : decode prog_1_method_21_code 64 = .ok (.ireturn, 1) := by decide +kernel
theorem d_x_firstLimitReached_65 : decode prog_1_method_21_code 65 = .ok (.iinc 4 1, 3) := by decide +kernel
theorem d_x_firstLimitReached_68 : decode prog_1_method_21_code 68 = .ok (.goto (-65), 3) := by decide +kernel
theorem d_x_firstLimitReached_71 : decode prog_1_method_21_code 71 = .ok (.iconst (-1), 1) := by decide +kernel
theorem d_x_firstLimitReached_72 : decode prog_1_method_21_code 72 = .ok (.ireturn, 1) := by decide +kernel
theorem d_x_give_0 : decode prog_1_method_9_code 0 = .ok (.iload_n 1, 1) := by decide +kernel
theorem d_x_give_1 : decode prog_1_method_9_code 1 = .ok (.invokestatic 88, 3) := by decide +kernel
theorem d_x_give_4 : decode prog_1_method_9_code 4 = .ok (.ifCond .eq 13, 3) := by decide +kernel
theorem d_x_give_7 : decode prog_1_method_9_code 7 = .ok (.iload_n 2, 1) := by decide +kernel
theorem d_x_give_8 : decode prog_1_method_9_code 8 = .ok (.iconst 1, 1) := by decide +kernel
theorem d_x_give_9 : decode prog_1_method_9_code 9 = .ok (.bipush 9, 2) := by decide +kernel
theorem d_x_give_11 : decode prog_1_method_9_code 11 = .ok (.invokestatic 84, 3) := by decide +kernel
theorem d_x_give_14 : decode prog_1_method_9_code 14 = .ok (.ifCond .ne 6, 3) := by decide +kernel
theorem d_x_give_17 : decode prog_1_method_9_code 17 = .ok (.bipush (-2), 2) := by decide +kernel
theorem d_x_give_19 : decode prog_1_method_9_code 19 = .ok (.ireturn, 1) := by decide +kernel
theorem d_x_give_20 : decode prog_1_method_9_code 20 = .ok (.iconst 1, 1) := by decide +kernel
theorem d_x_give_21 : decode prog_1_method_9_code 21 = .ok (.iload_n 2, 1) := by decide +kernel
theorem d_x_give_22 : decode prog_1_method_9_code 22 = .ok (.ishl, 1) := by decide +kernel
theorem d_x_give_23 : decode prog_1_method_9_code 23 = .ok (.istore 4, 2) := by decide +kernel
theorem d_x_give_25 : decode prog_1_method_9_code 25 = .ok (.iload_n 3, 1) := by decide +kernel
theorem d_x_give_26 : decode prog_1_method_9_code 26 = .ok (.ifCond .eq 17, 3) := by decide +kernel
theorem d_x_give_29 : decode prog_1_method_9_code 29 = .ok (.aload_n 0, 1) := by decide +kernel
theorem d_x_give_30 : decode prog_1_method_9_code 30 = .ok (.getfield 41, 3) := by decide +kernel
theorem d_x_give_33 : decode prog_1_method_9_code 33 = .ok (.iload_n 1, 1) := by decide +kernel
theorem d_x_give_34 : decode prog_1_method_9_code 34 = .ok (.dup2, 1) := by decide +kernel
theorem d_x_give_35 : decode prog_1_method_9_code 35 = .ok (.iaload, 1) := by decide +kernel
theorem d_x_give_36 : decode prog_1_method_9_code 36 = .ok (.iload 4, 2) := by decide +kernel
theorem d_x_give_38 : decode prog_1_method_9_code 38 = .ok (.ior, 1) := by decide +kernel
theorem d_x_give_39 : decode prog_1_method_9_code 39 = .ok (.iastore, 1) := by decide +kernel
theorem d_x_give_40 : decode prog_1_method_9_code 40 = .ok (.goto 16, 3) := by decide +kernel
theorem d_x_give_43 : decode prog_1_method_9_code 43 = .ok (.aload_n 0, 1) := by decide +kernel
theorem d_x_give_44 : decode prog_1_method_9_code 44 = .ok (.getfield 41, 3) := by decide +kernel
theorem d_x_give_47 : decode prog_1_method_9_code 47 = .ok (.iload_n 1, 1) := by decide +kernel
theorem d_x_give_48 : decode prog_1_method_9_code 48 = .ok (.dup2, 1) := by decide +kernel
theorem d_x_give_49 : decode prog_1_method_9_code 49 = .ok (.iaload, 1) := by decide +kernel
theorem d_x_give_50 : decode prog_1_method_9_code 50 = .ok (.iload 4, 2) := by decide +kernel
theorem d_x_give_52 : decode prog_1_method_9_code 52 = .ok (.iconst (-1), 1) := by decide +kernel
theorem d_x_give_53 : decode prog_1_method_9_code 53 = .ok (.ixor, 1) := by decide +kernel
theorem d_x_give_54 : decode prog_1_method_9_code 54 = .ok (.iand, 1) := by decide +kernel
theorem d_x_give_55 : decode prog_1_method_9_code 55 = .ok (.iastore, 1) := by decide +kernel
theorem d_x_give_56 : decode prog_1_method_9_code 56 = .ok (.iconst 1, 1) := by decide +kernel
theorem d_x_give_57 : decode prog_1_method_9_code 57 = .ok (.ireturn, 1) := by decide +kernel
theorem d_x_goOnTo_0 : decode prog_1_method_23_code 0 = .ok (.iload_n 1, 1) := by decide +kernel
theorem d_x_goOnTo_1 : decode prog_1_method_23_code 1 = .ok (.aload_n 0, 1) := by decide +kernel
theorem d_x_goOnTo_2 : decode prog_1_method_23_code 2 = .ok (.getfield 44, 3) := by decide +kernel
theorem d_x_goOnTo_5 : decode prog_1_method_23_code 5 = .ok (.ldc 225, 2) := by decide +kernel
theorem d_x_goOnTo_7 : decode prog_1_method_23_code 7 = .ok (.invokestatic 84, 3) := by decide +kernel
theorem d_x_goOnTo_10 : decode prog_1_method_23_code 10 = .ok (.ifCond .ne 5, 3) := by decide +kernel
theorem d_x_goOnTo_13 : decode prog_1_method_23_code 13 = .ok (.iconst 0, 1) := by decide +kernel
theorem d_x_goOnTo_14 : decode prog_1_method_23_code 14 = .ok (.ireturn, 1) := by decide +kernel
theorem d_x_goOnTo_15 : decode prog_1_method_23_code 15 = .ok (.aload_n 0, 1) := by decide +kernel
theorem d_x_goOnTo_16 : decode prog_1_method_23_code 16 = .ok (.iload_n 1, 1) := by decide +kernel
theorem d_x_goOnTo_17 : decode prog_1_method_23_code 17 = .ok (.putfield 44, 3) := by decide +kernel
theorem d_x_goOnTo_20 : decode prog_1_method_23_code 20 = .ok (.iconst 1, 1) := by decide +kernel
theorem d_x_goOnTo_21 : decode prog_1_method_23_code 21 = .ok (.ireturn, 1) := by decide +kernel
theorem d_x_isBetween_0 : decode prog_1_method_30_code 0 = .ok (.iload_n 0, 1) := by decide +kernel
theorem d_x_isBetween_1 : decode prog_1_method_30_code 1 = .ok (.iload_n 1, 1) := by decide +kernel
theorem d_x_isBetween_2 : decode prog_1_method_30_code 2 = .ok (.if_icmp .lt 12, 3) := by decide +kernel
theorem d_x_isBetween_5 : decode prog_1_method_30_code 5 = .ok (.iload_n 0, 1) := by decide +kernel
theorem d_x_isBetween_6 : decode prog_1_method_30_code 6 = .ok (.iload_n 2, 1) := by decide +kernel
theorem d_x_isBetween_7 : decode prog_1_method_30_code 7 = .ok (.if_icmp .gt 7, 3) := by decide +kernel
theorem d_x_isBetween_10 : decode prog_1_method_30_code 10 = .ok (.iconst 1, 1) := by decide +kernel
theorem d_x_isBetween_11 : decode prog_1_method_30_code 11 = .ok (.goto 4, 3) := by decide +kernel
theorem d_x_isBetween_14 : decode prog_1_method_30_code 14 = .ok (.iconst 0, 1) := by decide +kernel
theorem d_x_isBetween_15 : decode prog_1_method_30_code 15 = .ok (.ireturn, 1) := by decide +kernel
theorem d_x_isCopies_0 : decode prog_1_method_29_code 0 = .ok (.iload_n 0, 1) := by decide +kernel
theorem d_x_isCopies_1 : decode prog_1_method_29_code 1 = .ok (.iconst 0, 1) := by decide +kernel
theorem d_x_isCopies_2 : decode prog_1_method_29_code 2 = .ok (.sipush 1000, 3) := by decide +kernel
theorem d_x_isCopies_5 : decode prog_1_method_29_code 5 = .ok (.invokestatic 84, 3) := by decide +kernel
theorem d_x_isCopies_8 : decode prog_1_method_29_code 8 = .ok (.ireturn, 1) := by decide +kernel
theorem d_x_isDays_0 : decode prog_1_method_28_code 0 = .ok (.iload_n 0, 1) := by decide +kernel
theorem d_x_isDays_1 : decode prog_1_method_28_code 1 = .ok (.iconst 1, 1) := by decide +kernel
theorem d_x_isDays_2 : decode prog_1_method_28_code 2 = .ok (.sipush 5000, 3) := by decide +kernel
theorem d_x_isDays_5 : decode prog_1_method_28_code 5 = .ok (.invokestatic 84, 3) := by decide +kernel
theorem d_x_isDays_8 : decode prog_1_method_28_code 8 = .ok (.ireturn, 1) := by decide +kernel
theorem d_x_isKind_0 : decode prog_1_method_27_code 0 = .ok (.iload_n 0, 1) := by decide +kernel
theorem d_x_isKind_1 : decode prog_1_method_27_code 1 = .ok (.iconst 0, 1) := by decide +kernel
theorem d_x_isKind_2 : decode prog_1_method_27_code 2 = .ok (.iconst 1, 1) := by decide +kernel
theorem d_x_isKind_3 : decode prog_1_method_27_code 3 = .ok (.invokestatic 84, 3) := by decide +kernel
theorem d_x_isKind_6 : decode prog_1_method_27_code 6 = .ok (.ireturn, 1) := by decide +kernel
theorem d_x_isPerson_0 : decode prog_1_method_26_code 0 = .ok (.iload_n 0, 1) := by decide +kernel
theorem d_x_isPerson_1 : decode prog_1_method_26_code 1 = .ok (.iconst 0, 1) := by decide +kernel
theorem d_x_isPerson_2 : decode prog_1_method_26_code 2 = .ok (.bipush 99, 2) := by decide +kernel
theorem d_x_isPerson_4 : decode prog_1_method_26_code 4 = .ok (.invokestatic 84, 3) := by decide +kernel
theorem d_x_isPerson_7 : decode prog_1_method_26_code 7 = .ok (.ireturn, 1) := by decide +kernel
theorem d_x_isPublisher_0 : decode prog_1_method_25_code 0 = .ok (.iload_n 0, 1) := by decide +kernel
theorem d_x_isPublisher_1 : decode prog_1_method_25_code 1 = .ok (.iconst 0, 1) := by decide +kernel
theorem d_x_isPublisher_2 : decode prog_1_method_25_code 2 = .ok (.bipush 99, 2) := by decide +kernel
theorem d_x_isPublisher_4 : decode prog_1_method_25_code 4 = .ok (.invokestatic 84, 3) := by decide +kernel
theorem d_x_isPublisher_7 : decode prog_1_method_25_code 7 = .ok (.ireturn, 1) := by decide +kernel
theorem d_x_isTime_0 : decode prog_1_method_24_code 0 = .ok (.iload_n 0, 1) := by decide +kernel
theorem d_x_isTime_1 : decode prog_1_method_24_code 1 = .ok (.iconst 0, 1) := by decide +kernel
theorem d_x_isTime_2 : decode prog_1_method_24_code 2 = .ok (.ldc 225, 2) := by decide +kernel
theorem d_x_isTime_4 : decode prog_1_method_24_code 4 = .ok (.invokestatic 84, 3) := by decide +kernel
theorem d_x_isTime_7 : decode prog_1_method_24_code 7 = .ok (.ireturn, 1) := by decide +kernel
theorem d_x_left_0 : decode prog_1_method_16_code 0 = .ok (.aload_n 0, 1) := by decide +kernel
theorem d_x_left_1 : decode prog_1_method_16_code 1 = .ok (.getfield 26, 3) := by decide +kernel
theorem d_x_left_4 : decode prog_1_method_16_code 4 = .ok (.iload_n 1, 1) := by decide +kernel
theorem d_x_left_5 : decode prog_1_method_16_code 5 = .ok (.invokevirtual 170, 3) := by decide +kernel
theorem d_x_left_8 : decode prog_1_method_16_code 8 = .ok (.ifCond .eq 15, 3) := by decide +kernel
theorem d_x_left_11 : decode prog_1_method_16_code 11 = .ok (.aload_n 0, 1) := by decide +kernel
theorem d_x_left_12 : decode prog_1_method_16_code 12 = .ok (.getfield 26, 3) := by decide +kernel
theorem d_x_left_15 : decode prog_1_method_16_code 15 = .ok (.getfield 171, 3) := by decide +kernel
theorem d_x_left_18 : decode prog_1_method_16_code 18 = .ok (.iload_n 1, 1) := by decide +kernel
theorem d_x_left_19 : decode prog_1_method_16_code 19 = .ok (.iaload, 1) := by decide +kernel
theorem d_x_left_20 : decode prog_1_method_16_code 20 = .ok (.goto 4, 3) := by decide +kernel
theorem d_x_left_23 : decode prog_1_method_16_code 23 = .ok (.iconst (-1), 1) := by decide +kernel
theorem d_x_left_24 : decode prog_1_method_16_code 24 = .ok (.ireturn, 1) := by decide +kernel
theorem d_x_licence_0 : decode prog_1_method_5_code 0 = .ok (.aload_n 0, 1) := by decide +kernel
theorem d_x_licence_1 : decode prog_1_method_5_code 1 = .ok (.getfield 12, 3) := by decide +kernel
theorem d_x_licence_4 : decode prog_1_method_5_code 4 = .ok (.iload_n 1, 1) := by decide +kernel
theorem d_x_licence_5 : decode prog_1_method_5_code 5 = .ok (.invokevirtual 59, 3) := by decide +kernel
theorem d_x_licence_8 : decode prog_1_method_5_code 8 = .ok (.ifCond .ne 5, 3) := by decide +kernel
theorem d_x_licence_11 : decode prog_1_method_5_code 11 = .ok (.iconst (-1), 1) := by decide +kernel
theorem d_x_licence_12 : decode prog_1_method_5_code 12 = .ok (.ireturn, 1) := by decide +kernel
theorem d_x_licence_13 : decode prog_1_method_5_code 13 = .ok (.iload_n 2, 1) := by decide +kernel
theorem d_x_licence_14 : decode prog_1_method_5_code 14 = .ok (.invokestatic 66, 3) := by decide +kernel
theorem d_x_licence_17 : decode prog_1_method_5_code 17 = .ok (.ifCond .eq 33, 3) := by decide +kernel
theorem d_x_licence_20 : decode prog_1_method_5_code 20 = .ok (.iload_n 3, 1) := by decide +kernel
theorem d_x_licence_21 : decode prog_1_method_5_code 21 = .ok (.invokestatic 72, 3) := by decide +kernel
theorem d_x_licence_24 : decode prog_1_method_5_code 24 = .ok (.ifCond .eq 26, 3) := by decide +kernel
theorem d_x_licence_27 : decode prog_1_method_5_code 27 = .ok (.iload 4, 2) := by decide +kernel
theorem d_x_licence_29 : decode prog_1_method_5_code 29 = .ok (.invokestatic 78, 3) := by decide +kernel
theorem d_x_licence_32 : decode prog_1_method_5_code 32 = .ok (.ifCond .eq 18, 3) := by decide +kernel
theorem d_x_licence_35 : decode prog_1_method_5_code 35 = .ok (.iload 5, 2) := by decide +kernel
theorem d_x_licence_37 : decode prog_1_method_5_code 37 = .ok (.invokestatic 78, 3) := by decide +kernel
theorem d_x_licence_40 : decode prog_1_method_5_code 40 = .ok (.ifCond .eq 10, 3) := by decide +kernel
theorem d_x_licence_43 : decode prog_1_method_5_code 43 = .ok (.iload 4, 2) := by decide +kernel
theorem d_x_licence_45 : decode prog_1_method_5_code 45 = .ok (.iload 5, 2) := by decide +kernel
theorem d_x_licence_47 : decode prog_1_method_5_code 47 = .ok (.if_icmp .le 6, 3) := by decide +kernel
theorem d_x_licence_50 : decode prog_1_method_5_code 50 = .ok (.bipush (-2), 2) := by decide +kernel
theorem d_x_licence_52 : decode prog_1_method_5_code 52 = .ok (.ireturn, 1) := by decide +kernel
theorem d_x_licence_53 : decode prog_1_method_5_code 53 = .ok (.aload_n 0, 1) := by decide +kernel
theorem d_x_licence_54 : decode prog_1_method_5_code 54 = .ok (.getfield 26, 3) := by decide +kernel
theorem d_x_licence_57 : decode prog_1_method_5_code 57 = .ok (.iload_n 1, 1) := by decide +kernel
theorem d_x_licence_58 : decode prog_1_method_5_code 58 = .ok (.iload_n 2, 1) := by decide +kernel
theorem d_x_licence_59 : decode prog_1_method_5_code 59 = .ok (.iload_n 3, 1) := by decide +kernel
theorem d_x_licence_60 : decode prog_1_method_5_code 60 = .ok (.iload 4, 2) := by decide +kernel
theorem d_x_licence_62 : decode prog_1_method_5_code 62 = .ok (.iload 5, 2) := by decide +kernel
theorem d_x_licence_64 : decode prog_1_method_5_code 64 = .ok (.invokevirtual 81, 3) := by decide +kernel
theorem d_x_licence_67 : decode prog_1_method_5_code 67 = .ok (.ireturn, 1) := by decide +kernel
theorem d_x_limit_0 : decode prog_1_method_4_code 0 = .ok (.aload_n 0, 1) := by decide +kernel
theorem d_x_limit_1 : decode prog_1_method_4_code 1 = .ok (.getfield 12, 3) := by decide +kernel
theorem d_x_limit_4 : decode prog_1_method_4_code 4 = .ok (.iload_n 1, 1) := by decide +kernel
theorem d_x_limit_5 : decode prog_1_method_4_code 5 = .ok (.invokevirtual 59, 3) := by decide +kernel
theorem d_x_limit_8 : decode prog_1_method_4_code 8 = .ok (.ifCond .ne 5, 3) := by decide +kernel
theorem d_x_limit_11 : decode prog_1_method_4_code 11 = .ok (.iconst (-1), 1) := by decide +kernel
theorem d_x_limit_12 : decode prog_1_method_4_code 12 = .ok (.ireturn, 1) := by decide +kernel
theorem d_x_limit_13 : decode prog_1_method_4_code 13 = .ok (.iload_n 2, 1) := by decide +kernel
theorem d_x_limit_14 : decode prog_1_method_4_code 14 = .ok (.invokestatic 66, 3) := by decide +kernel
theorem d_x_limit_17 : decode prog_1_method_4_code 17 = .ok (.ifCond .eq 18, 3) := by decide +kernel
theorem d_x_limit_20 : decode prog_1_method_4_code 20 = .ok (.iload_n 3, 1) := by decide +kernel
theorem d_x_limit_21 : decode prog_1_method_4_code 21 = .ok (.invokestatic 69, 3) := by decide +kernel
theorem d_x_limit_24 : decode prog_1_method_4_code 24 = .ok (.ifCond .eq 11, 3) := by decide +kernel
theorem d_x_limit_27 : decode prog_1_method_4_code 27 = .ok (.iload 4, 2) := by decide +kernel
theorem d_x_limit_29 : decode prog_1_method_4_code 29 = .ok (.invokestatic 72, 3) := by decide +kernel
theorem d_x_limit_32 : decode prog_1_method_4_code 32 = .ok (.ifCond .ne 6, 3) := by decide +kernel
theorem d_x_limit_35 : decode prog_1_method_4_code 35 = .ok (.bipush (-2), 2) := by decide +kernel
theorem d_x_limit_37 : decode prog_1_method_4_code 37 = .ok (.ireturn, 1) := by decide +kernel
theorem d_x_limit_38 : decode prog_1_method_4_code 38 = .ok (.aload_n 0, 1) := by decide +kernel
theorem d_x_limit_39 : decode prog_1_method_4_code 39 = .ok (.getfield 19, 3) := by decide +kernel
theorem d_x_limit_42 : decode prog_1_method_4_code 42 = .ok (.iload_n 1, 1) := by decide +kernel
theorem d_x_limit_43 : decode prog_1_method_4_code 43 = .ok (.iload_n 2, 1) := by decide +kernel
theorem d_x_limit_44 : decode prog_1_method_4_code 44 = .ok (.iload_n 3, 1) := by decide +kernel
theorem d_x_limit_45 : decode prog_1_method_4_code 45 = .ok (.iload 4, 2) := by decide +kernel
theorem d_x_limit_47 : decode prog_1_method_4_code 47 = .ok (.invokevirtual 75, 3) := by decide +kernel
theorem d_x_limit_50 : decode prog_1_method_4_code 50 = .ok (.ireturn, 1) := by decide +kernel
theorem d_x_mayWaive_0 : decode prog_1_method_22_code 0 = .ok (.aload_n 0, 1) := by decide +kernel
theorem d_x_mayWaive_1 : decode prog_1_method_22_code 1 = .ok (.getfield 12, 3) := by decide +kernel
theorem d_x_mayWaive_4 : decode prog_1_method_22_code 4 = .ok (.getfield 102, 3) := by decide +kernel
theorem d_x_mayWaive_7 : decode prog_1_method_22_code 7 = .ok (.iload_n 1, 1) := by decide +kernel
theorem d_x_mayWaive_8 : decode prog_1_method_22_code 8 = .ok (.iaload, 1) := by decide +kernel
theorem d_x_mayWaive_9 : decode prog_1_method_22_code 9 = .ok (.istore_n 3, 1) := by decide +kernel
theorem d_x_mayWaive_10 : decode prog_1_method_22_code 10 = .ok (.iload_n 3, 1) := by decide +kernel
theorem d_x_mayWaive_11 : decode prog_1_method_22_code 11 = .ok (.ifCond .eq 20, 3) := by decide +kernel
theorem d_x_mayWaive_14 : decode prog_1_method_22_code 14 = .ok (.aload_n 0, 1) := by decide +kernel
theorem d_x_mayWaive_15 : decode prog_1_method_22_code 15 = .ok (.getfield 41, 3) := by decide +kernel
theorem d_x_mayWaive_18 : decode prog_1_method_22_code 18 = .ok (.iload_n 2, 1) := by decide +kernel
theorem d_x_mayWaive_19 : decode prog_1_method_22_code 19 = .ok (.iaload, 1) := by decide +kernel
theorem d_x_mayWaive_20 : decode prog_1_method_22_code 20 = .ok (.iconst 1, 1) := by decide +kernel
theorem d_x_mayWaive_21 : decode prog_1_method_22_code 21 = .ok (.iload_n 3, 1) := by decide +kernel
theorem d_x_mayWaive_22 : decode prog_1_method_22_code 22 = .ok (.ishl, 1) := by decide +kernel
theorem d_x_mayWaive_23 : decode prog_1_method_22_code 23 = .ok (.iand, 1) := by decide +kernel
theorem d_x_mayWaive_24 : decode prog_1_method_22_code 24 = .ok (.ifCond .eq 7, 3) := by decide +kernel
theorem d_x_mayWaive_27 : decode prog_1_method_22_code 27 = .ok (.iconst 1, 1) := by decide +kernel
theorem d_x_mayWaive_28 : decode prog_1_method_22_code 28 = .ok (.goto 4, 3) := by decide +kernel
theorem d_x_mayWaive_31 : decode prog_1_method_22_code 31 = .ok (.iconst 0, 1) := by decide +kernel
theorem d_x_mayWaive_32 : decode prog_1_method_22_code 32 = .ok (.ireturn, 1) := by decide +kernel
theorem d_x_open_0 : decode prog_1_method_3_code 0 = .ok (.aload_n 0, 1) := by decide +kernel
theorem d_x_open_1 : decode prog_1_method_3_code 1 = .ok (.getfield 12, 3) := by decide +kernel
theorem d_x_open_4 : decode prog_1_method_3_code 4 = .ok (.iload_n 1, 1) := by decide +kernel
theorem d_x_open_5 : decode prog_1_method_3_code 5 = .ok (.invokevirtual 59, 3) := by decide +kernel
theorem d_x_open_8 : decode prog_1_method_3_code 8 = .ok (.ifCond .ne 5, 3) := by decide +kernel
theorem d_x_open_11 : decode prog_1_method_3_code 11 = .ok (.iconst (-1), 1) := by decide +kernel
theorem d_x_open_12 : decode prog_1_method_3_code 12 = .ok (.ireturn, 1) := by decide +kernel
theorem d_x_open_13 : decode prog_1_method_3_code 13 = .ok (.aload_n 0, 1) := by decide +kernel
theorem d_x_open_14 : decode prog_1_method_3_code 14 = .ok (.getfield 12, 3) := by decide +kernel
theorem d_x_open_17 : decode prog_1_method_3_code 17 = .ok (.getfield 62, 3) := by decide +kernel
theorem d_x_open_20 : decode prog_1_method_3_code 20 = .ok (.iload_n 1, 1) := by decide +kernel
theorem d_x_open_21 : decode prog_1_method_3_code 21 = .ok (.iload_n 2, 1) := by decide +kernel
theorem d_x_open_22 : decode prog_1_method_3_code 22 = .ok (.bastore, 1) := by decide +kernel
theorem d_x_open_23 : decode prog_1_method_3_code 23 = .ok (.iconst 1, 1) := by decide +kernel
theorem d_x_open_24 : decode prog_1_method_3_code 24 = .ok (.ireturn, 1) := by decide +kernel
theorem d_x_past_0 : decode prog_1_method_18_code 0 = .ok (.aload_n 0, 1) := by decide +kernel
theorem d_x_past_1 : decode prog_1_method_18_code 1 = .ok (.getfield 33, 3) := by decide +kernel
theorem d_x_past_4 : decode prog_1_method_18_code 4 = .ok (.iload_n 1, 1) := by decide +kernel
theorem d_x_past_5 : decode prog_1_method_18_code 5 = .ok (.iload_n 2, 1) := by decide +kernel
theorem d_x_past_6 : decode prog_1_method_18_code 6 = .ok (.invokevirtual 186, 3) := by decide +kernel
theorem d_x_past_9 : decode prog_1_method_18_code 9 = .ok (.istore_n 3, 1) := by decide +kernel
theorem d_x_past_10 : decode prog_1_method_18_code 10 = .ok (.iload_n 3, 1) := by decide +kernel
theorem d_x_past_11 : decode prog_1_method_18_code 11 = .ok (.iconst (-1), 1) := by decide +kernel
theorem d_x_past_12 : decode prog_1_method_18_code 12 = .ok (.if_icmp .ne 13, 3) := by decide +kernel
theorem d_x_past_15 : decode prog_1_method_18_code 15 = .ok (.new 131, 3) := by decide +kernel
theorem d_x_past_18 : decode prog_1_method_18_code 18 = .ok (.dup, 1) := by decide +kernel
theorem d_x_past_19 : decode prog_1_method_18_code 19 = .ok (.ldc 190, 2) := by decide +kernel
theorem d_x_past_21 : decode prog_1_method_18_code 21 = .ok (.invokespecial 135, 3) := by decide +kernel
theorem d_x_past_24 : decode prog_1_method_18_code 24 = .ok (.athrow, 1) := by decide +kernel
theorem d_x_past_25 : decode prog_1_method_18_code 25 = .ok (.iload_n 3, 1) := by decide +kernel
theorem d_x_past_26 : decode prog_1_method_18_code 26 = .ok (.ireturn, 1) := by decide +kernel
theorem d_x_renew_0 : decode prog_1_method_12_code 0 = .ok (.aload_n 0, 1) := by decide +kernel
theorem d_x_renew_1 : decode prog_1_method_12_code 1 = .ok (.getfield 33, 3) := by decide +kernel
theorem d_x_renew_4 : decode prog_1_method_12_code 4 = .ok (.iload_n 1, 1) := by decide +kernel
theorem d_x_renew_5 : decode prog_1_method_12_code 5 = .ok (.invokevirtual 112, 3) := by decide +kernel
theorem d_x_renew_8 : decode prog_1_method_12_code 8 = .ok (.ifCond .ne 5, 3) := by decide +kernel
theorem d_x_renew_11 : decode prog_1_method_12_code 11 = .ok (.iconst (-1), 1) := by decide +kernel
theorem d_x_renew_12 : decode prog_1_method_12_code 12 = .ok (.ireturn, 1) := by decide +kernel
theorem d_x_renew_13 : decode prog_1_method_12_code 13 = .ok (.aload_n 0, 1) := by decide +kernel
theorem d_x_renew_14 : decode prog_1_method_12_code 14 = .ok (.iload_n 2, 1) := by decide +kernel
theorem d_x_renew_15 : decode prog_1_method_12_code 15 = .ok (.invokevirtual 91, 3) := by decide +kernel
theorem d_x_renew_18 : decode prog_1_method_12_code 18 = .ok (.ifCond .ne 6, 3) := by decide +kernel
theorem d_x_renew_21 : decode prog_1_method_12_code 21 = .ok (.bipush (-2), 2) := by decide +kernel
theorem d_x_renew_23 : decode prog_1_method_12_code 23 = .ok (.ireturn, 1) := by decide +kernel
theorem d_x_renew_24 : decode prog_1_method_12_code 24 = .ok (.aload_n 0, 1) := by decide +kernel
theorem d_x_renew_25 : decode prog_1_method_12_code 25 = .ok (.getfield 33, 3) := by decide +kernel
theorem d_x_renew_28 : decode prog_1_method_12_code 28 = .ok (.iload_n 1, 1) := by decide +kernel
theorem d_x_renew_29 : decode prog_1_method_12_code 29 = .ok (.iload_n 2, 1) := by decide +kernel
theorem d_x_renew_30 : decode prog_1_method_12_code 30 = .ok (.invokevirtual 113, 3) := by decide +kernel
theorem d_x_renew_33 : decode prog_1_method_12_code 33 = .ok (.ifCond .ne 6, 3) := by decide +kernel
theorem d_x_renew_36 : decode prog_1_method_12_code 36 = .ok (.bipush (-3), 2) := by decide +kernel
theorem d_x_renew_38 : decode prog_1_method_12_code 38 = .ok (.ireturn, 1) := by decide +kernel
theorem d_x_renew_39 : decode prog_1_method_12_code 39 = .ok (.aload_n 0, 1) := by decide +kernel
theorem d_x_renew_40 : decode prog_1_method_12_code 40 = .ok (.getfield 33, 3) := by decide +kernel
theorem d_x_renew_43 : decode prog_1_method_12_code 43 = .ok (.iload_n 1, 1) := by decide +kernel
theorem d_x_renew_44 : decode prog_1_method_12_code 44 = .ok (.invokevirtual 116, 3) := by decide +kernel
theorem d_x_renew_47 : decode prog_1_method_12_code 47 = .ok (.ireturn, 1) := by decide +kernel
theorem d_x_request_0 : decode prog_1_method_15_code 0 = .ok (.aload_n 0, 1) := by decide +kernel
theorem d_x_request_1 : decode prog_1_method_15_code 1 = .ok (.getfield 33, 3) := by decide +kernel
theorem d_x_request_4 : decode prog_1_method_15_code 4 = .ok (.iload_n 1, 1) := by decide +kernel
theorem d_x_request_5 : decode prog_1_method_15_code 5 = .ok (.invokevirtual 112, 3) := by decide +kernel
theorem d_x_request_8 : decode prog_1_method_15_code 8 = .ok (.ifCond .ne 13, 3) := by decide +kernel
theorem d_x_request_11 : decode prog_1_method_15_code 11 = .ok (.new 131, 3) := by decide +kernel
theorem d_x_request_14 : decode prog_1_method_15_code 14 = .ok (.dup, 1) := by decide +kernel
theorem d_x_request_15 : decode prog_1_method_15_code 15 = .ok (.ldc 133, 2) := by decide +kernel
theorem d_x_request_17 : decode prog_1_method_15_code 17 = .ok (.invokespecial 135, 3) := by decide +kernel
theorem d_x_request_20 : decode prog_1_method_15_code 20 = .ok (.athrow, 1) := by decide +kernel
theorem d_x_request_21 : decode prog_1_method_15_code 21 = .ok (.iload_n 2, 1) := by decide +kernel
theorem d_x_request_22 : decode prog_1_method_15_code 22 = .ok (.tableswitch 168 0 10 #[58, 68, 78, 88, 98, 108, 118, 128, 138, 148, 158], 58) := by decide +kernel
theorem d_x_request_80 : decode prog_1_method_15_code 80 = .ok (.aload_n 0, 1) := by decide +kernel
theorem d_x_request_81 : decode prog_1_method_15_code 81 = .ok (.getfield 33, 3) := by decide +kernel
theorem d_x_request_84 : decode prog_1_method_15_code 84 = .ok (.getfield 138, 3) := by decide +kernel
theorem d_x_request_87 : decode prog_1_method_15_code 87 = .ok (.iload_n 1, 1) := by decide +kernel
theorem d_x_request_88 : decode prog_1_method_15_code 88 = .ok (.iaload, 1) := by decide +kernel
theorem d_x_request_89 : decode prog_1_method_15_code 89 = .ok (.ireturn, 1) := by decide +kernel
theorem d_x_request_90 : decode prog_1_method_15_code 90 = .ok (.aload_n 0, 1) := by decide +kernel
theorem d_x_request_91 : decode prog_1_method_15_code 91 = .ok (.getfield 33, 3) := by decide +kernel
theorem d_x_request_94 : decode prog_1_method_15_code 94 = .ok (.getfield 141, 3) := by decide +kernel
theorem d_x_request_97 : decode prog_1_method_15_code 97 = .ok (.iload_n 1, 1) := by decide +kernel
theorem d_x_request_98 : decode prog_1_method_15_code 98 = .ok (.iaload, 1) := by decide +kernel
theorem d_x_request_99 : decode prog_1_method_15_code 99 = .ok (.ireturn, 1) := by decide +kernel
theorem d_x_request_100 : decode prog_1_method_15_code 100 = .ok (.aload_n 0, 1) := by decide +kernel
theorem d_x_request_101 : decode prog_1_method_15_code 101 = .ok (.getfield 33, 3) := by decide +kernel
theorem d_x_request_104 : decode prog_1_method_15_code 104 = .ok (.getfield 144, 3) := by decide +kernel
theorem d_x_request_107 : decode prog_1_method_15_code 107 = .ok (.iload_n 1, 1) := by decide +kernel
theorem d_x_request_108 : decode prog_1_method_15_code 108 = .ok (.iaload, 1) := by decide +kernel
theorem d_x_request_109 : decode prog_1_method_15_code 109 = .ok (.ireturn, 1) := by decide +kernel
theorem d_x_request_110 : decode prog_1_method_15_code 110 = .ok (.aload_n 0, 1) := by decide +kernel
theorem d_x_request_111 : decode prog_1_method_15_code 111 = .ok (.getfield 33, 3) := by decide +kernel
theorem d_x_request_114 : decode prog_1_method_15_code 114 = .ok (.getfield 147, 3) := by decide +kernel
theorem d_x_request_117 : decode prog_1_method_15_code 117 = .ok (.iload_n 1, 1) := by decide +kernel
theorem d_x_request_118 : decode prog_1_method_15_code 118 = .ok (.iaload, 1) := by decide +kernel
theorem d_x_request_119 : decode prog_1_method_15_code 119 = .ok (.ireturn, 1) := by decide +kernel
theorem d_x_request_120 : decode prog_1_method_15_code 120 = .ok (.aload_n 0, 1) := by decide +kernel
theorem d_x_request_121 : decode prog_1_method_15_code 121 = .ok (.getfield 33, 3) := by decide +kernel
theorem d_x_request_124 : decode prog_1_method_15_code 124 = .ok (.getfield 150, 3) := by decide +kernel
theorem d_x_request_127 : decode prog_1_method_15_code 127 = .ok (.iload_n 1, 1) := by decide +kernel
theorem d_x_request_128 : decode prog_1_method_15_code 128 = .ok (.iaload, 1) := by decide +kernel
theorem d_x_request_129 : decode prog_1_method_15_code 129 = .ok (.ireturn, 1) := by decide +kernel
theorem d_x_request_130 : decode prog_1_method_15_code 130 = .ok (.aload_n 0, 1) := by decide +kernel
theorem d_x_request_131 : decode prog_1_method_15_code 131 = .ok (.getfield 33, 3) := by decide +kernel
theorem d_x_request_134 : decode prog_1_method_15_code 134 = .ok (.getfield 153, 3) := by decide +kernel
theorem d_x_request_137 : decode prog_1_method_15_code 137 = .ok (.iload_n 1, 1) := by decide +kernel
theorem d_x_request_138 : decode prog_1_method_15_code 138 = .ok (.iaload, 1) := by decide +kernel
theorem d_x_request_139 : decode prog_1_method_15_code 139 = .ok (.ireturn, 1) := by decide +kernel
theorem d_x_request_140 : decode prog_1_method_15_code 140 = .ok (.aload_n 0, 1) := by decide +kernel
theorem d_x_request_141 : decode prog_1_method_15_code 141 = .ok (.getfield 33, 3) := by decide +kernel
theorem d_x_request_144 : decode prog_1_method_15_code 144 = .ok (.getfield 156, 3) := by decide +kernel
theorem d_x_request_147 : decode prog_1_method_15_code 147 = .ok (.iload_n 1, 1) := by decide +kernel
theorem d_x_request_148 : decode prog_1_method_15_code 148 = .ok (.iaload, 1) := by decide +kernel
theorem d_x_request_149 : decode prog_1_method_15_code 149 = .ok (.ireturn, 1) := by decide +kernel
theorem d_x_request_150 : decode prog_1_method_15_code 150 = .ok (.aload_n 0, 1) := by decide +kernel
theorem d_x_request_151 : decode prog_1_method_15_code 151 = .ok (.getfield 33, 3) := by decide +kernel
theorem d_x_request_154 : decode prog_1_method_15_code 154 = .ok (.getfield 159, 3) := by decide +kernel
theorem d_x_request_157 : decode prog_1_method_15_code 157 = .ok (.iload_n 1, 1) := by decide +kernel
theorem d_x_request_158 : decode prog_1_method_15_code 158 = .ok (.iaload, 1) := by decide +kernel
theorem d_x_request_159 : decode prog_1_method_15_code 159 = .ok (.ireturn, 1) := by decide +kernel
theorem d_x_request_160 : decode prog_1_method_15_code 160 = .ok (.aload_n 0, 1) := by decide +kernel
theorem d_x_request_161 : decode prog_1_method_15_code 161 = .ok (.getfield 33, 3) := by decide +kernel
theorem d_x_request_164 : decode prog_1_method_15_code 164 = .ok (.getfield 162, 3) := by decide +kernel
theorem d_x_request_167 : decode prog_1_method_15_code 167 = .ok (.iload_n 1, 1) := by decide +kernel
theorem d_x_request_168 : decode prog_1_method_15_code 168 = .ok (.iaload, 1) := by decide +kernel
theorem d_x_request_169 : decode prog_1_method_15_code 169 = .ok (.ireturn, 1) := by decide +kernel
theorem d_x_request_170 : decode prog_1_method_15_code 170 = .ok (.aload_n 0, 1) := by decide +kernel
theorem d_x_request_171 : decode prog_1_method_15_code 171 = .ok (.getfield 33, 3) := by decide +kernel
theorem d_x_request_174 : decode prog_1_method_15_code 174 = .ok (.getfield 165, 3) := by decide +kernel
theorem d_x_request_177 : decode prog_1_method_15_code 177 = .ok (.iload_n 1, 1) := by decide +kernel
theorem d_x_request_178 : decode prog_1_method_15_code 178 = .ok (.iaload, 1) := by decide +kernel
theorem d_x_request_179 : decode prog_1_method_15_code 179 = .ok (.ireturn, 1) := by decide +kernel
theorem d_x_request_180 : decode prog_1_method_15_code 180 = .ok (.aload_n 0, 1) := by decide +kernel
theorem d_x_request_181 : decode prog_1_method_15_code 181 = .ok (.getfield 33, 3) := by decide +kernel
theorem d_x_request_184 : decode prog_1_method_15_code 184 = .ok (.getfield 122, 3) := by decide +kernel
theorem d_x_request_187 : decode prog_1_method_15_code 187 = .ok (.iload_n 1, 1) := by decide +kernel
theorem d_x_request_188 : decode prog_1_method_15_code 188 = .ok (.iaload, 1) := by decide +kernel
theorem d_x_request_189 : decode prog_1_method_15_code 189 = .ok (.ireturn, 1) := by decide +kernel
theorem d_x_request_190 : decode prog_1_method_15_code 190 = .ok (.new 131, 3) := by decide +kernel
theorem d_x_request_193 : decode prog_1_method_15_code 193 = .ok (.dup, 1) := by decide +kernel
theorem d_x_request_194 : decode prog_1_method_15_code 194 = .ok (.ldc 168, 2) := by decide +kernel
theorem d_x_request_196 : decode prog_1_method_15_code 196 = .ok (.invokespecial 135, 3) := by decide +kernel
theorem d_x_request_199 : decode prog_1_method_15_code 199 = .ok (.athrow, 1) := by decide +kernel
theorem d_x_right_0 : decode prog_1_method_10_code 0 = .ok (.aload_n 0, 1) := by decide +kernel
theorem d_x_right_1 : decode prog_1_method_10_code 1 = .ok (.getfield 12, 3) := by decide +kernel
theorem d_x_right_4 : decode prog_1_method_10_code 4 = .ok (.iload_n 1, 1) := by decide +kernel
theorem d_x_right_5 : decode prog_1_method_10_code 5 = .ok (.invokevirtual 59, 3) := by decide +kernel
theorem d_x_right_8 : decode prog_1_method_10_code 8 = .ok (.ifCond .ne 5, 3) := by decide +kernel
theorem d_x_right_11 : decode prog_1_method_10_code 11 = .ok (.iconst (-1), 1) := by decide +kernel
theorem d_x_right_12 : decode prog_1_method_10_code 12 = .ok (.ireturn, 1) := by decide +kernel
theorem d_x_right_13 : decode prog_1_method_10_code 13 = .ok (.iload_n 2, 1) := by decide +kernel
theorem d_x_right_14 : decode prog_1_method_10_code 14 = .ok (.iconst 0, 1) := by decide +kernel
theorem d_x_right_15 : decode prog_1_method_10_code 15 = .ok (.bipush 9, 2) := by decide +kernel
theorem d_x_right_17 : decode prog_1_method_10_code 17 = .ok (.invokestatic 84, 3) := by decide +kernel
theorem d_x_right_20 : decode prog_1_method_10_code 20 = .ok (.ifCond .ne 6, 3) := by decide +kernel
theorem d_x_right_23 : decode prog_1_method_10_code 23 = .ok (.bipush (-2), 2) := by decide +kernel
theorem d_x_right_25 : decode prog_1_method_10_code 25 = .ok (.ireturn, 1) := by decide +kernel
theorem d_x_right_26 : decode prog_1_method_10_code 26 = .ok (.aload_n 0, 1) := by decide +kernel
theorem d_x_right_27 : decode prog_1_method_10_code 27 = .ok (.getfield 12, 3) := by decide +kernel
theorem d_x_right_30 : decode prog_1_method_10_code 30 = .ok (.getfield 102, 3) := by decide +kernel
theorem d_x_right_33 : decode prog_1_method_10_code 33 = .ok (.iload_n 1, 1) := by decide +kernel
theorem d_x_right_34 : decode prog_1_method_10_code 34 = .ok (.iload_n 2, 1) := by decide +kernel
theorem d_x_right_35 : decode prog_1_method_10_code 35 = .ok (.iastore, 1) := by decide +kernel
theorem d_x_right_36 : decode prog_1_method_10_code 36 = .ok (.iconst 1, 1) := by decide +kernel
theorem d_x_right_37 : decode prog_1_method_10_code 37 = .ok (.ireturn, 1) := by decide +kernel
theorem d_x_statistics_0 : decode prog_1_method_17_code 0 = .ok (.iload_n 1, 1) := by decide +kernel
theorem d_x_statistics_1 : decode prog_1_method_17_code 1 = .ok (.invokestatic 88, 3) := by decide +kernel
theorem d_x_statistics_4 : decode prog_1_method_17_code 4 = .ok (.ifCond .ne 5, 3) := by decide +kernel
theorem d_x_statistics_7 : decode prog_1_method_17_code 7 = .ok (.iconst (-1), 1) := by decide +kernel
theorem d_x_statistics_8 : decode prog_1_method_17_code 8 = .ok (.ireturn, 1) := by decide +kernel
theorem d_x_statistics_9 : decode prog_1_method_17_code 9 = .ok (.iload_n 2, 1) := by decide +kernel
theorem d_x_statistics_10 : decode prog_1_method_17_code 10 = .ok (.tableswitch 66 0 3 #[30, 39, 48, 57], 30) := by decide +kernel
theorem d_x_statistics_40 : decode prog_1_method_17_code 40 = .ok (.aload_n 0, 1) := by decide +kernel
theorem d_x_statistics_41 : decode prog_1_method_17_code 41 = .ok (.getfield 33, 3) := by decide +kernel
theorem d_x_statistics_44 : decode prog_1_method_17_code 44 = .ok (.iload_n 1, 1) := by decide +kernel
theorem d_x_statistics_45 : decode prog_1_method_17_code 45 = .ok (.invokevirtual 174, 3) := by decide +kernel
theorem d_x_statistics_48 : decode prog_1_method_17_code 48 = .ok (.ireturn, 1) := by decide +kernel
theorem d_x_statistics_49 : decode prog_1_method_17_code 49 = .ok (.aload_n 0, 1) := by decide +kernel
theorem d_x_statistics_50 : decode prog_1_method_17_code 50 = .ok (.getfield 33, 3) := by decide +kernel
theorem d_x_statistics_53 : decode prog_1_method_17_code 53 = .ok (.iload_n 1, 1) := by decide +kernel
theorem d_x_statistics_54 : decode prog_1_method_17_code 54 = .ok (.invokevirtual 177, 3) := by decide +kernel
theorem d_x_statistics_57 : decode prog_1_method_17_code 57 = .ok (.ireturn, 1) := by decide +kernel
theorem d_x_statistics_58 : decode prog_1_method_17_code 58 = .ok (.aload_n 0, 1) := by decide +kernel
theorem d_x_statistics_59 : decode prog_1_method_17_code 59 = .ok (.getfield 33, 3) := by decide +kernel
theorem d_x_statistics_62 : decode prog_1_method_17_code 62 = .ok (.iload_n 1, 1) := by decide +kernel
theorem d_x_statistics_63 : decode prog_1_method_17_code 63 = .ok (.invokevirtual 180, 3) := by decide +kernel
theorem d_x_statistics_66 : decode prog_1_method_17_code 66 = .ok (.ireturn, 1) := by decide +kernel
theorem d_x_statistics_67 : decode prog_1_method_17_code 67 = .ok (.aload_n 0, 1) := by decide +kernel
theorem d_x_statistics_68 : decode prog_1_method_17_code 68 = .ok (.getfield 33, 3) := by decide +kernel
theorem d_x_statistics_71 : decode prog_1_method_17_code 71 = .ok (.iload_n 1, 1) := by decide +kernel
theorem d_x_statistics_72 : decode prog_1_method_17_code 72 = .ok (.invokevirtual 183, 3) := by decide +kernel
theorem d_x_statistics_75 : decode prog_1_method_17_code 75 = .ok (.ireturn, 1) := by decide +kernel
theorem d_x_statistics_76 : decode prog_1_method_17_code 76 = .ok (.iconst (-1), 1) := by decide +kernel
theorem d_x_statistics_77 : decode prog_1_method_17_code 77 = .ok (.ireturn, 1) := by decide +kernel
theorem d_x_title_0 : decode prog_1_method_2_code 0 = .ok (.iload_n 1, 1) := by decide +kernel
theorem d_x_title_1 : decode prog_1_method_2_code 1 = .ok (.invokestatic 51, 3) := by decide +kernel
theorem d_x_title_4 : decode prog_1_method_2_code 4 = .ok (.ifCond .ne 6, 3) := by decide +kernel
theorem d_x_title_7 : decode prog_1_method_2_code 7 = .ok (.bipush (-2), 2) := by decide +kernel
theorem d_x_title_9 : decode prog_1_method_2_code 9 = .ok (.ireturn, 1) := by decide +kernel
theorem d_x_title_10 : decode prog_1_method_2_code 10 = .ok (.aload_n 0, 1) := by decide +kernel
theorem d_x_title_11 : decode prog_1_method_2_code 11 = .ok (.getfield 12, 3) := by decide +kernel
theorem d_x_title_14 : decode prog_1_method_2_code 14 = .ok (.iload_n 1, 1) := by decide +kernel
theorem d_x_title_15 : decode prog_1_method_2_code 15 = .ok (.invokevirtual 55, 3) := by decide +kernel
theorem d_x_title_18 : decode prog_1_method_2_code 18 = .ok (.ireturn, 1) := by decide +kernel
theorem d_x_waive_0 : decode prog_1_method_11_code 0 = .ok (.aload_n 0, 1) := by decide +kernel
theorem d_x_waive_1 : decode prog_1_method_11_code 1 = .ok (.getfield 12, 3) := by decide +kernel
theorem d_x_waive_4 : decode prog_1_method_11_code 4 = .ok (.iload_n 1, 1) := by decide +kernel
theorem d_x_waive_5 : decode prog_1_method_11_code 5 = .ok (.invokevirtual 59, 3) := by decide +kernel
theorem d_x_waive_8 : decode prog_1_method_11_code 8 = .ok (.ifCond .ne 5, 3) := by decide +kernel
theorem d_x_waive_11 : decode prog_1_method_11_code 11 = .ok (.iconst (-1), 1) := by decide +kernel
theorem d_x_waive_12 : decode prog_1_method_11_code 12 = .ok (.ireturn, 1) := by decide +kernel
theorem d_x_waive_13 : decode prog_1_method_11_code 13 = .ok (.iload_n 2, 1) := by decide +kernel
theorem d_x_waive_14 : decode prog_1_method_11_code 14 = .ok (.invokestatic 88, 3) := by decide +kernel
theorem d_x_waive_17 : decode prog_1_method_11_code 17 = .ok (.ifCond .ne 6, 3) := by decide +kernel
theorem d_x_waive_20 : decode prog_1_method_11_code 20 = .ok (.bipush (-2), 2) := by decide +kernel
theorem d_x_waive_22 : decode prog_1_method_11_code 22 = .ok (.ireturn, 1) := by decide +kernel
theorem d_x_waive_23 : decode prog_1_method_11_code 23 = .ok (.aload_n 0, 1) := by decide +kernel
theorem d_x_waive_24 : decode prog_1_method_11_code 24 = .ok (.iload_n 1, 1) := by decide +kernel
theorem d_x_waive_25 : decode prog_1_method_11_code 25 = .ok (.iload_n 2, 1) := by decide +kernel
theorem d_x_waive_26 : decode prog_1_method_11_code 26 = .ok (.invokevirtual 105, 3) := by decide +kernel
theorem d_x_waive_29 : decode prog_1_method_11_code 29 = .ok (.ifCond .ne 6, 3) := by decide +kernel
theorem d_x_waive_32 : decode prog_1_method_11_code 32 = .ok (.bipush (-3), 2) := by decide +kernel
theorem d_x_waive_34 : decode prog_1_method_11_code 34 = .ok (.ireturn, 1) := by decide +kernel
theorem d_x_waive_35 : decode prog_1_method_11_code 35 = .ok (.aload_n 0, 1) := by decide +kernel
theorem d_x_waive_36 : decode prog_1_method_11_code 36 = .ok (.getfield 12, 3) := by decide +kernel
theorem d_x_waive_39 : decode prog_1_method_11_code 39 = .ok (.getfield 109, 3) := by decide +kernel
theorem d_x_waive_42 : decode prog_1_method_11_code 42 = .ok (.iload_n 1, 1) := by decide +kernel
theorem d_x_waive_43 : decode prog_1_method_11_code 43 = .ok (.iaload, 1) := by decide +kernel
theorem d_x_waive_44 : decode prog_1_method_11_code 44 = .ok (.bipush 20, 2) := by decide +kernel
theorem d_x_waive_46 : decode prog_1_method_11_code 46 = .ok (.if_icmp .lt 6, 3) := by decide +kernel
theorem d_x_waive_49 : decode prog_1_method_11_code 49 = .ok (.bipush (-4), 2) := by decide +kernel
theorem d_x_waive_51 : decode prog_1_method_11_code 51 = .ok (.ireturn, 1) := by decide +kernel
theorem d_x_waive_52 : decode prog_1_method_11_code 52 = .ok (.aload_n 0, 1) := by decide +kernel
theorem d_x_waive_53 : decode prog_1_method_11_code 53 = .ok (.getfield 12, 3) := by decide +kernel
theorem d_x_waive_56 : decode prog_1_method_11_code 56 = .ok (.getfield 109, 3) := by decide +kernel
theorem d_x_waive_59 : decode prog_1_method_11_code 59 = .ok (.iload_n 1, 1) := by decide +kernel
theorem d_x_waive_60 : decode prog_1_method_11_code 60 = .ok (.dup2, 1) := by decide +kernel
theorem d_x_waive_61 : decode prog_1_method_11_code 61 = .ok (.iaload, 1) := by decide +kernel
theorem d_x_waive_62 : decode prog_1_method_11_code 62 = .ok (.iconst 1, 1) := by decide +kernel
theorem d_x_waive_63 : decode prog_1_method_11_code 63 = .ok (.iadd, 1) := by decide +kernel
theorem d_x_waive_64 : decode prog_1_method_11_code 64 = .ok (.iastore, 1) := by decide +kernel
theorem d_x_waive_65 : decode prog_1_method_11_code 65 = .ok (.aload_n 0, 1) := by decide +kernel
theorem d_x_waive_66 : decode prog_1_method_11_code 66 = .ok (.getfield 12, 3) := by decide +kernel
theorem d_x_waive_69 : decode prog_1_method_11_code 69 = .ok (.getfield 109, 3) := by decide +kernel
theorem d_x_waive_72 : decode prog_1_method_11_code 72 = .ok (.iload_n 1, 1) := by decide +kernel
theorem d_x_waive_73 : decode prog_1_method_11_code 73 = .ok (.iaload, 1) := by decide +kernel
theorem d_x_waive_74 : decode prog_1_method_11_code 74 = .ok (.ireturn, 1) := by decide +kernel
theorem d_x_why_0 : decode prog_1_method_8_code 0 = .ok (.aload_n 0, 1) := by decide +kernel
theorem d_x_why_1 : decode prog_1_method_8_code 1 = .ok (.getfield 48, 3) := by decide +kernel
theorem d_x_why_4 : decode prog_1_method_8_code 4 = .ok (.ireturn, 1) := by decide +kernel
theorem d_c_init_0 : decode prog_2_method_1_code 0 = .ok (.aload_n 0, 1) := by decide +kernel
theorem d_c_init_1 : decode prog_2_method_1_code 1 = .ok (.invokespecial 3, 3) := by decide +kernel
theorem d_c_init_4 : decode prog_2_method_1_code 4 = .ok (.aload_n 0, 1) := by decide +kernel
theorem d_c_init_5 : decode prog_2_method_1_code 5 = .ok (.bipush 50, 2) := by decide +kernel
theorem d_c_init_7 : decode prog_2_method_1_code 7 = .ok (.newarray .int, 2) := by decide +kernel
theorem d_c_init_9 : decode prog_2_method_1_code 9 = .ok (.putfield 9, 3) := by decide +kernel
theorem d_c_init_12 : decode prog_2_method_1_code 12 = .ok (.aload_n 0, 1) := by decide +kernel
theorem d_c_init_13 : decode prog_2_method_1_code 13 = .ok (.bipush 50, 2) := by decide +kernel
theorem d_c_init_15 : decode prog_2_method_1_code 15 = .ok (.newarray .int, 2) := by decide +kernel
theorem d_c_init_17 : decode prog_2_method_1_code 17 = .ok (.putfield 15, 3) := by decide +kernel
theorem d_c_init_20 : decode prog_2_method_1_code 20 = .ok (.aload_n 0, 1) := by decide +kernel
theorem d_c_init_21 : decode prog_2_method_1_code 21 = .ok (.bipush 50, 2) := by decide +kernel
theorem d_c_init_23 : decode prog_2_method_1_code 23 = .ok (.newarray .int, 2) := by decide +kernel
theorem d_c_init_25 : decode prog_2_method_1_code 25 = .ok (.putfield 18, 3) := by decide +kernel
theorem d_c_init_28 : decode prog_2_method_1_code 28 = .ok (.aload_n 0, 1) := by decide +kernel
theorem d_c_init_29 : decode prog_2_method_1_code 29 = .ok (.bipush 50, 2) := by decide +kernel
theorem d_c_init_31 : decode prog_2_method_1_code 31 = .ok (.newarray .int, 2) := by decide +kernel
theorem d_c_init_33 : decode prog_2_method_1_code 33 = .ok (.putfield 21, 3) := by decide +kernel
theorem d_c_init_36 : decode prog_2_method_1_code 36 = .ok (.aload_n 0, 1) := by decide +kernel
theorem d_c_init_37 : decode prog_2_method_1_code 37 = .ok (.bipush 50, 2) := by decide +kernel
theorem d_c_init_39 : decode prog_2_method_1_code 39 = .ok (.newarray .int, 2) := by decide +kernel
theorem d_c_init_41 : decode prog_2_method_1_code 41 = .ok (.putfield 24, 3) := by decide +kernel
theorem d_c_init_44 : decode prog_2_method_1_code 44 = .ok (.aload_n 0, 1) := by decide +kernel
theorem d_c_init_45 : decode prog_2_method_1_code 45 = .ok (.iconst 0, 1) := by decide +kernel
theorem d_c_init_46 : decode prog_2_method_1_code 46 = .ok (.putfield 27, 3) := by decide +kernel
theorem d_c_init_49 : decode prog_2_method_1_code 49 = .ok (.return_, 1) := by decide +kernel
theorem d_c_add_0 : decode prog_2_method_3_code 0 = .ok (.aload_n 0, 1) := by decide +kernel
theorem d_c_add_1 : decode prog_2_method_3_code 1 = .ok (.getfield 27, 3) := by decide +kernel
theorem d_c_add_4 : decode prog_2_method_3_code 4 = .ok (.bipush 50, 2) := by decide +kernel
theorem d_c_add_6 : decode prog_2_method_3_code 6 = .ok (.if_icmp .lt 6, 3) := by decide +kernel
theorem d_c_add_9 : decode prog_2_method_3_code 9 = .ok (.bipush (-4), 2) := by decide +kernel
theorem d_c_add_11 : decode prog_2_method_3_code 11 = .ok (.ireturn, 1) := by decide +kernel
theorem d_c_add_12 : decode prog_2_method_3_code 12 = .ok (.aload_n 0, 1) := by decide +kernel
theorem d_c_add_13 : decode prog_2_method_3_code 13 = .ok (.getfield 9, 3) := by decide +kernel
theorem d_c_add_16 : decode prog_2_method_3_code 16 = .ok (.aload_n 0, 1) := by decide +kernel
theorem d_c_add_17 : decode prog_2_method_3_code 17 = .ok (.getfield 27, 3) := by decide +kernel
theorem d_c_add_20 : decode prog_2_method_3_code 20 = .ok (.iload_n 1, 1) := by decide +kernel
theorem d_c_add_21 : decode prog_2_method_3_code 21 = .ok (.iastore, 1) := by decide +kernel
theorem d_c_add_22 : decode prog_2_method_3_code 22 = .ok (.aload_n 0, 1) := by decide +kernel
theorem d_c_add_23 : decode prog_2_method_3_code 23 = .ok (.getfield 15, 3) := by decide +kernel
theorem d_c_add_26 : decode prog_2_method_3_code 26 = .ok (.aload_n 0, 1) := by decide +kernel
theorem d_c_add_27 : decode prog_2_method_3_code 27 = .ok (.getfield 27, 3) := by decide +kernel
theorem d_c_add_30 : decode prog_2_method_3_code 30 = .ok (.iload_n 2, 1) := by decide +kernel
theorem d_c_add_31 : decode prog_2_method_3_code 31 = .ok (.iastore, 1) := by decide +kernel
theorem d_c_add_32 : decode prog_2_method_3_code 32 = .ok (.aload_n 0, 1) := by decide +kernel
theorem d_c_add_33 : decode prog_2_method_3_code 33 = .ok (.getfield 18, 3) := by decide +kernel
theorem d_c_add_36 : decode prog_2_method_3_code 36 = .ok (.aload_n 0, 1) := by decide +kernel
theorem d_c_add_37 : decode prog_2_method_3_code 37 = .ok (.getfield 27, 3) := by decide +kernel
theorem d_c_add_40 : decode prog_2_method_3_code 40 = .ok (.iload_n 3, 1) := by decide +kernel
theorem d_c_add_41 : decode prog_2_method_3_code 41 = .ok (.iastore, 1) := by decide +kernel
theorem d_c_add_42 : decode prog_2_method_3_code 42 = .ok (.aload_n 0, 1) := by decide +kernel
theorem d_c_add_43 : decode prog_2_method_3_code 43 = .ok (.getfield 21, 3) := by decide +kernel
theorem d_c_add_46 : decode prog_2_method_3_code 46 = .ok (.aload_n 0, 1) := by decide +kernel
theorem d_c_add_47 : decode prog_2_method_3_code 47 = .ok (.getfield 27, 3) := by decide +kernel
theorem d_c_add_50 : decode prog_2_method_3_code 50 = .ok (.iload 4, 2) := by decide +kernel
theorem d_c_add_52 : decode prog_2_method_3_code 52 = .ok (.iastore, 1) := by decide +kernel
theorem d_c_add_53 : decode prog_2_method_3_code 53 = .ok (.aload_n 0, 1) := by decide +kernel
theorem d_c_add_54 : decode prog_2_method_3_code 54 = .ok (.getfield 24, 3) := by decide +kernel
theorem d_c_add_57 : decode prog_2_method_3_code 57 = .ok (.aload_n 0, 1) := by decide +kernel
theorem d_c_add_58 : decode prog_2_method_3_code 58 = .ok (.getfield 27, 3) := by decide +kernel
theorem d_c_add_61 : decode prog_2_method_3_code 61 = .ok (.iload 5, 2) := by decide +kernel
theorem d_c_add_63 : decode prog_2_method_3_code 63 = .ok (.iastore, 1) := by decide +kernel
theorem d_c_add_64 : decode prog_2_method_3_code 64 = .ok (.aload_n 0, 1) := by decide +kernel
theorem d_c_add_65 : decode prog_2_method_3_code 65 = .ok (.dup, 1) := by decide +kernel
theorem d_c_add_66 : decode prog_2_method_3_code 66 = .ok (.getfield 27, 3) := by decide +kernel
theorem d_c_add_69 : decode prog_2_method_3_code 69 = .ok (.iconst 1, 1) := by decide +kernel
theorem d_c_add_70 : decode prog_2_method_3_code 70 = .ok (.iadd, 1) := by decide +kernel
theorem d_c_add_71 : decode prog_2_method_3_code 71 = .ok (.putfield 27, 3) := by decide +kernel
theorem d_c_add_74 : decode prog_2_method_3_code 74 = .ok (.aload_n 0, 1) := by decide +kernel
theorem d_c_add_75 : decode prog_2_method_3_code 75 = .ok (.getfield 27, 3) := by decide +kernel
theorem d_c_add_78 : decode prog_2_method_3_code 78 = .ok (.iconst 1, 1) := by decide +kernel
theorem d_c_add_79 : decode prog_2_method_3_code 79 = .ok (.isub, 1) := by decide +kernel
theorem d_c_add_80 : decode prog_2_method_3_code 80 = .ok (.ireturn, 1) := by decide +kernel
theorem d_c_firstThatHolds_0 : decode prog_2_method_4_code 0 = .ok (.iconst 0, 1) := by decide +kernel
theorem d_c_firstThatHolds_1 : decode prog_2_method_4_code 1 = .ok (.istore 4, 2) := by decide +kernel
theorem d_c_firstThatHolds_3 : decode prog_2_method_4_code 3 = .ok (.iload 4, 2) := by decide +kernel
theorem d_c_firstThatHolds_5 : decode prog_2_method_4_code 5 = .ok (.aload_n 0, 1) := by decide +kernel
theorem d_c_firstThatHolds_6 : decode prog_2_method_4_code 6 = .ok (.getfield 27, 3) := by decide +kernel
theorem d_c_firstThatHolds_9 : decode prog_2_method_4_code 9 = .ok (.if_icmp .ge 65, 3) := by decide +kernel
theorem d_c_firstThatHolds_12 : decode prog_2_method_4_code 12 = .ok (.aload_n 0, 1) := by decide +kernel
theorem d_c_firstThatHolds_13 : decode prog_2_method_4_code 13 = .ok (.getfield 9, 3) := by decide +kernel
theorem d_c_firstThatHolds_16 : decode prog_2_method_4_code 16 = .ok (.iload 4, 2) := by decide +kernel
theorem d_c_firstThatHolds_18 : decode prog_2_method_4_code 18 = .ok (.iaload, 1) := by decide +kernel
theorem d_c_firstThatHolds_19 : decode prog_2_method_4_code 19 = .ok (.iload_n 1, 1) := by decide +kernel
theorem d_c_firstThatHolds_20 : decode prog_2_method_4_code 20 = .ok (.if_icmp .ne 48, 3) := by decide +kernel
theorem d_c_firstThatHolds_23 : decode prog_2_method_4_code 23 = .ok (.aload_n 0, 1) := by decide +kernel
theorem d_c_firstThatHolds_24 : decode prog_2_method_4_code 24 = .ok (.getfield 15, 3) := by decide +kernel
theorem d_c_firstThatHolds_27 : decode prog_2_method_4_code 27 = .ok (.iload 4, 2) := by decide +kernel
theorem d_c_firstThatHolds_29 : decode prog_2_method_4_code 29 = .ok (.iaload, 1) := by decide +kernel
theorem d_c_firstThatHolds_30 : decode prog_2_method_4_code 30 = .ok (.iload_n 2, 1) := by decide +kernel
theorem d_c_firstThatHolds_31 : decode prog_2_method_4_code 31 = .ok (.if_icmp .ne 37, 3) := by decide +kernel
theorem d_c_firstThatHolds_34 : decode prog_2_method_4_code 34 = .ok (.iload_n 3, 1) := by decide +kernel
theorem d_c_firstThatHolds_35 : decode prog_2_method_4_code 35 = .ok (.aload_n 0, 1) := by decide +kernel
theorem d_c_firstThatHolds_36 : decode prog_2_method_4_code 36 = .ok (.getfield 21, 3) := by decide +kernel
theorem d_c_firstThatHolds_39 : decode prog_2_method_4_code 39 = .ok (.iload 4, 2) := by decide +kernel
theorem d_c_firstThatHolds_41 : decode prog_2_method_4_code 41 = .ok (.iaload, 1) := by decide +kernel
theorem d_c_firstThatHolds_42 : decode prog_2_method_4_code 42 = .ok (.aload_n 0, 1) := by decide +kernel
theorem d_c_firstThatHolds_43 : decode prog_2_method_4_code 43 = .ok (.getfield 24, 3) := by decide +kernel
theorem d_c_firstThatHolds_46 : decode prog_2_method_4_code 46 = .ok (.iload 4, 2) := by decide +kernel
theorem d_c_firstThatHolds_48 : decode prog_2_method_4_code 48 = .ok (.iaload, 1) := by decide +kernel
theorem d_c_firstThatHolds_49 : decode prog_2_method_4_code 49 = .ok (.invokestatic 31, 3) := by decide +kernel
theorem d_c_firstThatHolds_52 : decode prog_2_method_4_code 52 = .ok (.ifCond .eq 16, 3) := by decide +kernel
theorem d_c_firstThatHolds_55 : decode prog_2_method_4_code 55 = .ok (.aload_n 0, 1) := by decide +kernel
theorem d_c_firstThatHolds_56 : decode prog_2_method_4_code 56 = .ok (.getfield 18, 3) := by decide +kernel
theorem d_c_firstThatHolds_59 : decode prog_2_method_4_code 59 = .ok (.iload 4, 2) := by decide +kernel
theorem d_c_firstThatHolds_61 : decode prog_2_method_4_code 61 = .ok (.iaload, 1) := by decide +kernel
theorem d_c_firstThatHolds_62 : decode prog_2_method_4_code 62 = .ok (.ifCond .le 6, 3) := by decide +kernel
theorem d_c_firstThatHolds_65 : decode prog_2_method_4_code 65 = .ok (.iload 4, 2) := by decide +kernel
theorem d_c_firstThatHolds_67 : decode prog_2_method_4_code 67 = .ok (.ireturn, 1) := by decide +kernel
theorem d_c_firstThatHolds_68 : decode prog_2_method_4_code 68 = .ok (.iinc 4 1, 3) := by decide +kernel
theorem d_c_firstThatHolds_71 : decode prog_2_method_4_code 71 = .ok (.goto (-68), 3) := by decide +kernel
theorem d_c_firstThatHolds_74 : decode prog_2_method_4_code 74 = .ok (.iconst (-1), 1) := by decide +kernel
theorem d_c_firstThatHolds_75 : decode prog_2_method_4_code 75 = .ok (.ireturn, 1) := by decide +kernel
theorem d_c_has_0 : decode prog_2_method_2_code 0 = .ok (.iload_n 1, 1) := by decide +kernel
theorem d_c_has_1 : decode prog_2_method_2_code 1 = .ok (.ifCond .lt 15, 3) := by decide +kernel
theorem d_c_has_4 : decode prog_2_method_2_code 4 = .ok (.iload_n 1, 1) := by decide +kernel
theorem d_c_has_5 : decode prog_2_method_2_code 5 = .ok (.aload_n 0, 1) := by decide +kernel
theorem d_c_has_6 : decode prog_2_method_2_code 6 = .ok (.getfield 27, 3) := by decide +kernel
theorem d_c_has_9 : decode prog_2_method_2_code 9 = .ok (.if_icmp .ge 7, 3) := by decide +kernel
theorem d_c_has_12 : decode prog_2_method_2_code 12 = .ok (.iconst 1, 1) := by decide +kernel
theorem d_c_has_13 : decode prog_2_method_2_code 13 = .ok (.goto 4, 3) := by decide +kernel
theorem d_c_has_16 : decode prog_2_method_2_code 16 = .ok (.iconst 0, 1) := by decide +kernel
theorem d_c_has_17 : decode prog_2_method_2_code 17 = .ok (.ireturn, 1) := by decide +kernel
theorem d_l_init_0 : decode prog_3_method_1_code 0 = .ok (.aload_n 0, 1) := by decide +kernel
theorem d_l_init_1 : decode prog_3_method_1_code 1 = .ok (.invokespecial 3, 3) := by decide +kernel
theorem d_l_init_4 : decode prog_3_method_1_code 4 = .ok (.aload_n 0, 1) := by decide +kernel
theorem d_l_init_5 : decode prog_3_method_1_code 5 = .ok (.bipush 100, 2) := by decide +kernel
theorem d_l_init_7 : decode prog_3_method_1_code 7 = .ok (.newarray .int, 2) := by decide +kernel
theorem d_l_init_9 : decode prog_3_method_1_code 9 = .ok (.putfield 9, 3) := by decide +kernel
theorem d_l_init_12 : decode prog_3_method_1_code 12 = .ok (.aload_n 0, 1) := by decide +kernel
theorem d_l_init_13 : decode prog_3_method_1_code 13 = .ok (.bipush 100, 2) := by decide +kernel
theorem d_l_init_15 : decode prog_3_method_1_code 15 = .ok (.newarray .int, 2) := by decide +kernel
theorem d_l_init_17 : decode prog_3_method_1_code 17 = .ok (.putfield 15, 3) := by decide +kernel
theorem d_l_init_20 : decode prog_3_method_1_code 20 = .ok (.aload_n 0, 1) := by decide +kernel
theorem d_l_init_21 : decode prog_3_method_1_code 21 = .ok (.bipush 100, 2) := by decide +kernel
theorem d_l_init_23 : decode prog_3_method_1_code 23 = .ok (.newarray .int, 2) := by decide +kernel
theorem d_l_init_25 : decode prog_3_method_1_code 25 = .ok (.putfield 18, 3) := by decide +kernel
theorem d_l_init_28 : decode prog_3_method_1_code 28 = .ok (.aload_n 0, 1) := by decide +kernel
theorem d_l_init_29 : decode prog_3_method_1_code 29 = .ok (.bipush 100, 2) := by decide +kernel
theorem d_l_init_31 : decode prog_3_method_1_code 31 = .ok (.newarray .int, 2) := by decide +kernel
theorem d_l_init_33 : decode prog_3_method_1_code 33 = .ok (.putfield 21, 3) := by decide +kernel
theorem d_l_init_36 : decode prog_3_method_1_code 36 = .ok (.aload_n 0, 1) := by decide +kernel
theorem d_l_init_37 : decode prog_3_method_1_code 37 = .ok (.iconst 0, 1) := by decide +kernel
theorem d_l_init_38 : decode prog_3_method_1_code 38 = .ok (.putfield 24, 3) := by decide +kernel
theorem d_l_init_41 : decode prog_3_method_1_code 41 = .ok (.return_, 1) := by decide +kernel
theorem d_l_add_0 : decode prog_3_method_2_code 0 = .ok (.aload_n 0, 1) := by decide +kernel
theorem d_l_add_1 : decode prog_3_method_2_code 1 = .ok (.getfield 24, 3) := by decide +kernel
theorem d_l_add_4 : decode prog_3_method_2_code 4 = .ok (.bipush 100, 2) := by decide +kernel
theorem d_l_add_6 : decode prog_3_method_2_code 6 = .ok (.if_icmp .lt 6, 3) := by decide +kernel
theorem d_l_add_9 : decode prog_3_method_2_code 9 = .ok (.bipush (-4), 2) := by decide +kernel
theorem d_l_add_11 : decode prog_3_method_2_code 11 = .ok (.ireturn, 1) := by decide +kernel
theorem d_l_add_12 : decode prog_3_method_2_code 12 = .ok (.aload_n 0, 1) := by decide +kernel
theorem d_l_add_13 : decode prog_3_method_2_code 13 = .ok (.getfield 9, 3) := by decide +kernel
theorem d_l_add_16 : decode prog_3_method_2_code 16 = .ok (.aload_n 0, 1) := by decide +kernel
theorem d_l_add_17 : decode prog_3_method_2_code 17 = .ok (.getfield 24, 3) := by decide +kernel
theorem d_l_add_20 : decode prog_3_method_2_code 20 = .ok (.iload_n 1, 1) := by decide +kernel
theorem d_l_add_21 : decode prog_3_method_2_code 21 = .ok (.iastore, 1) := by decide +kernel
theorem d_l_add_22 : decode prog_3_method_2_code 22 = .ok (.aload_n 0, 1) := by decide +kernel
theorem d_l_add_23 : decode prog_3_method_2_code 23 = .ok (.getfield 15, 3) := by decide +kernel
theorem d_l_add_26 : decode prog_3_method_2_code 26 = .ok (.aload_n 0, 1) := by decide +kernel
theorem d_l_add_27 : decode prog_3_method_2_code 27 = .ok (.getfield 24, 3) := by decide +kernel
theorem d_l_add_30 : decode prog_3_method_2_code 30 = .ok (.iload_n 2, 1) := by decide +kernel
theorem d_l_add_31 : decode prog_3_method_2_code 31 = .ok (.iastore, 1) := by decide +kernel
theorem d_l_add_32 : decode prog_3_method_2_code 32 = .ok (.aload_n 0, 1) := by decide +kernel
theorem d_l_add_33 : decode prog_3_method_2_code 33 = .ok (.getfield 18, 3) := by decide +kernel
theorem d_l_add_36 : decode prog_3_method_2_code 36 = .ok (.aload_n 0, 1) := by decide +kernel
theorem d_l_add_37 : decode prog_3_method_2_code 37 = .ok (.getfield 24, 3) := by decide +kernel
theorem d_l_add_40 : decode prog_3_method_2_code 40 = .ok (.iload_n 3, 1) := by decide +kernel
theorem d_l_add_41 : decode prog_3_method_2_code 41 = .ok (.iastore, 1) := by decide +kernel
theorem d_l_add_42 : decode prog_3_method_2_code 42 = .ok (.aload_n 0, 1) := by decide +kernel
theorem d_l_add_43 : decode prog_3_method_2_code 43 = .ok (.getfield 21, 3) := by decide +kernel
theorem d_l_add_46 : decode prog_3_method_2_code 46 = .ok (.aload_n 0, 1) := by decide +kernel
theorem d_l_add_47 : decode prog_3_method_2_code 47 = .ok (.getfield 24, 3) := by decide +kernel
theorem d_l_add_50 : decode prog_3_method_2_code 50 = .ok (.iload 4, 2) := by decide +kernel
theorem d_l_add_52 : decode prog_3_method_2_code 52 = .ok (.iastore, 1) := by decide +kernel
theorem d_l_add_53 : decode prog_3_method_2_code 53 = .ok (.aload_n 0, 1) := by decide +kernel
theorem d_l_add_54 : decode prog_3_method_2_code 54 = .ok (.dup, 1) := by decide +kernel
theorem d_l_add_55 : decode prog_3_method_2_code 55 = .ok (.getfield 24, 3) := by decide +kernel
theorem d_l_add_58 : decode prog_3_method_2_code 58 = .ok (.iconst 1, 1) := by decide +kernel
theorem d_l_add_59 : decode prog_3_method_2_code 59 = .ok (.iadd, 1) := by decide +kernel
theorem d_l_add_60 : decode prog_3_method_2_code 60 = .ok (.putfield 24, 3) := by decide +kernel
theorem d_l_add_63 : decode prog_3_method_2_code 63 = .ok (.aload_n 0, 1) := by decide +kernel
theorem d_l_add_64 : decode prog_3_method_2_code 64 = .ok (.getfield 24, 3) := by decide +kernel
theorem d_l_add_67 : decode prog_3_method_2_code 67 = .ok (.iconst 1, 1) := by decide +kernel
theorem d_l_add_68 : decode prog_3_method_2_code 68 = .ok (.isub, 1) := by decide +kernel
theorem d_l_add_69 : decode prog_3_method_2_code 69 = .ok (.ireturn, 1) := by decide +kernel
theorem d_l_isOf_0 : decode prog_3_method_3_code 0 = .ok (.aload_n 0, 1) := by decide +kernel
theorem d_l_isOf_1 : decode prog_3_method_3_code 1 = .ok (.getfield 9, 3) := by decide +kernel
theorem d_l_isOf_4 : decode prog_3_method_3_code 4 = .ok (.iload_n 1, 1) := by decide +kernel
theorem d_l_isOf_5 : decode prog_3_method_3_code 5 = .ok (.iaload, 1) := by decide +kernel
theorem d_l_isOf_6 : decode prog_3_method_3_code 6 = .ok (.iload_n 2, 1) := by decide +kernel
theorem d_l_isOf_7 : decode prog_3_method_3_code 7 = .ok (.if_icmp .ne 17, 3) := by decide +kernel
theorem d_l_isOf_10 : decode prog_3_method_3_code 10 = .ok (.aload_n 0, 1) := by decide +kernel
theorem d_l_isOf_11 : decode prog_3_method_3_code 11 = .ok (.getfield 15, 3) := by decide +kernel
theorem d_l_isOf_14 : decode prog_3_method_3_code 14 = .ok (.iload_n 1, 1) := by decide +kernel
theorem d_l_isOf_15 : decode prog_3_method_3_code 15 = .ok (.iaload, 1) := by decide +kernel
theorem d_l_isOf_16 : decode prog_3_method_3_code 16 = .ok (.iload_n 3, 1) := by decide +kernel
theorem d_l_isOf_17 : decode prog_3_method_3_code 17 = .ok (.if_icmp .ne 7, 3) := by decide +kernel
theorem d_l_isOf_20 : decode prog_3_method_3_code 20 = .ok (.iconst 1, 1) := by decide +kernel
theorem d_l_isOf_21 : decode prog_3_method_3_code 21 = .ok (.goto 4, 3) := by decide +kernel
theorem d_l_isOf_24 : decode prog_3_method_3_code 24 = .ok (.iconst 0, 1) := by decide +kernel
theorem d_l_isOf_25 : decode prog_3_method_3_code 25 = .ok (.ireturn, 1) := by decide +kernel
theorem d_q_init_0 : decode prog_4_method_1_code 0 = .ok (.aload_n 0, 1) := by decide +kernel
theorem d_q_init_1 : decode prog_4_method_1_code 1 = .ok (.invokespecial 3, 3) := by decide +kernel
theorem d_q_init_4 : decode prog_4_method_1_code 4 = .ok (.aload_n 0, 1) := by decide +kernel
theorem d_q_init_5 : decode prog_4_method_1_code 5 = .ok (.sipush 300, 3) := by decide +kernel
theorem d_q_init_8 : decode prog_4_method_1_code 8 = .ok (.newarray .int, 2) := by decide +kernel
theorem d_q_init_10 : decode prog_4_method_1_code 10 = .ok (.putfield 9, 3) := by decide +kernel
theorem d_q_init_13 : decode prog_4_method_1_code 13 = .ok (.aload_n 0, 1) := by decide +kernel
theorem d_q_init_14 : decode prog_4_method_1_code 14 = .ok (.sipush 300, 3) := by decide +kernel
theorem d_q_init_17 : decode prog_4_method_1_code 17 = .ok (.newarray .int, 2) := by decide +kernel
theorem d_q_init_19 : decode prog_4_method_1_code 19 = .ok (.putfield 15, 3) := by decide +kernel
theorem d_q_init_22 : decode prog_4_method_1_code 22 = .ok (.aload_n 0, 1) := by decide +kernel
theorem d_q_init_23 : decode prog_4_method_1_code 23 = .ok (.sipush 300, 3) := by decide +kernel
theorem d_q_init_26 : decode prog_4_method_1_code 26 = .ok (.newarray .int, 2) := by decide +kernel
theorem d_q_init_28 : decode prog_4_method_1_code 28 = .ok (.putfield 18, 3) := by decide +kernel
theorem d_q_init_31 : decode prog_4_method_1_code 31 = .ok (.aload_n 0, 1) := by decide +kernel
theorem d_q_init_32 : decode prog_4_method_1_code 32 = .ok (.sipush 300, 3) := by decide +kernel
theorem d_q_init_35 : decode prog_4_method_1_code 35 = .ok (.newarray .int, 2) := by decide +kernel
theorem d_q_init_37 : decode prog_4_method_1_code 37 = .ok (.putfield 21, 3) := by decide +kernel
theorem d_q_init_40 : decode prog_4_method_1_code 40 = .ok (.aload_n 0, 1) := by decide +kernel
theorem d_q_init_41 : decode prog_4_method_1_code 41 = .ok (.sipush 300, 3) := by decide +kernel
theorem d_q_init_44 : decode prog_4_method_1_code 44 = .ok (.newarray .int, 2) := by decide +kernel
theorem d_q_init_46 : decode prog_4_method_1_code 46 = .ok (.putfield 24, 3) := by decide +kernel
theorem d_q_init_49 : decode prog_4_method_1_code 49 = .ok (.aload_n 0, 1) := by decide +kernel
theorem d_q_init_50 : decode prog_4_method_1_code 50 = .ok (.sipush 300, 3) := by decide +kernel
theorem d_q_init_53 : decode prog_4_method_1_code 53 = .ok (.newarray .int, 2) := by decide +kernel
theorem d_q_init_55 : decode prog_4_method_1_code 55 = .ok (.putfield 27, 3) := by decide +kernel
theorem d_q_init_58 : decode prog_4_method_1_code 58 = .ok (.aload_n 0, 1) := by decide +kernel
theorem d_q_init_59 : decode prog_4_method_1_code 59 = .ok (.sipush 300, 3) := by decide +kernel
theorem d_q_init_62 : decode prog_4_method_1_code 62 = .ok (.newarray .int, 2) := by decide +kernel
theorem d_q_init_64 : decode prog_4_method_1_code 64 = .ok (.putfield 30, 3) := by decide +kernel
theorem d_q_init_67 : decode prog_4_method_1_code 67 = .ok (.aload_n 0, 1) := by decide +kernel
theorem d_q_init_68 : decode prog_4_method_1_code 68 = .ok (.sipush 300, 3) := by decide +kernel
theorem d_q_init_71 : decode prog_4_method_1_code 71 = .ok (.newarray .int, 2) := by decide +kernel
theorem d_q_init_73 : decode prog_4_method_1_code 73 = .ok (.putfield 33, 3) := by decide +kernel
theorem d_q_init_76 : decode prog_4_method_1_code 76 = .ok (.aload_n 0, 1) := by decide +kernel
theorem d_q_init_77 : decode prog_4_method_1_code 77 = .ok (.sipush 300, 3) := by decide +kernel
theorem d_q_init_80 : decode prog_4_method_1_code 80 = .ok (.newarray .int, 2) := by decide +kernel
theorem d_q_init_82 : decode prog_4_method_1_code 82 = .ok (.putfield 36, 3) := by decide +kernel
theorem d_q_init_85 : decode prog_4_method_1_code 85 = .ok (.aload_n 0, 1) := by decide +kernel
theorem d_q_init_86 : decode prog_4_method_1_code 86 = .ok (.sipush 300, 3) := by decide +kernel
theorem d_q_init_89 : decode prog_4_method_1_code 89 = .ok (.newarray .int, 2) := by decide +kernel
theorem d_q_init_91 : decode prog_4_method_1_code 91 = .ok (.putfield 39, 3) := by decide +kernel
theorem d_q_init_94 : decode prog_4_method_1_code 94 = .ok (.aload_n 0, 1) := by decide +kernel
theorem d_q_init_95 : decode prog_4_method_1_code 95 = .ok (.sipush 300, 3) := by decide +kernel
theorem d_q_init_98 : decode prog_4_method_1_code 98 = .ok (.newarray .int, 2) := by decide +kernel
theorem d_q_init_100 : decode prog_4_method_1_code 100 = .ok (.putfield 42, 3) := by decide +kernel
theorem d_q_init_103 : decode prog_4_method_1_code 103 = .ok (.aload_n 0, 1) := by decide +kernel
theorem d_q_init_104 : decode prog_4_method_1_code 104 = .ok (.sipush 300, 3) := by decide +kernel
theorem d_q_init_107 : decode prog_4_method_1_code 107 = .ok (.newarray .int, 2) := by decide +kernel
theorem d_q_init_109 : decode prog_4_method_1_code 109 = .ok (.putfield 45, 3) := by decide +kernel
theorem d_q_init_112 : decode prog_4_method_1_code 112 = .ok (.aload_n 0, 1) := by decide +kernel
theorem d_q_init_113 : decode prog_4_method_1_code 113 = .ok (.iconst 0, 1) := by decide +kernel
theorem d_q_init_114 : decode prog_4_method_1_code 114 = .ok (.putfield 48, 3) := by decide +kernel
theorem d_q_init_117 : decode prog_4_method_1_code 117 = .ok (.return_, 1) := by decide +kernel
theorem d_q_add_0 : decode prog_4_method_3_code 0 = .ok (.aload_n 0, 1) := by decide +kernel
theorem d_q_add_1 : decode prog_4_method_3_code 1 = .ok (.getfield 48, 3) := by decide +kernel
theorem d_q_add_4 : decode prog_4_method_3_code 4 = .ok (.sipush 300, 3) := by decide +kernel
theorem d_q_add_7 : decode prog_4_method_3_code 7 = .ok (.if_icmp .lt 6, 3) := by decide +kernel
theorem d_q_add_10 : decode prog_4_method_3_code 10 = .ok (.bipush (-4), 2) := by decide +kernel
theorem d_q_add_12 : decode prog_4_method_3_code 12 = .ok (.ireturn, 1) := by decide +kernel
theorem d_q_add_13 : decode prog_4_method_3_code 13 = .ok (.aload_n 0, 1) := by decide +kernel
theorem d_q_add_14 : decode prog_4_method_3_code 14 = .ok (.getfield 9, 3) := by decide +kernel
theorem d_q_add_17 : decode prog_4_method_3_code 17 = .ok (.aload_n 0, 1) := by decide +kernel
theorem d_q_add_18 : decode prog_4_method_3_code 18 = .ok (.getfield 48, 3) := by decide +kernel
theorem d_q_add_21 : decode prog_4_method_3_code 21 = .ok (.iload_n 1, 1) := by decide +kernel
theorem d_q_add_22 : decode prog_4_method_3_code 22 = .ok (.iastore, 1) := by decide +kernel
theorem d_q_add_23 : decode prog_4_method_3_code 23 = .ok (.aload_n 0, 1) := by decide +kernel
theorem d_q_add_24 : decode prog_4_method_3_code 24 = .ok (.getfield 15, 3) := by decide +kernel
theorem d_q_add_27 : decode prog_4_method_3_code 27 = .ok (.aload_n 0, 1) := by decide +kernel
theorem d_q_add_28 : decode prog_4_method_3_code 28 = .ok (.getfield 48, 3) := by decide +kernel
theorem d_q_add_31 : decode prog_4_method_3_code 31 = .ok (.iload_n 2, 1) := by decide +kernel
theorem d_q_add_32 : decode prog_4_method_3_code 32 = .ok (.iastore, 1) := by decide +kernel
theorem d_q_add_33 : decode prog_4_method_3_code 33 = .ok (.aload_n 0, 1) := by decide +kernel
theorem d_q_add_34 : decode prog_4_method_3_code 34 = .ok (.getfield 18, 3) := by decide +kernel
theorem d_q_add_37 : decode prog_4_method_3_code 37 = .ok (.aload_n 0, 1) := by decide +kernel
theorem d_q_add_38 : decode prog_4_method_3_code 38 = .ok (.getfield 48, 3) := by decide +kernel
theorem d_q_add_41 : decode prog_4_method_3_code 41 = .ok (.iload_n 3, 1) := by decide +kernel
theorem d_q_add_42 : decode prog_4_method_3_code 42 = .ok (.iastore, 1) := by decide +kernel
theorem d_q_add_43 : decode prog_4_method_3_code 43 = .ok (.aload_n 0, 1) := by decide +kernel
theorem d_q_add_44 : decode prog_4_method_3_code 44 = .ok (.getfield 21, 3) := by decide +kernel
theorem d_q_add_47 : decode prog_4_method_3_code 47 = .ok (.aload_n 0, 1) := by decide +kernel
theorem d_q_add_48 : decode prog_4_method_3_code 48 = .ok (.getfield 48, 3) := by decide +kernel
theorem d_q_add_51 : decode prog_4_method_3_code 51 = .ok (.iload 4, 2) := by decide +kernel
theorem d_q_add_53 : decode prog_4_method_3_code 53 = .ok (.iastore, 1) := by decide +kernel
theorem d_q_add_54 : decode prog_4_method_3_code 54 = .ok (.aload_n 0, 1) := by decide +kernel
theorem d_q_add_55 : decode prog_4_method_3_code 55 = .ok (.getfield 24, 3) := by decide +kernel
theorem d_q_add_58 : decode prog_4_method_3_code 58 = .ok (.aload_n 0, 1) := by decide +kernel
theorem d_q_add_59 : decode prog_4_method_3_code 59 = .ok (.getfield 48, 3) := by decide +kernel
theorem d_q_add_62 : decode prog_4_method_3_code 62 = .ok (.iload 5, 2) := by decide +kernel
theorem d_q_add_64 : decode prog_4_method_3_code 64 = .ok (.iastore, 1) := by decide +kernel
theorem d_q_add_65 : decode prog_4_method_3_code 65 = .ok (.aload_n 0, 1) := by decide +kernel
theorem d_q_add_66 : decode prog_4_method_3_code 66 = .ok (.getfield 27, 3) := by decide +kernel
theorem d_q_add_69 : decode prog_4_method_3_code 69 = .ok (.aload_n 0, 1) := by decide +kernel
theorem d_q_add_70 : decode prog_4_method_3_code 70 = .ok (.getfield 48, 3) := by decide +kernel
theorem d_q_add_73 : decode prog_4_method_3_code 73 = .ok (.iconst 0, 1) := by decide +kernel
theorem d_q_add_74 : decode prog_4_method_3_code 74 = .ok (.iastore, 1) := by decide +kernel
theorem d_q_add_75 : decode prog_4_method_3_code 75 = .ok (.aload_n 0, 1) := by decide +kernel
theorem d_q_add_76 : decode prog_4_method_3_code 76 = .ok (.getfield 30, 3) := by decide +kernel
theorem d_q_add_79 : decode prog_4_method_3_code 79 = .ok (.aload_n 0, 1) := by decide +kernel
theorem d_q_add_80 : decode prog_4_method_3_code 80 = .ok (.getfield 48, 3) := by decide +kernel
theorem d_q_add_83 : decode prog_4_method_3_code 83 = .ok (.iconst (-1), 1) := by decide +kernel
theorem d_q_add_84 : decode prog_4_method_3_code 84 = .ok (.iastore, 1) := by decide +kernel
theorem d_q_add_85 : decode prog_4_method_3_code 85 = .ok (.aload_n 0, 1) := by decide +kernel
theorem d_q_add_86 : decode prog_4_method_3_code 86 = .ok (.getfield 39, 3) := by decide +kernel
theorem d_q_add_89 : decode prog_4_method_3_code 89 = .ok (.aload_n 0, 1) := by decide +kernel
theorem d_q_add_90 : decode prog_4_method_3_code 90 = .ok (.getfield 48, 3) := by decide +kernel
theorem d_q_add_93 : decode prog_4_method_3_code 93 = .ok (.iconst (-1), 1) := by decide +kernel
theorem d_q_add_94 : decode prog_4_method_3_code 94 = .ok (.iastore, 1) := by decide +kernel
theorem d_q_add_95 : decode prog_4_method_3_code 95 = .ok (.aload_n 0, 1) := by decide +kernel
theorem d_q_add_96 : decode prog_4_method_3_code 96 = .ok (.getfield 45, 3) := by decide +kernel
theorem d_q_add_99 : decode prog_4_method_3_code 99 = .ok (.aload_n 0, 1) := by decide +kernel
theorem d_q_add_100 : decode prog_4_method_3_code 100 = .ok (.getfield 48, 3) := by decide +kernel
theorem d_q_add_103 : decode prog_4_method_3_code 103 = .ok (.iconst (-1), 1) := by decide +kernel
theorem d_q_add_104 : decode prog_4_method_3_code 104 = .ok (.iastore, 1) := by decide +kernel
theorem d_q_add_105 : decode prog_4_method_3_code 105 = .ok (.aload_n 0, 1) := by decide +kernel
theorem d_q_add_106 : decode prog_4_method_3_code 106 = .ok (.dup, 1) := by decide +kernel
theorem d_q_add_107 : decode prog_4_method_3_code 107 = .ok (.getfield 48, 3) := by decide +kernel
theorem d_q_add_110 : decode prog_4_method_3_code 110 = .ok (.iconst 1, 1) := by decide +kernel
theorem d_q_add_111 : decode prog_4_method_3_code 111 = .ok (.iadd, 1) := by decide +kernel
theorem d_q_add_112 : decode prog_4_method_3_code 112 = .ok (.putfield 48, 3) := by decide +kernel
theorem d_q_add_115 : decode prog_4_method_3_code 115 = .ok (.aload_n 0, 1) := by decide +kernel
theorem d_q_add_116 : decode prog_4_method_3_code 116 = .ok (.getfield 48, 3) := by decide +kernel
theorem d_q_add_119 : decode prog_4_method_3_code 119 = .ok (.iconst 1, 1) := by decide +kernel
theorem d_q_add_120 : decode prog_4_method_3_code 120 = .ok (.isub, 1) := by decide +kernel
theorem d_q_add_121 : decode prog_4_method_3_code 121 = .ok (.ireturn, 1) := by decide +kernel
theorem d_q_allow_0 : decode prog_4_method_4_code 0 = .ok (.aload_n 0, 1) := by decide +kernel
theorem d_q_allow_1 : decode prog_4_method_4_code 1 = .ok (.getfield 27, 3) := by decide +kernel
theorem d_q_allow_4 : decode prog_4_method_4_code 4 = .ok (.iload_n 1, 1) := by decide +kernel
theorem d_q_allow_5 : decode prog_4_method_4_code 5 = .ok (.iload_n 2, 1) := by decide +kernel
theorem d_q_allow_6 : decode prog_4_method_4_code 6 = .ok (.iastore, 1) := by decide +kernel
theorem d_q_allow_7 : decode prog_4_method_4_code 7 = .ok (.aload_n 0, 1) := by decide +kernel
theorem d_q_allow_8 : decode prog_4_method_4_code 8 = .ok (.getfield 39, 3) := by decide +kernel
theorem d_q_allow_11 : decode prog_4_method_4_code 11 = .ok (.iload_n 1, 1) := by decide +kernel
theorem d_q_allow_12 : decode prog_4_method_4_code 12 = .ok (.aload_n 0, 1) := by decide +kernel
theorem d_q_allow_13 : decode prog_4_method_4_code 13 = .ok (.getfield 24, 3) := by decide +kernel
theorem d_q_allow_16 : decode prog_4_method_4_code 16 = .ok (.iload_n 1, 1) := by decide +kernel
theorem d_q_allow_17 : decode prog_4_method_4_code 17 = .ok (.iaload, 1) := by decide +kernel
theorem d_q_allow_18 : decode prog_4_method_4_code 18 = .ok (.ldc 52, 2) := by decide +kernel
theorem d_q_allow_20 : decode prog_4_method_4_code 20 = .ok (.iadd, 1) := by decide +kernel
theorem d_q_allow_21 : decode prog_4_method_4_code 21 = .ok (.iastore, 1) := by decide +kernel
theorem d_q_allow_22 : decode prog_4_method_4_code 22 = .ok (.return_, 1) := by decide +kernel
theorem d_q_centsOf_0 : decode prog_4_method_17_code 0 = .ok (.iconst 0, 1) := by decide +kernel
theorem d_q_centsOf_1 : decode prog_4_method_17_code 1 = .ok (.istore_n 2, 1) := by decide +kernel
theorem d_q_centsOf_2 : decode prog_4_method_17_code 2 = .ok (.iconst 0, 1) := by decide +kernel
theorem d_q_centsOf_3 : decode prog_4_method_17_code 3 = .ok (.istore_n 3, 1) := by decide +kernel
theorem d_q_centsOf_4 : decode prog_4_method_17_code 4 = .ok (.iload_n 3, 1) := by decide +kernel
theorem d_q_centsOf_5 : decode prog_4_method_17_code 5 = .ok (.aload_n 0, 1) := by decide +kernel
theorem d_q_centsOf_6 : decode prog_4_method_17_code 6 = .ok (.getfield 48, 3) := by decide +kernel
theorem d_q_centsOf_9 : decode prog_4_method_17_code 9 = .ok (.if_icmp .ge 28, 3) := by decide +kernel
theorem d_q_centsOf_12 : decode prog_4_method_17_code 12 = .ok (.aload_n 0, 1) := by decide +kernel
theorem d_q_centsOf_13 : decode prog_4_method_17_code 13 = .ok (.getfield 9, 3) := by decide +kernel
theorem d_q_centsOf_16 : decode prog_4_method_17_code 16 = .ok (.iload_n 3, 1) := by decide +kernel
theorem d_q_centsOf_17 : decode prog_4_method_17_code 17 = .ok (.iaload, 1) := by decide +kernel
theorem d_q_centsOf_18 : decode prog_4_method_17_code 18 = .ok (.iload_n 1, 1) := by decide +kernel
theorem d_q_centsOf_19 : decode prog_4_method_17_code 19 = .ok (.if_icmp .ne 12, 3) := by decide +kernel
theorem d_q_centsOf_22 : decode prog_4_method_17_code 22 = .ok (.iload_n 2, 1) := by decide +kernel
theorem d_q_centsOf_23 : decode prog_4_method_17_code 23 = .ok (.aload_n 0, 1) := by decide +kernel
theorem d_q_centsOf_24 : decode prog_4_method_17_code 24 = .ok (.getfield 36, 3) := by decide +kernel
theorem d_q_centsOf_27 : decode prog_4_method_17_code 27 = .ok (.iload_n 3, 1) := by decide +kernel
theorem d_q_centsOf_28 : decode prog_4_method_17_code 28 = .ok (.iaload, 1) := by decide +kernel
theorem d_q_centsOf_29 : decode prog_4_method_17_code 29 = .ok (.iadd, 1) := by decide +kernel
theorem d_q_centsOf_30 : decode prog_4_method_17_code 30 = .ok (.istore_n 2, 1) := by decide +kernel
theorem d_q_centsOf_31 : decode prog_4_method_17_code 31 = .ok (.iinc 3 1, 3) := by decide +kernel
theorem d_q_centsOf_34 : decode prog_4_method_17_code 34 = .ok (.goto (-30), 3) := by decide +kernel
theorem d_q_centsOf_37 : decode prog_4_method_17_code 37 = .ok (.iload_n 2, 1) := by decide +kernel
theorem d_q_centsOf_38 : decode prog_4_method_17_code 38 = .ok (.ireturn, 1) := by decide +kernel
theorem d_q_charge_0 : decode prog_4_method_5_code 0 = .ok (.aload_n 0, 1) := by decide +kernel
theorem d_q_charge_1 : decode prog_4_method_5_code 1 = .ok (.getfield 33, 3) := by decide +kernel
theorem d_q_charge_4 : decode prog_4_method_5_code 4 = .ok (.iload_n 1, 1) := by decide +kernel
theorem d_q_charge_5 : decode prog_4_method_5_code 5 = .ok (.aload_n 0, 1) := by decide +kernel
theorem d_q_charge_6 : decode prog_4_method_5_code 6 = .ok (.getfield 21, 3) := by decide +kernel
theorem d_q_charge_9 : decode prog_4_method_5_code 9 = .ok (.iload_n 1, 1) := by decide +kernel
theorem d_q_charge_10 : decode prog_4_method_5_code 10 = .ok (.iaload, 1) := by decide +kernel
theorem d_q_charge_11 : decode prog_4_method_5_code 11 = .ok (.iload_n 2, 1) := by decide +kernel
theorem d_q_charge_12 : decode prog_4_method_5_code 12 = .ok (.imul, 1) := by decide +kernel
theorem d_q_charge_13 : decode prog_4_method_5_code 13 = .ok (.iastore, 1) := by decide +kernel
theorem d_q_charge_14 : decode prog_4_method_5_code 14 = .ok (.aload_n 0, 1) := by decide +kernel
theorem d_q_charge_15 : decode prog_4_method_5_code 15 = .ok (.getfield 36, 3) := by decide +kernel
theorem d_q_charge_18 : decode prog_4_method_5_code 18 = .ok (.iload_n 1, 1) := by decide +kernel
theorem d_q_charge_19 : decode prog_4_method_5_code 19 = .ok (.aload_n 0, 1) := by decide +kernel
theorem d_q_charge_20 : decode prog_4_method_5_code 20 = .ok (.getfield 33, 3) := by decide +kernel
theorem d_q_charge_23 : decode prog_4_method_5_code 23 = .ok (.iload_n 1, 1) := by decide +kernel
theorem d_q_charge_24 : decode prog_4_method_5_code 24 = .ok (.iaload, 1) := by decide +kernel
theorem d_q_charge_25 : decode prog_4_method_5_code 25 = .ok (.iastore, 1) := by decide +kernel
theorem d_q_charge_26 : decode prog_4_method_5_code 26 = .ok (.return_, 1) := by decide +kernel
theorem d_q_countInSpan_0 : decode prog_4_method_12_code 0 = .ok (.iload 4, 2) := by decide +kernel
theorem d_q_countInSpan_2 : decode prog_4_method_12_code 2 = .ok (.iload_n 3, 1) := by decide +kernel
theorem d_q_countInSpan_3 : decode prog_4_method_12_code 3 = .ok (.ldc 64, 2) := by decide +kernel
theorem d_q_countInSpan_5 : decode prog_4_method_12_code 5 = .ok (.imul, 1) := by decide +kernel
theorem d_q_countInSpan_6 : decode prog_4_method_12_code 6 = .ok (.isub, 1) := by decide +kernel
theorem d_q_countInSpan_7 : decode prog_4_method_12_code 7 = .ok (.istore 5, 2) := by decide +kernel
theorem d_q_countInSpan_9 : decode prog_4_method_12_code 9 = .ok (.iconst 0, 1) := by decide +kernel
theorem d_q_countInSpan_10 : decode prog_4_method_12_code 10 = .ok (.istore 6, 2) := by decide +kernel
theorem d_q_countInSpan_12 : decode prog_4_method_12_code 12 = .ok (.iconst 0, 1) := by decide +kernel
theorem d_q_countInSpan_13 : decode prog_4_method_12_code 13 = .ok (.istore 7, 2) := by decide +kernel
theorem d_q_countInSpan_15 : decode prog_4_method_12_code 15 = .ok (.iload 7, 2) := by decide +kernel
theorem d_q_countInSpan_17 : decode prog_4_method_12_code 17 = .ok (.aload_n 0, 1) := by decide +kernel
theorem d_q_countInSpan_18 : decode prog_4_method_12_code 18 = .ok (.getfield 48, 3) := by decide +kernel
theorem d_q_countInSpan_21 : decode prog_4_method_12_code 21 = .ok (.if_icmp .ge 60, 3) := by decide +kernel
theorem d_q_countInSpan_24 : decode prog_4_method_12_code 24 = .ok (.aload_n 0, 1) := by decide +kernel
theorem d_q_countInSpan_25 : decode prog_4_method_12_code 25 = .ok (.getfield 15, 3) := by decide +kernel
theorem d_q_countInSpan_28 : decode prog_4_method_12_code 28 = .ok (.iload 7, 2) := by decide +kernel
theorem d_q_countInSpan_30 : decode prog_4_method_12_code 30 = .ok (.iaload, 1) := by decide +kernel
theorem d_q_countInSpan_31 : decode prog_4_method_12_code 31 = .ok (.iload_n 1, 1) := by decide +kernel
theorem d_q_countInSpan_32 : decode prog_4_method_12_code 32 = .ok (.if_icmp .ne 43, 3) := by decide +kernel
theorem d_q_countInSpan_35 : decode prog_4_method_12_code 35 = .ok (.aload_n 0, 1) := by decide +kernel
theorem d_q_countInSpan_36 : decode prog_4_method_12_code 36 = .ok (.getfield 18, 3) := by decide +kernel
theorem d_q_countInSpan_39 : decode prog_4_method_12_code 39 = .ok (.iload 7, 2) := by decide +kernel
theorem d_q_countInSpan_41 : decode prog_4_method_12_code 41 = .ok (.iaload, 1) := by decide +kernel
theorem d_q_countInSpan_42 : decode prog_4_method_12_code 42 = .ok (.iload_n 2, 1) := by decide +kernel
theorem d_q_countInSpan_43 : decode prog_4_method_12_code 43 = .ok (.if_icmp .ne 32, 3) := by decide +kernel
theorem d_q_countInSpan_46 : decode prog_4_method_12_code 46 = .ok (.aload_n 0, 1) := by decide +kernel
theorem d_q_countInSpan_47 : decode prog_4_method_12_code 47 = .ok (.iload 7, 2) := by decide +kernel
theorem d_q_countInSpan_49 : decode prog_4_method_12_code 49 = .ok (.invokevirtual 65, 3) := by decide +kernel
theorem d_q_countInSpan_52 : decode prog_4_method_12_code 52 = .ok (.ifCond .eq 23, 3) := by decide +kernel
theorem d_q_countInSpan_55 : decode prog_4_method_12_code 55 = .ok (.aload_n 0, 1) := by decide +kernel
theorem d_q_countInSpan_56 : decode prog_4_method_12_code 56 = .ok (.getfield 24, 3) := by decide +kernel
theorem d_q_countInSpan_59 : decode prog_4_method_12_code 59 = .ok (.iload 7, 2) := by decide +kernel
theorem d_q_countInSpan_61 : decode prog_4_method_12_code 61 = .ok (.iaload, 1) := by decide +kernel
theorem d_q_countInSpan_62 : decode prog_4_method_12_code 62 = .ok (.iload 5, 2) := by decide +kernel
theorem d_q_countInSpan_64 : decode prog_4_method_12_code 64 = .ok (.iload 4, 2) := by decide +kernel
theorem d_q_countInSpan_66 : decode prog_4_method_12_code 66 = .ok (.invokestatic 68, 3) := by decide +kernel
theorem d_q_countInSpan_69 : decode prog_4_method_12_code 69 = .ok (.ifCond .eq 6, 3) := by decide +kernel
theorem d_q_countInSpan_72 : decode prog_4_method_12_code 72 = .ok (.iinc 6 1, 3) := by decide +kernel
theorem d_q_countInSpan_75 : decode prog_4_method_12_code 75 = .ok (.iinc 7 1, 3) := by decide +kernel
theorem d_q_countInSpan_78 : decode prog_4_method_12_code 78 = .ok (.goto (-63), 3) := by decide +kernel
theorem d_q_countInSpan_81 : decode prog_4_method_12_code 81 = .ok (.iload 6, 2) := by decide +kernel
theorem d_q_countInSpan_83 : decode prog_4_method_12_code 83 = .ok (.ireturn, 1) := by decide +kernel
theorem d_q_countOf_0 : decode prog_4_method_14_code 0 = .ok (.iconst 0, 1) := by decide +kernel
theorem d_q_countOf_1 : decode prog_4_method_14_code 1 = .ok (.istore_n 2, 1) := by decide +kernel
theorem d_q_countOf_2 : decode prog_4_method_14_code 2 = .ok (.iconst 0, 1) := by decide +kernel
theorem d_q_countOf_3 : decode prog_4_method_14_code 3 = .ok (.istore_n 3, 1) := by decide +kernel
theorem d_q_countOf_4 : decode prog_4_method_14_code 4 = .ok (.iload_n 3, 1) := by decide +kernel
theorem d_q_countOf_5 : decode prog_4_method_14_code 5 = .ok (.aload_n 0, 1) := by decide +kernel
theorem d_q_countOf_6 : decode prog_4_method_14_code 6 = .ok (.getfield 48, 3) := by decide +kernel
theorem d_q_countOf_9 : decode prog_4_method_14_code 9 = .ok (.if_icmp .ge 22, 3) := by decide +kernel
theorem d_q_countOf_12 : decode prog_4_method_14_code 12 = .ok (.aload_n 0, 1) := by decide +kernel
theorem d_q_countOf_13 : decode prog_4_method_14_code 13 = .ok (.getfield 9, 3) := by decide +kernel
theorem d_q_countOf_16 : decode prog_4_method_14_code 16 = .ok (.iload_n 3, 1) := by decide +kernel
theorem d_q_countOf_17 : decode prog_4_method_14_code 17 = .ok (.iaload, 1) := by decide +kernel
theorem d_q_countOf_18 : decode prog_4_method_14_code 18 = .ok (.iload_n 1, 1) := by decide +kernel
theorem d_q_countOf_19 : decode prog_4_method_14_code 19 = .ok (.if_icmp .ne 6, 3) := by decide +kernel
theorem d_q_countOf_22 : decode prog_4_method_14_code 22 = .ok (.iinc 2 1, 3) := by decide +kernel
theorem d_q_countOf_25 : decode prog_4_method_14_code 25 = .ok (.iinc 3 1, 3) := by decide +kernel
theorem d_q_countOf_28 : decode prog_4_method_14_code 28 = .ok (.goto (-24), 3) := by decide +kernel
theorem d_q_countOf_31 : decode prog_4_method_14_code 31 = .ok (.iload_n 2, 1) := by decide +kernel
theorem d_q_countOf_32 : decode prog_4_method_14_code 32 = .ok (.ireturn, 1) := by decide +kernel
theorem d_q_countRefusedOf_0 : decode prog_4_method_15_code 0 = .ok (.iconst 0, 1) := by decide +kernel
theorem d_q_countRefusedOf_1 : decode prog_4_method_15_code 1 = .ok (.istore_n 2, 1) := by decide +kernel
theorem d_q_countRefusedOf_2 : decode prog_4_method_15_code 2 = .ok (.iconst 0, 1) := by decide +kernel
theorem d_q_countRefusedOf_3 : decode prog_4_method_15_code 3 = .ok (.istore_n 3, 1) := by decide +kernel
theorem d_q_countRefusedOf_4 : decode prog_4_method_15_code 4 = .ok (.iload_n 3, 1) := by decide +kernel
theorem d_q_countRefusedOf_5 : decode prog_4_method_15_code 5 = .ok (.aload_n 0, 1) := by decide +kernel
theorem d_q_countRefusedOf_6 : decode prog_4_method_15_code 6 = .ok (.getfield 48, 3) := by decide +kernel
theorem d_q_countRefusedOf_9 : decode prog_4_method_15_code 9 = .ok (.if_icmp .ge 30, 3) := by decide +kernel
theorem d_q_countRefusedOf_12 : decode prog_4_method_15_code 12 = .ok (.aload_n 0, 1) := by decide +kernel
theorem d_q_countRefusedOf_13 : decode prog_4_method_15_code 13 = .ok (.getfield 9, 3) := by decide +kernel
theorem d_q_countRefusedOf_16 : decode prog_4_method_15_code 16 = .ok (.iload_n 3, 1) := by decide +kernel
theorem d_q_countRefusedOf_17 : decode prog_4_method_15_code 17 = .ok (.iaload, 1) := by decide +kernel
theorem d_q_countRefusedOf_18 : decode prog_4_method_15_code 18 = .ok (.iload_n 1, 1) := by decide +kernel
theorem d_q_countRefusedOf_19 : decode prog_4_method_15_code 19 = .ok (.if_icmp .ne 14, 3) := by decide +kernel
theorem d_q_countRefusedOf_22 : decode prog_4_method_15_code 22 = .ok (.aload_n 0, 1) := by decide +kernel
theorem d_q_countRefusedOf_23 : decode prog_4_method_15_code 23 = .ok (.iload_n 3, 1) := by decide +kernel
theorem d_q_countRefusedOf_24 : decode prog_4_method_15_code 24 = .ok (.invokevirtual 53, 3) := by decide +kernel
theorem d_q_countRefusedOf_27 : decode prog_4_method_15_code 27 = .ok (.ifCond .ne 6, 3) := by decide +kernel
theorem d_q_countRefusedOf_30 : decode prog_4_method_15_code 30 = .ok (.iinc 2 1, 3) := by decide +kernel
theorem d_q_countRefusedOf_33 : decode prog_4_method_15_code 33 = .ok (.iinc 3 1, 3) := by decide +kernel
theorem d_q_countRefusedOf_36 : decode prog_4_method_15_code 36 = .ok (.goto (-32), 3) := by decide +kernel
theorem d_q_countRefusedOf_39 : decode prog_4_method_15_code 39 = .ok (.iload_n 2, 1) := by decide +kernel
theorem d_q_countRefusedOf_40 : decode prog_4_method_15_code 40 = .ok (.ireturn, 1) := by decide +kernel
theorem d_q_countsForLimits_0 : decode prog_4_method_11_code 0 = .ok (.aload_n 0, 1) := by decide +kernel
theorem d_q_countsForLimits_1 : decode prog_4_method_11_code 1 = .ok (.getfield 27, 3) := by decide +kernel
theorem d_q_countsForLimits_4 : decode prog_4_method_11_code 4 = .ok (.iload_n 1, 1) := by decide +kernel
theorem d_q_countsForLimits_5 : decode prog_4_method_11_code 5 = .ok (.iaload, 1) := by decide +kernel
theorem d_q_countsForLimits_6 : decode prog_4_method_11_code 6 = .ok (.istore_n 2, 1) := by decide +kernel
theorem d_q_countsForLimits_7 : decode prog_4_method_11_code 7 = .ok (.iload_n 2, 1) := by decide +kernel
theorem d_q_countsForLimits_8 : decode prog_4_method_11_code 8 = .ok (.iconst 3, 1) := by decide +kernel
theorem d_q_countsForLimits_9 : decode prog_4_method_11_code 9 = .ok (.if_icmp .eq 13, 3) := by decide +kernel
theorem d_q_countsForLimits_12 : decode prog_4_method_11_code 12 = .ok (.iload_n 2, 1) := by decide +kernel
theorem d_q_countsForLimits_13 : decode prog_4_method_11_code 13 = .ok (.iconst 4, 1) := by decide +kernel
theorem d_q_countsForLimits_14 : decode prog_4_method_11_code 14 = .ok (.if_icmp .eq 8, 3) := by decide +kernel
theorem d_q_countsForLimits_17 : decode prog_4_method_11_code 17 = .ok (.iload_n 2, 1) := by decide +kernel
theorem d_q_countsForLimits_18 : decode prog_4_method_11_code 18 = .ok (.iconst 5, 1) := by decide +kernel
theorem d_q_countsForLimits_19 : decode prog_4_method_11_code 19 = .ok (.if_icmp .ne 7, 3) := by decide +kernel
theorem d_q_countsForLimits_22 : decode prog_4_method_11_code 22 = .ok (.iconst 1, 1) := by decide +kernel
theorem d_q_countsForLimits_23 : decode prog_4_method_11_code 23 = .ok (.goto 4, 3) := by decide +kernel
theorem d_q_countsForLimits_26 : decode prog_4_method_11_code 26 = .ok (.iconst 0, 1) := by decide +kernel
theorem d_q_countsForLimits_27 : decode prog_4_method_11_code 27 = .ok (.ireturn, 1) := by decide +kernel
theorem d_q_endedAt_0 : decode prog_4_method_13_code 0 = .ok (.iconst 0, 1) := by decide +kernel
theorem d_q_endedAt_1 : decode prog_4_method_13_code 1 = .ok (.istore_n 3, 1) := by decide +kernel
theorem d_q_endedAt_2 : decode prog_4_method_13_code 2 = .ok (.iconst 0, 1) := by decide +kernel
theorem d_q_endedAt_3 : decode prog_4_method_13_code 3 = .ok (.istore 4, 2) := by decide +kernel
theorem d_q_endedAt_5 : decode prog_4_method_13_code 5 = .ok (.iload 4, 2) := by decide +kernel
theorem d_q_endedAt_7 : decode prog_4_method_13_code 7 = .ok (.aload_n 0, 1) := by decide +kernel
theorem d_q_endedAt_8 : decode prog_4_method_13_code 8 = .ok (.getfield 48, 3) := by decide +kernel
theorem d_q_endedAt_11 : decode prog_4_method_13_code 11 = .ok (.if_icmp .ge 39, 3) := by decide +kernel
theorem d_q_endedAt_14 : decode prog_4_method_13_code 14 = .ok (.aload_n 0, 1) := by decide +kernel
theorem d_q_endedAt_15 : decode prog_4_method_13_code 15 = .ok (.iload 4, 2) := by decide +kernel
theorem d_q_endedAt_17 : decode prog_4_method_13_code 17 = .ok (.invokevirtual 57, 3) := by decide +kernel
theorem d_q_endedAt_20 : decode prog_4_method_13_code 20 = .ok (.ifCond .eq 24, 3) := by decide +kernel
theorem d_q_endedAt_23 : decode prog_4_method_13_code 23 = .ok (.aload_n 0, 1) := by decide +kernel
theorem d_q_endedAt_24 : decode prog_4_method_13_code 24 = .ok (.iload 4, 2) := by decide +kernel
theorem d_q_endedAt_26 : decode prog_4_method_13_code 26 = .ok (.iload_n 1, 1) := by decide +kernel
theorem d_q_endedAt_27 : decode prog_4_method_13_code 27 = .ok (.invokevirtual 60, 3) := by decide +kernel
theorem d_q_endedAt_30 : decode prog_4_method_13_code 30 = .ok (.ifCond .eq 14, 3) := by decide +kernel
theorem d_q_endedAt_33 : decode prog_4_method_13_code 33 = .ok (.iload_n 3, 1) := by decide +kernel
theorem d_q_endedAt_34 : decode prog_4_method_13_code 34 = .ok (.iload_n 2, 1) := by decide +kernel
theorem d_q_endedAt_35 : decode prog_4_method_13_code 35 = .ok (.if_icmp .ne 6, 3) := by decide +kernel
theorem d_q_endedAt_38 : decode prog_4_method_13_code 38 = .ok (.iload 4, 2) := by decide +kernel
theorem d_q_endedAt_40 : decode prog_4_method_13_code 40 = .ok (.ireturn, 1) := by decide +kernel
theorem d_q_endedAt_41 : decode prog_4_method_13_code 41 = .ok (.iinc 3 1, 3) := by decide +kernel
theorem d_q_endedAt_44 : decode prog_4_method_13_code 44 = .ok (.iinc 4 1, 3) := by decide +kernel
theorem d_q_endedAt_47 : decode prog_4_method_13_code 47 = .ok (.goto (-42), 3) := by decide +kernel
theorem d_q_endedAt_50 : decode prog_4_method_13_code 50 = .ok (.iconst (-1), 1) := by decide +kernel
theorem d_q_endedAt_51 : decode prog_4_method_13_code 51 = .ok (.ireturn, 1) := by decide +kernel
theorem d_q_has_0 : decode prog_4_method_2_code 0 = .ok (.iload_n 1, 1) := by decide +kernel
theorem d_q_has_1 : decode prog_4_method_2_code 1 = .ok (.ifCond .lt 15, 3) := by decide +kernel
theorem d_q_has_4 : decode prog_4_method_2_code 4 = .ok (.iload_n 1, 1) := by decide +kernel
theorem d_q_has_5 : decode prog_4_method_2_code 5 = .ok (.aload_n 0, 1) := by decide +kernel
theorem d_q_has_6 : decode prog_4_method_2_code 6 = .ok (.getfield 48, 3) := by decide +kernel
theorem d_q_has_9 : decode prog_4_method_2_code 9 = .ok (.if_icmp .ge 7, 3) := by decide +kernel
theorem d_q_has_12 : decode prog_4_method_2_code 12 = .ok (.iconst 1, 1) := by decide +kernel
theorem d_q_has_13 : decode prog_4_method_2_code 13 = .ok (.goto 4, 3) := by decide +kernel
theorem d_q_has_16 : decode prog_4_method_2_code 16 = .ok (.iconst 0, 1) := by decide +kernel
theorem d_q_has_17 : decode prog_4_method_2_code 17 = .ok (.ireturn, 1) := by decide +kernel
theorem d_q_hasEnded_0 : decode prog_4_method_9_code 0 = .ok (.iload_n 2, 1) := by decide +kernel
theorem d_q_hasEnded_1 : decode prog_4_method_9_code 1 = .ok (.aload_n 0, 1) := by decide +kernel
theorem d_q_hasEnded_2 : decode prog_4_method_9_code 2 = .ok (.getfield 39, 3) := by decide +kernel
theorem d_q_hasEnded_5 : decode prog_4_method_9_code 5 = .ok (.iload_n 1, 1) := by decide +kernel
theorem d_q_hasEnded_6 : decode prog_4_method_9_code 6 = .ok (.iaload, 1) := by decide +kernel
theorem d_q_hasEnded_7 : decode prog_4_method_9_code 7 = .ok (.if_icmp .lt 7, 3) := by decide +kernel
theorem d_q_hasEnded_10 : decode prog_4_method_9_code 10 = .ok (.iconst 1, 1) := by decide +kernel
theorem d_q_hasEnded_11 : decode prog_4_method_9_code 11 = .ok (.goto 4, 3) := by decide +kernel
theorem d_q_hasEnded_14 : decode prog_4_method_9_code 14 = .ok (.iconst 0, 1) := by decide +kernel
theorem d_q_hasEnded_15 : decode prog_4_method_9_code 15 = .ok (.ireturn, 1) := by decide +kernel
theorem d_q_isCopy_0 : decode prog_4_method_7_code 0 = .ok (.aload_n 0, 1) := by decide +kernel
theorem d_q_isCopy_1 : decode prog_4_method_7_code 1 = .ok (.getfield 27, 3) := by decide +kernel
theorem d_q_isCopy_4 : decode prog_4_method_7_code 4 = .ok (.iload_n 1, 1) := by decide +kernel
theorem d_q_isCopy_5 : decode prog_4_method_7_code 5 = .ok (.iaload, 1) := by decide +kernel
theorem d_q_isCopy_6 : decode prog_4_method_7_code 6 = .ok (.ifCond .eq 7, 3) := by decide +kernel
theorem d_q_isCopy_9 : decode prog_4_method_7_code 9 = .ok (.iconst 1, 1) := by decide +kernel
theorem d_q_isCopy_10 : decode prog_4_method_7_code 10 = .ok (.goto 4, 3) := by decide +kernel
theorem d_q_isCopy_13 : decode prog_4_method_7_code 13 = .ok (.iconst 0, 1) := by decide +kernel
theorem d_q_isCopy_14 : decode prog_4_method_7_code 14 = .ok (.ireturn, 1) := by decide +kernel
theorem d_q_isKept_0 : decode prog_4_method_8_code 0 = .ok (.aload_n 0, 1) := by decide +kernel
theorem d_q_isKept_1 : decode prog_4_method_8_code 1 = .ok (.iload_n 1, 1) := by decide +kernel
theorem d_q_isKept_2 : decode prog_4_method_8_code 2 = .ok (.invokevirtual 53, 3) := by decide +kernel
theorem d_q_isKept_5 : decode prog_4_method_8_code 5 = .ok (.ifCond .eq 17, 3) := by decide +kernel
theorem d_q_isKept_8 : decode prog_4_method_8_code 8 = .ok (.aload_n 0, 1) := by decide +kernel
theorem d_q_isKept_9 : decode prog_4_method_8_code 9 = .ok (.getfield 45, 3) := by decide +kernel
theorem d_q_isKept_12 : decode prog_4_method_8_code 12 = .ok (.iload_n 1, 1) := by decide +kernel
theorem d_q_isKept_13 : decode prog_4_method_8_code 13 = .ok (.iaload, 1) := by decide +kernel
theorem d_q_isKept_14 : decode prog_4_method_8_code 14 = .ok (.iconst (-1), 1) := by decide +kernel
theorem d_q_isKept_15 : decode prog_4_method_8_code 15 = .ok (.if_icmp .ne 7, 3) := by decide +kernel
theorem d_q_isKept_18 : decode prog_4_method_8_code 18 = .ok (.iconst 1, 1) := by decide +kernel
theorem d_q_isKept_19 : decode prog_4_method_8_code 19 = .ok (.goto 4, 3) := by decide +kernel
theorem d_q_isKept_22 : decode prog_4_method_8_code 22 = .ok (.iconst 0, 1) := by decide +kernel
theorem d_q_isKept_23 : decode prog_4_method_8_code 23 = .ok (.ireturn, 1) := by decide +kernel
theorem d_q_isRenewable_0 : decode prog_4_method_10_code 0 = .ok (.aload_n 0, 1) := by decide +kernel
theorem d_q_isRenewable_1 : decode prog_4_method_10_code 1 = .ok (.iload_n 1, 1) := by decide +kernel
theorem d_q_isRenewable_2 : decode prog_4_method_10_code 2 = .ok (.invokevirtual 57, 3) := by decide +kernel
theorem d_q_isRenewable_5 : decode prog_4_method_10_code 5 = .ok (.ifCond .eq 26, 3) := by decide +kernel
theorem d_q_isRenewable_8 : decode prog_4_method_10_code 8 = .ok (.aload_n 0, 1) := by decide +kernel
theorem d_q_isRenewable_9 : decode prog_4_method_10_code 9 = .ok (.getfield 42, 3) := by decide +kernel
theorem d_q_isRenewable_12 : decode prog_4_method_10_code 12 = .ok (.iload_n 1, 1) := by decide +kernel
theorem d_q_isRenewable_13 : decode prog_4_method_10_code 13 = .ok (.iaload, 1) := by decide +kernel
theorem d_q_isRenewable_14 : decode prog_4_method_10_code 14 = .ok (.iconst 2, 1) := by decide +kernel
theorem d_q_isRenewable_15 : decode prog_4_method_10_code 15 = .ok (.if_icmp .ge 16, 3) := by decide +kernel
theorem d_q_isRenewable_18 : decode prog_4_method_10_code 18 = .ok (.aload_n 0, 1) := by decide +kernel
theorem d_q_isRenewable_19 : decode prog_4_method_10_code 19 = .ok (.iload_n 1, 1) := by decide +kernel
theorem d_q_isRenewable_20 : decode prog_4_method_10_code 20 = .ok (.iload_n 2, 1) := by decide +kernel
theorem d_q_isRenewable_21 : decode prog_4_method_10_code 21 = .ok (.invokevirtual 60, 3) := by decide +kernel
theorem d_q_isRenewable_24 : decode prog_4_method_10_code 24 = .ok (.ifCond .ne 7, 3) := by decide +kernel
theorem d_q_isRenewable_27 : decode prog_4_method_10_code 27 = .ok (.iconst 1, 1) := by decide +kernel
theorem d_q_isRenewable_28 : decode prog_4_method_10_code 28 = .ok (.goto 4, 3) := by decide +kernel
theorem d_q_isRenewable_31 : decode prog_4_method_10_code 31 = .ok (.iconst 0, 1) := by decide +kernel
theorem d_q_isRenewable_32 : decode prog_4_method_10_code 32 = .ok (.ireturn, 1) := by decide +kernel
theorem d_q_pagesAllowedTo_0 : decode prog_4_method_16_code 0 = .ok (.iconst 0, 1) := by decide +kernel
theorem d_q_pagesAllowedTo_1 : decode prog_4_method_16_code 1 = .ok (.istore_n 2, 1) := by decide +kernel
theorem d_q_pagesAllowedTo_2 : decode prog_4_method_16_code 2 = .ok (.iconst 0, 1) := by decide +kernel
theorem d_q_pagesAllowedTo_3 : decode prog_4_method_16_code 3 = .ok (.istore_n 3, 1) := by decide +kernel
theorem d_q_pagesAllowedTo_4 : decode prog_4_method_16_code 4 = .ok (.iload_n 3, 1) := by decide +kernel
theorem d_q_pagesAllowedTo_5 : decode prog_4_method_16_code 5 = .ok (.aload_n 0, 1) := by decide +kernel
theorem d_q_pagesAllowedTo_6 : decode prog_4_method_16_code 6 = .ok (.getfield 48, 3) := by decide +kernel
theorem d_q_pagesAllowedTo_9 : decode prog_4_method_16_code 9 = .ok (.if_icmp .ge 36, 3) := by decide +kernel
theorem d_q_pagesAllowedTo_12 : decode prog_4_method_16_code 12 = .ok (.aload_n 0, 1) := by decide +kernel
theorem d_q_pagesAllowedTo_13 : decode prog_4_method_16_code 13 = .ok (.getfield 9, 3) := by decide +kernel
theorem d_q_pagesAllowedTo_16 : decode prog_4_method_16_code 16 = .ok (.iload_n 3, 1) := by decide +kernel
theorem d_q_pagesAllowedTo_17 : decode prog_4_method_16_code 17 = .ok (.iaload, 1) := by decide +kernel
theorem d_q_pagesAllowedTo_18 : decode prog_4_method_16_code 18 = .ok (.iload_n 1, 1) := by decide +kernel
theorem d_q_pagesAllowedTo_19 : decode prog_4_method_16_code 19 = .ok (.if_icmp .ne 20, 3) := by decide +kernel
theorem d_q_pagesAllowedTo_22 : decode prog_4_method_16_code 22 = .ok (.aload_n 0, 1) := by decide +kernel
theorem d_q_pagesAllowedTo_23 : decode prog_4_method_16_code 23 = .ok (.iload_n 3, 1) := by decide +kernel
theorem d_q_pagesAllowedTo_24 : decode prog_4_method_16_code 24 = .ok (.invokevirtual 53, 3) := by decide +kernel
theorem d_q_pagesAllowedTo_27 : decode prog_4_method_16_code 27 = .ok (.ifCond .eq 12, 3) := by decide +kernel
theorem d_q_pagesAllowedTo_30 : decode prog_4_method_16_code 30 = .ok (.iload_n 2, 1) := by decide +kernel
theorem d_q_pagesAllowedTo_31 : decode prog_4_method_16_code 31 = .ok (.aload_n 0, 1) := by decide +kernel
theorem d_q_pagesAllowedTo_32 : decode prog_4_method_16_code 32 = .ok (.getfield 21, 3) := by decide +kernel
theorem d_q_pagesAllowedTo_35 : decode prog_4_method_16_code 35 = .ok (.iload_n 3, 1) := by decide +kernel
theorem d_q_pagesAllowedTo_36 : decode prog_4_method_16_code 36 = .ok (.iaload, 1) := by decide +kernel
theorem d_q_pagesAllowedTo_37 : decode prog_4_method_16_code 37 = .ok (.iadd, 1) := by decide +kernel
theorem d_q_pagesAllowedTo_38 : decode prog_4_method_16_code 38 = .ok (.istore_n 2, 1) := by decide +kernel
theorem d_q_pagesAllowedTo_39 : decode prog_4_method_16_code 39 = .ok (.iinc 3 1, 3) := by decide +kernel
theorem d_q_pagesAllowedTo_42 : decode prog_4_method_16_code 42 = .ok (.goto (-38), 3) := by decide +kernel
theorem d_q_pagesAllowedTo_45 : decode prog_4_method_16_code 45 = .ok (.iload_n 2, 1) := by decide +kernel
theorem d_q_pagesAllowedTo_46 : decode prog_4_method_16_code 46 = .ok (.ireturn, 1) := by decide +kernel
theorem d_q_prolong_0 : decode prog_4_method_6_code 0 = .ok (.aload_n 0, 1) := by decide +kernel
theorem d_q_prolong_1 : decode prog_4_method_6_code 1 = .ok (.getfield 42, 3) := by decide +kernel
theorem d_q_prolong_4 : decode prog_4_method_6_code 4 = .ok (.iload_n 1, 1) := by decide +kernel
theorem d_q_prolong_5 : decode prog_4_method_6_code 5 = .ok (.dup2, 1) := by decide +kernel
theorem d_q_prolong_6 : decode prog_4_method_6_code 6 = .ok (.iaload, 1) := by decide +kernel
theorem d_q_prolong_7 : decode prog_4_method_6_code 7 = .ok (.iconst 1, 1) := by decide +kernel
theorem d_q_prolong_8 : decode prog_4_method_6_code 8 = .ok (.iadd, 1) := by decide +kernel
theorem d_q_prolong_9 : decode prog_4_method_6_code 9 = .ok (.iastore, 1) := by decide +kernel
theorem d_q_prolong_10 : decode prog_4_method_6_code 10 = .ok (.aload_n 0, 1) := by decide +kernel
theorem d_q_prolong_11 : decode prog_4_method_6_code 11 = .ok (.getfield 36, 3) := by decide +kernel
theorem d_q_prolong_14 : decode prog_4_method_6_code 14 = .ok (.iload_n 1, 1) := by decide +kernel
theorem d_q_prolong_15 : decode prog_4_method_6_code 15 = .ok (.dup2, 1) := by decide +kernel
theorem d_q_prolong_16 : decode prog_4_method_6_code 16 = .ok (.iaload, 1) := by decide +kernel
theorem d_q_prolong_17 : decode prog_4_method_6_code 17 = .ok (.aload_n 0, 1) := by decide +kernel
theorem d_q_prolong_18 : decode prog_4_method_6_code 18 = .ok (.getfield 33, 3) := by decide +kernel
theorem d_q_prolong_21 : decode prog_4_method_6_code 21 = .ok (.iload_n 1, 1) := by decide +kernel
theorem d_q_prolong_22 : decode prog_4_method_6_code 22 = .ok (.iaload, 1) := by decide +kernel
theorem d_q_prolong_23 : decode prog_4_method_6_code 23 = .ok (.iadd, 1) := by decide +kernel
theorem d_q_prolong_24 : decode prog_4_method_6_code 24 = .ok (.iastore, 1) := by decide +kernel
theorem d_q_prolong_25 : decode prog_4_method_6_code 25 = .ok (.aload_n 0, 1) := by decide +kernel
theorem d_q_prolong_26 : decode prog_4_method_6_code 26 = .ok (.getfield 39, 3) := by decide +kernel
theorem d_q_prolong_29 : decode prog_4_method_6_code 29 = .ok (.iload_n 1, 1) := by decide +kernel
theorem d_q_prolong_30 : decode prog_4_method_6_code 30 = .ok (.dup2, 1) := by decide +kernel
theorem d_q_prolong_31 : decode prog_4_method_6_code 31 = .ok (.iaload, 1) := by decide +kernel
theorem d_q_prolong_32 : decode prog_4_method_6_code 32 = .ok (.ldc 52, 2) := by decide +kernel
theorem d_q_prolong_34 : decode prog_4_method_6_code 34 = .ok (.iadd, 1) := by decide +kernel
theorem d_q_prolong_35 : decode prog_4_method_6_code 35 = .ok (.iastore, 1) := by decide +kernel
theorem d_q_prolong_36 : decode prog_4_method_6_code 36 = .ok (.aload_n 0, 1) := by decide +kernel
theorem d_q_prolong_37 : decode prog_4_method_6_code 37 = .ok (.getfield 39, 3) := by decide +kernel
theorem d_q_prolong_40 : decode prog_4_method_6_code 40 = .ok (.iload_n 1, 1) := by decide +kernel
theorem d_q_prolong_41 : decode prog_4_method_6_code 41 = .ok (.iaload, 1) := by decide +kernel
theorem d_q_prolong_42 : decode prog_4_method_6_code 42 = .ok (.ireturn, 1) := by decide +kernel
theorem d_t_init_0 : decode prog_5_method_1_code 0 = .ok (.aload_n 0, 1) := by decide +kernel
theorem d_t_init_1 : decode prog_5_method_1_code 1 = .ok (.invokespecial 3, 3) := by decide +kernel
theorem d_t_init_4 : decode prog_5_method_1_code 4 = .ok (.aload_n 0, 1) := by decide +kernel
theorem d_t_init_5 : decode prog_5_method_1_code 5 = .ok (.bipush 50, 2) := by decide +kernel
theorem d_t_init_7 : decode prog_5_method_1_code 7 = .ok (.newarray .int, 2) := by decide +kernel
theorem d_t_init_9 : decode prog_5_method_1_code 9 = .ok (.putfield 9, 3) := by decide +kernel
theorem d_t_init_12 : decode prog_5_method_1_code 12 = .ok (.aload_n 0, 1) := by decide +kernel
theorem d_t_init_13 : decode prog_5_method_1_code 13 = .ok (.bipush 50, 2) := by decide +kernel
theorem d_t_init_15 : decode prog_5_method_1_code 15 = .ok (.newarray .boolean, 2) := by decide +kernel
theorem d_t_init_17 : decode prog_5_method_1_code 17 = .ok (.putfield 15, 3) := by decide +kernel
theorem d_t_init_20 : decode prog_5_method_1_code 20 = .ok (.aload_n 0, 1) := by decide +kernel
theorem d_t_init_21 : decode prog_5_method_1_code 21 = .ok (.bipush 50, 2) := by decide +kernel
theorem d_t_init_23 : decode prog_5_method_1_code 23 = .ok (.newarray .int, 2) := by decide +kernel
theorem d_t_init_25 : decode prog_5_method_1_code 25 = .ok (.putfield 19, 3) := by decide +kernel
theorem d_t_init_28 : decode prog_5_method_1_code 28 = .ok (.aload_n 0, 1) := by decide +kernel
theorem d_t_init_29 : decode prog_5_method_1_code 29 = .ok (.bipush 50, 2) := by decide +kernel
theorem d_t_init_31 : decode prog_5_method_1_code 31 = .ok (.newarray .int, 2) := by decide +kernel
theorem d_t_init_33 : decode prog_5_method_1_code 33 = .ok (.putfield 22, 3) := by decide +kernel
theorem d_t_init_36 : decode prog_5_method_1_code 36 = .ok (.aload_n 0, 1) := by decide +kernel
theorem d_t_init_37 : decode prog_5_method_1_code 37 = .ok (.iconst 0, 1) := by decide +kernel
theorem d_t_init_38 : decode prog_5_method_1_code 38 = .ok (.putfield 25, 3) := by decide +kernel
theorem d_t_init_41 : decode prog_5_method_1_code 41 = .ok (.return_, 1) := by decide +kernel
theorem d_t_add_0 : decode prog_5_method_3_code 0 = .ok (.aload_n 0, 1) := by decide +kernel
theorem d_t_add_1 : decode prog_5_method_3_code 1 = .ok (.getfield 25, 3) := by decide +kernel
theorem d_t_add_4 : decode prog_5_method_3_code 4 = .ok (.bipush 50, 2) := by decide +kernel
theorem d_t_add_6 : decode prog_5_method_3_code 6 = .ok (.if_icmp .lt 6, 3) := by decide +kernel
theorem d_t_add_9 : decode prog_5_method_3_code 9 = .ok (.bipush (-4), 2) := by decide +kernel
theorem d_t_add_11 : decode prog_5_method_3_code 11 = .ok (.ireturn, 1) := by decide +kernel
theorem d_t_add_12 : decode prog_5_method_3_code 12 = .ok (.aload_n 0, 1) := by decide +kernel
theorem d_t_add_13 : decode prog_5_method_3_code 13 = .ok (.getfield 9, 3) := by decide +kernel
theorem d_t_add_16 : decode prog_5_method_3_code 16 = .ok (.aload_n 0, 1) := by decide +kernel
theorem d_t_add_17 : decode prog_5_method_3_code 17 = .ok (.getfield 25, 3) := by decide +kernel
theorem d_t_add_20 : decode prog_5_method_3_code 20 = .ok (.iload_n 1, 1) := by decide +kernel
theorem d_t_add_21 : decode prog_5_method_3_code 21 = .ok (.iastore, 1) := by decide +kernel
theorem d_t_add_22 : decode prog_5_method_3_code 22 = .ok (.aload_n 0, 1) := by decide +kernel
theorem d_t_add_23 : decode prog_5_method_3_code 23 = .ok (.dup, 1) := by decide +kernel
theorem d_t_add_24 : decode prog_5_method_3_code 24 = .ok (.getfield 25, 3) := by decide +kernel
theorem d_t_add_27 : decode prog_5_method_3_code 27 = .ok (.iconst 1, 1) := by decide +kernel
theorem d_t_add_28 : decode prog_5_method_3_code 28 = .ok (.iadd, 1) := by decide +kernel
theorem d_t_add_29 : decode prog_5_method_3_code 29 = .ok (.putfield 25, 3) := by decide +kernel
theorem d_t_add_32 : decode prog_5_method_3_code 32 = .ok (.aload_n 0, 1) := by decide +kernel
theorem d_t_add_33 : decode prog_5_method_3_code 33 = .ok (.getfield 25, 3) := by decide +kernel
theorem d_t_add_36 : decode prog_5_method_3_code 36 = .ok (.iconst 1, 1) := by decide +kernel
theorem d_t_add_37 : decode prog_5_method_3_code 37 = .ok (.isub, 1) := by decide +kernel
theorem d_t_add_38 : decode prog_5_method_3_code 38 = .ok (.ireturn, 1) := by decide +kernel
theorem d_t_has_0 : decode prog_5_method_2_code 0 = .ok (.iload_n 1, 1) := by decide +kernel
theorem d_t_has_1 : decode prog_5_method_2_code 1 = .ok (.ifCond .lt 15, 3) := by decide +kernel
theorem d_t_has_4 : decode prog_5_method_2_code 4 = .ok (.iload_n 1, 1) := by decide +kernel
theorem d_t_has_5 : decode prog_5_method_2_code 5 = .ok (.aload_n 0, 1) := by decide +kernel
theorem d_t_has_6 : decode prog_5_method_2_code 6 = .ok (.getfield 25, 3) := by decide +kernel
theorem d_t_has_9 : decode prog_5_method_2_code 9 = .ok (.if_icmp .ge 7, 3) := by decide +kernel
theorem d_t_has_12 : decode prog_5_method_2_code 12 = .ok (.iconst 1, 1) := by decide +kernel
theorem d_t_has_13 : decode prog_5_method_2_code 13 = .ok (.goto 4, 3) := by decide +kernel
theorem d_t_has_16 : decode prog_5_method_2_code 16 = .ok (.iconst 0, 1) := by decide +kernel
theorem d_t_has_17 : decode prog_5_method_2_code 17 = .ok (.ireturn, 1) := by decide +kernel
end
section
theorem d_m_init_0 : decode prog_7_method_1_code 0 = .ok (.aload_n 0, 1) := by decide +kernel
theorem d_m_init_1 : decode prog_7_method_1_code 1 = .ok (.invokespecial 1, 3) := by decide +kernel
theorem d_m_init_4 : decode prog_7_method_1_code 4 = .ok (.aload_n 0, 1) := by decide +kernel
theorem d_m_init_5 : decode prog_7_method_1_code 5 = .ok (.bipush 50, 2) := by decide +kernel
theorem d_m_init_7 : decode prog_7_method_1_code 7 = .ok (.newarray .int, 2) := by decide +kernel
theorem d_m_init_9 : decode prog_7_method_1_code 9 = .ok (.putfield 7, 3) := by decide +kernel
theorem d_m_init_12 : decode prog_7_method_1_code 12 = .ok (.aload_n 0, 1) := by decide +kernel
theorem d_m_init_13 : decode prog_7_method_1_code 13 = .ok (.bipush 50, 2) := by decide +kernel
theorem d_m_init_15 : decode prog_7_method_1_code 15 = .ok (.newarray .boolean, 2) := by decide +kernel
theorem d_m_init_17 : decode prog_7_method_1_code 17 = .ok (.putfield 13, 3) := by decide +kernel
theorem d_m_init_20 : decode prog_7_method_1_code 20 = .ok (.aload_n 0, 1) := by decide +kernel
theorem d_m_init_21 : decode prog_7_method_1_code 21 = .ok (.bipush 50, 2) := by decide +kernel
theorem d_m_init_23 : decode prog_7_method_1_code 23 = .ok (.newarray .int, 2) := by decide +kernel
theorem d_m_init_25 : decode prog_7_method_1_code 25 = .ok (.putfield 17, 3) := by decide +kernel
theorem d_m_init_28 : decode prog_7_method_1_code 28 = .ok (.aload_n 0, 1) := by decide +kernel
theorem d_m_init_29 : decode prog_7_method_1_code 29 = .ok (.bipush 50, 2) := by decide +kernel
theorem d_m_init_31 : decode prog_7_method_1_code 31 = .ok (.newarray .int, 2) := by decide +kernel
theorem d_m_init_33 : decode prog_7_method_1_code 33 = .ok (.putfield 20, 3) := by decide +kernel
theorem d_m_init_36 : decode prog_7_method_1_code 36 = .ok (.aload_n 0, 1) := by decide +kernel
theorem d_m_init_37 : decode prog_7_method_1_code 37 = .ok (.bipush 100, 2) := by decide +kernel
theorem d_m_init_39 : decode prog_7_method_1_code 39 = .ok (.newarray .int, 2) := by decide +kernel
theorem d_m_init_41 : decode prog_7_method_1_code 41 = .ok (.putfield 23, 3) := by decide +kernel
theorem d_m_init_44 : decode prog_7_method_1_code 44 = .ok (.aload_n 0, 1) := by decide +kernel
theorem d_m_init_45 : decode prog_7_method_1_code 45 = .ok (.sipush 1000, 3) := by decide +kernel
theorem d_m_init_48 : decode prog_7_method_1_code 48 = .ok (.newarray .boolean, 2) := by decide +kernel
theorem d_m_init_50 : decode prog_7_method_1_code 50 = .ok (.putfield 26, 3) := by decide +kernel
theorem d_m_init_53 : decode prog_7_method_1_code 53 = .ok (.aload_n 0, 1) := by decide +kernel
theorem d_m_init_54 : decode prog_7_method_1_code 54 = .ok (.bipush 100, 2) := by decide +kernel
theorem d_m_init_56 : decode prog_7_method_1_code 56 = .ok (.newarray .int, 2) := by decide +kernel
theorem d_m_init_58 : decode prog_7_method_1_code 58 = .ok (.putfield 29, 3) := by decide +kernel
theorem d_m_init_61 : decode prog_7_method_1_code 61 = .ok (.aload_n 0, 1) := by decide +kernel
theorem d_m_init_62 : decode prog_7_method_1_code 62 = .ok (.bipush 100, 2) := by decide +kernel
theorem d_m_init_64 : decode prog_7_method_1_code 64 = .ok (.newarray .int, 2) := by decide +kernel
theorem d_m_init_66 : decode prog_7_method_1_code 66 = .ok (.putfield 32, 3) := by decide +kernel
theorem d_m_init_69 : decode prog_7_method_1_code 69 = .ok (.aload_n 0, 1) := by decide +kernel
theorem d_m_init_70 : decode prog_7_method_1_code 70 = .ok (.bipush 100, 2) := by decide +kernel
theorem d_m_init_72 : decode prog_7_method_1_code 72 = .ok (.newarray .int, 2) := by decide +kernel
theorem d_m_init_74 : decode prog_7_method_1_code 74 = .ok (.putfield 35, 3) := by decide +kernel
theorem d_m_init_77 : decode prog_7_method_1_code 77 = .ok (.aload_n 0, 1) := by decide +kernel
theorem d_m_init_78 : decode prog_7_method_1_code 78 = .ok (.bipush 100, 2) := by decide +kernel
theorem d_m_init_80 : decode prog_7_method_1_code 80 = .ok (.newarray .int, 2) := by decide +kernel
theorem d_m_init_82 : decode prog_7_method_1_code 82 = .ok (.putfield 38, 3) := by decide +kernel
theorem d_m_init_85 : decode prog_7_method_1_code 85 = .ok (.aload_n 0, 1) := by decide +kernel
theorem d_m_init_86 : decode prog_7_method_1_code 86 = .ok (.bipush 50, 2) := by decide +kernel
theorem d_m_init_88 : decode prog_7_method_1_code 88 = .ok (.newarray .int, 2) := by decide +kernel
theorem d_m_init_90 : decode prog_7_method_1_code 90 = .ok (.putfield 41, 3) := by decide +kernel
theorem d_m_init_93 : decode prog_7_method_1_code 93 = .ok (.aload_n 0, 1) := by decide +kernel
theorem d_m_init_94 : decode prog_7_method_1_code 94 = .ok (.bipush 50, 2) := by decide +kernel
theorem d_m_init_96 : decode prog_7_method_1_code 96 = .ok (.newarray .int, 2) := by decide +kernel
theorem d_m_init_98 : decode prog_7_method_1_code 98 = .ok (.putfield 44, 3) := by decide +kernel
theorem d_m_init_101 : decode prog_7_method_1_code 101 = .ok (.aload_n 0, 1) := by decide +kernel
theorem d_m_init_102 : decode prog_7_method_1_code 102 = .ok (.bipush 50, 2) := by decide +kernel
theorem d_m_init_104 : decode prog_7_method_1_code 104 = .ok (.newarray .int, 2) := by decide +kernel
theorem d_m_init_106 : decode prog_7_method_1_code 106 = .ok (.putfield 47, 3) := by decide +kernel
theorem d_m_init_109 : decode prog_7_method_1_code 109 = .ok (.aload_n 0, 1) := by decide +kernel
theorem d_m_init_110 : decode prog_7_method_1_code 110 = .ok (.bipush 50, 2) := by decide +kernel
theorem d_m_init_112 : decode prog_7_method_1_code 112 = .ok (.newarray .int, 2) := by decide +kernel
theorem d_m_init_114 : decode prog_7_method_1_code 114 = .ok (.putfield 50, 3) := by decide +kernel
theorem d_m_init_117 : decode prog_7_method_1_code 117 = .ok (.aload_n 0, 1) := by decide +kernel
theorem d_m_init_118 : decode prog_7_method_1_code 118 = .ok (.bipush 50, 2) := by decide +kernel
theorem d_m_init_120 : decode prog_7_method_1_code 120 = .ok (.newarray .int, 2) := by decide +kernel
theorem d_m_init_122 : decode prog_7_method_1_code 122 = .ok (.putfield 53, 3) := by decide +kernel
theorem d_m_init_125 : decode prog_7_method_1_code 125 = .ok (.aload_n 0, 1) := by decide +kernel
theorem d_m_init_126 : decode prog_7_method_1_code 126 = .ok (.sipush 300, 3) := by decide +kernel
theorem d_m_init_129 : decode prog_7_method_1_code 129 = .ok (.newarray .int, 2) := by decide +kernel
theorem d_m_init_131 : decode prog_7_method_1_code 131 = .ok (.putfield 56, 3) := by decide +kernel
theorem d_m_init_134 : decode prog_7_method_1_code 134 = .ok (.aload_n 0, 1) := by decide +kernel
theorem d_m_init_135 : decode prog_7_method_1_code 135 = .ok (.sipush 300, 3) := by decide +kernel
theorem d_m_init_138 : decode prog_7_method_1_code 138 = .ok (.newarray .int, 2) := by decide +kernel
theorem d_m_init_140 : decode prog_7_method_1_code 140 = .ok (.putfield 59, 3) := by decide +kernel
theorem d_m_init_143 : decode prog_7_method_1_code 143 = .ok (.aload_n 0, 1) := by decide +kernel
theorem d_m_init_144 : decode prog_7_method_1_code 144 = .ok (.sipush 300, 3) := by decide +kernel
theorem d_m_init_147 : decode prog_7_method_1_code 147 = .ok (.newarray .int, 2) := by decide +kernel
theorem d_m_init_149 : decode prog_7_method_1_code 149 = .ok (.putfield 62, 3) := by decide +kernel
theorem d_m_init_152 : decode prog_7_method_1_code 152 = .ok (.aload_n 0, 1) := by decide +kernel
theorem d_m_init_153 : decode prog_7_method_1_code 153 = .ok (.sipush 300, 3) := by decide +kernel
theorem d_m_init_156 : decode prog_7_method_1_code 156 = .ok (.newarray .int, 2) := by decide +kernel
theorem d_m_init_158 : decode prog_7_method_1_code 158 = .ok (.putfield 65, 3) := by decide +kernel
theorem d_m_init_161 : decode prog_7_method_1_code 161 = .ok (.aload_n 0, 1) := by decide +kernel
theorem d_m_init_162 : decode prog_7_method_1_code 162 = .ok (.sipush 300, 3) := by decide +kernel
theorem d_m_init_165 : decode prog_7_method_1_code 165 = .ok (.newarray .int, 2) := by decide +kernel
theorem d_m_init_167 : decode prog_7_method_1_code 167 = .ok (.putfield 68, 3) := by decide +kernel
theorem d_m_init_170 : decode prog_7_method_1_code 170 = .ok (.aload_n 0, 1) := by decide +kernel
theorem d_m_init_171 : decode prog_7_method_1_code 171 = .ok (.sipush 300, 3) := by decide +kernel
theorem d_m_init_174 : decode prog_7_method_1_code 174 = .ok (.newarray .int, 2) := by decide +kernel
theorem d_m_init_176 : decode prog_7_method_1_code 176 = .ok (.putfield 71, 3) := by decide +kernel
theorem d_m_init_179 : decode prog_7_method_1_code 179 = .ok (.aload_n 0, 1) := by decide +kernel
theorem d_m_init_180 : decode prog_7_method_1_code 180 = .ok (.sipush 300, 3) := by decide +kernel
theorem d_m_init_183 : decode prog_7_method_1_code 183 = .ok (.newarray .int, 2) := by decide +kernel
theorem d_m_init_185 : decode prog_7_method_1_code 185 = .ok (.putfield 74, 3) := by decide +kernel
theorem d_m_init_188 : decode prog_7_method_1_code 188 = .ok (.aload_n 0, 1) := by decide +kernel
theorem d_m_init_189 : decode prog_7_method_1_code 189 = .ok (.sipush 300, 3) := by decide +kernel
theorem d_m_init_192 : decode prog_7_method_1_code 192 = .ok (.newarray .int, 2) := by decide +kernel
theorem d_m_init_194 : decode prog_7_method_1_code 194 = .ok (.putfield 77, 3) := by decide +kernel
theorem d_m_init_197 : decode prog_7_method_1_code 197 = .ok (.aload_n 0, 1) := by decide +kernel
theorem d_m_init_198 : decode prog_7_method_1_code 198 = .ok (.sipush 300, 3) := by decide +kernel
theorem d_m_init_201 : decode prog_7_method_1_code 201 = .ok (.newarray .int, 2) := by decide +kernel
theorem d_m_init_203 : decode prog_7_method_1_code 203 = .ok (.putfield 80, 3) := by decide +kernel
theorem d_m_init_206 : decode prog_7_method_1_code 206 = .ok (.aload_n 0, 1) := by decide +kernel
theorem d_m_init_207 : decode prog_7_method_1_code 207 = .ok (.sipush 300, 3) := by decide +kernel
theorem d_m_init_210 : decode prog_7_method_1_code 210 = .ok (.newarray .int, 2) := by decide +kernel
theorem d_m_init_212 : decode prog_7_method_1_code 212 = .ok (.putfield 83, 3) := by decide +kernel
theorem d_m_init_215 : decode prog_7_method_1_code 215 = .ok (.aload_n 0, 1) := by decide +kernel
theorem d_m_init_216 : decode prog_7_method_1_code 216 = .ok (.sipush 300, 3) := by decide +kernel
theorem d_m_init_219 : decode prog_7_method_1_code 219 = .ok (.newarray .int, 2) := by decide +kernel
theorem d_m_init_221 : decode prog_7_method_1_code 221 = .ok (.putfield 86, 3) := by decide +kernel
theorem d_m_init_224 : decode prog_7_method_1_code 224 = .ok (.aload_n 0, 1) := by decide +kernel
theorem d_m_init_225 : decode prog_7_method_1_code 225 = .ok (.iconst (-1), 1) := by decide +kernel
theorem d_m_init_226 : decode prog_7_method_1_code 226 = .ok (.putfield 89, 3) := by decide +kernel
theorem d_m_init_229 : decode prog_7_method_1_code 229 = .ok (.return_, 1) := by decide +kernel
theorem d_m_ask_0 : decode prog_7_method_15_code 0 = .ok (.aload_n 0, 1) := by decide +kernel
theorem d_m_ask_1 : decode prog_7_method_15_code 1 = .ok (.iconst 0, 1) := by decide +kernel
theorem d_m_ask_2 : decode prog_7_method_15_code 2 = .ok (.putfield 93, 3) := by decide +kernel
theorem d_m_ask_5 : decode prog_7_method_15_code 5 = .ok (.aload_n 0, 1) := by decide +kernel
theorem d_m_ask_6 : decode prog_7_method_15_code 6 = .ok (.iload_n 2, 1) := by decide +kernel
theorem d_m_ask_7 : decode prog_7_method_15_code 7 = .ok (.invokevirtual 107, 3) := by decide +kernel
theorem d_m_ask_10 : decode prog_7_method_15_code 10 = .ok (.ifCond .ne 5, 3) := by decide +kernel
theorem d_m_ask_13 : decode prog_7_method_15_code 13 = .ok (.iconst (-1), 1) := by decide +kernel
theorem d_m_ask_14 : decode prog_7_method_15_code 14 = .ok (.ireturn, 1) := by decide +kernel
theorem d_m_ask_15 : decode prog_7_method_15_code 15 = .ok (.iload_n 1, 1) := by decide +kernel
theorem d_m_ask_16 : decode prog_7_method_15_code 16 = .ok (.iconst 0, 1) := by decide +kernel
theorem d_m_ask_17 : decode prog_7_method_15_code 17 = .ok (.bipush 99, 2) := by decide +kernel
theorem d_m_ask_19 : decode prog_7_method_15_code 19 = .ok (.invokestatic 99, 3) := by decide +kernel
theorem d_m_ask_22 : decode prog_7_method_15_code 22 = .ok (.ifCond .eq 33, 3) := by decide +kernel
theorem d_m_ask_25 : decode prog_7_method_15_code 25 = .ok (.iload_n 3, 1) := by decide +kernel
theorem d_m_ask_26 : decode prog_7_method_15_code 26 = .ok (.iconst 0, 1) := by decide +kernel
theorem d_m_ask_27 : decode prog_7_method_15_code 27 = .ok (.iconst 1, 1) := by decide +kernel
theorem d_m_ask_28 : decode prog_7_method_15_code 28 = .ok (.invokestatic 99, 3) := by decide +kernel
theorem d_m_ask_31 : decode prog_7_method_15_code 31 = .ok (.ifCond .eq 24, 3) := by decide +kernel
theorem d_m_ask_34 : decode prog_7_method_15_code 34 = .ok (.iload 4, 2) := by decide +kernel
theorem d_m_ask_36 : decode prog_7_method_15_code 36 = .ok (.iconst 1, 1) := by decide +kernel
theorem d_m_ask_37 : decode prog_7_method_15_code 37 = .ok (.sipush 1000, 3) := by decide +kernel
theorem d_m_ask_40 : decode prog_7_method_15_code 40 = .ok (.invokestatic 99, 3) := by decide +kernel
theorem d_m_ask_43 : decode prog_7_method_15_code 43 = .ok (.ifCond .eq 12, 3) := by decide +kernel
theorem d_m_ask_46 : decode prog_7_method_15_code 46 = .ok (.aload_n 0, 1) := by decide +kernel
theorem d_m_ask_47 : decode prog_7_method_15_code 47 = .ok (.iload 5, 2) := by decide +kernel
theorem d_m_ask_49 : decode prog_7_method_15_code 49 = .ok (.invokevirtual 133, 3) := by decide +kernel
theorem d_m_ask_52 : decode prog_7_method_15_code 52 = .ok (.ifCond .ne 6, 3) := by decide +kernel
theorem d_m_ask_55 : decode prog_7_method_15_code 55 = .ok (.bipush (-2), 2) := by decide +kernel
theorem d_m_ask_57 : decode prog_7_method_15_code 57 = .ok (.ireturn, 1) := by decide +kernel
theorem d_m_ask_58 : decode prog_7_method_15_code 58 = .ok (.aload_n 0, 1) := by decide +kernel
theorem d_m_ask_59 : decode prog_7_method_15_code 59 = .ok (.getfield 117, 3) := by decide +kernel
theorem d_m_ask_62 : decode prog_7_method_15_code 62 = .ok (.sipush 300, 3) := by decide +kernel
theorem d_m_ask_65 : decode prog_7_method_15_code 65 = .ok (.if_icmp .ne 6, 3) := by decide +kernel
theorem d_m_ask_68 : decode prog_7_method_15_code 68 = .ok (.bipush (-4), 2) := by decide +kernel
theorem d_m_ask_70 : decode prog_7_method_15_code 70 = .ok (.ireturn, 1) := by decide +kernel
theorem d_m_ask_71 : decode prog_7_method_15_code 71 = .ok (.aload_n 0, 1) := by decide +kernel
theorem d_m_ask_72 : decode prog_7_method_15_code 72 = .ok (.iload 5, 2) := by decide +kernel
theorem d_m_ask_74 : decode prog_7_method_15_code 74 = .ok (.putfield 103, 3) := by decide +kernel
theorem d_m_ask_77 : decode prog_7_method_15_code 77 = .ok (.aload_n 0, 1) := by decide +kernel
theorem d_m_ask_78 : decode prog_7_method_15_code 78 = .ok (.getfield 117, 3) := by decide +kernel
theorem d_m_ask_81 : decode prog_7_method_15_code 81 = .ok (.istore 6, 2) := by decide +kernel
theorem d_m_ask_83 : decode prog_7_method_15_code 83 = .ok (.aload_n 0, 1) := by decide +kernel
theorem d_m_ask_84 : decode prog_7_method_15_code 84 = .ok (.iload_n 2, 1) := by decide +kernel
theorem d_m_ask_85 : decode prog_7_method_15_code 85 = .ok (.iload_n 3, 1) := by decide +kernel
theorem d_m_ask_86 : decode prog_7_method_15_code 86 = .ok (.iload 5, 2) := by decide +kernel
theorem d_m_ask_88 : decode prog_7_method_15_code 88 = .ok (.invokevirtual 136, 3) := by decide +kernel
theorem d_m_ask_91 : decode prog_7_method_15_code 91 = .ok (.istore 7, 2) := by decide +kernel
theorem d_m_ask_93 : decode prog_7_method_15_code 93 = .ok (.aload_n 0, 1) := by decide +kernel
theorem d_m_ask_94 : decode prog_7_method_15_code 94 = .ok (.getfield 56, 3) := by decide +kernel
theorem d_m_ask_97 : decode prog_7_method_15_code 97 = .ok (.iload 6, 2) := by decide +kernel
theorem d_m_ask_99 : decode prog_7_method_15_code 99 = .ok (.iload_n 1, 1) := by decide +kernel
theorem d_m_ask_100 : decode prog_7_method_15_code 100 = .ok (.iastore, 1) := by decide +kernel
theorem d_m_ask_101 : decode prog_7_method_15_code 101 = .ok (.aload_n 0, 1) := by decide +kernel
theorem d_m_ask_102 : decode prog_7_method_15_code 102 = .ok (.getfield 59, 3) := by decide +kernel
theorem d_m_ask_105 : decode prog_7_method_15_code 105 = .ok (.iload 6, 2) := by decide +kernel
theorem d_m_ask_107 : decode prog_7_method_15_code 107 = .ok (.iload_n 2, 1) := by decide +kernel
theorem d_m_ask_108 : decode prog_7_method_15_code 108 = .ok (.iastore, 1) := by decide +kernel
theorem d_m_ask_109 : decode prog_7_method_15_code 109 = .ok (.aload_n 0, 1) := by decide +kernel
theorem d_m_ask_110 : decode prog_7_method_15_code 110 = .ok (.getfield 62, 3) := by decide +kernel
theorem d_m_ask_113 : decode prog_7_method_15_code 113 = .ok (.iload 6, 2) := by decide +kernel
theorem d_m_ask_115 : decode prog_7_method_15_code 115 = .ok (.iload_n 3, 1) := by decide +kernel
theorem d_m_ask_116 : decode prog_7_method_15_code 116 = .ok (.iastore, 1) := by decide +kernel
theorem d_m_ask_117 : decode prog_7_method_15_code 117 = .ok (.aload_n 0, 1) := by decide +kernel
theorem d_m_ask_118 : decode prog_7_method_15_code 118 = .ok (.getfield 65, 3) := by decide +kernel
theorem d_m_ask_121 : decode prog_7_method_15_code 121 = .ok (.iload 6, 2) := by decide +kernel
theorem d_m_ask_123 : decode prog_7_method_15_code 123 = .ok (.iload 4, 2) := by decide +kernel
theorem d_m_ask_125 : decode prog_7_method_15_code 125 = .ok (.iastore, 1) := by decide +kernel
theorem d_m_ask_126 : decode prog_7_method_15_code 126 = .ok (.aload_n 0, 1) := by decide +kernel
theorem d_m_ask_127 : decode prog_7_method_15_code 127 = .ok (.getfield 68, 3) := by decide +kernel
theorem d_m_ask_130 : decode prog_7_method_15_code 130 = .ok (.iload 6, 2) := by decide +kernel
theorem d_m_ask_132 : decode prog_7_method_15_code 132 = .ok (.iload 5, 2) := by decide +kernel
theorem d_m_ask_134 : decode prog_7_method_15_code 134 = .ok (.iastore, 1) := by decide +kernel
theorem d_m_ask_135 : decode prog_7_method_15_code 135 = .ok (.aload_n 0, 1) := by decide +kernel
theorem d_m_ask_136 : decode prog_7_method_15_code 136 = .ok (.getfield 71, 3) := by decide +kernel
theorem d_m_ask_139 : decode prog_7_method_15_code 139 = .ok (.iload 6, 2) := by decide +kernel
theorem d_m_ask_141 : decode prog_7_method_15_code 141 = .ok (.iload 7, 2) := by decide +kernel
theorem d_m_ask_143 : decode prog_7_method_15_code 143 = .ok (.iastore, 1) := by decide +kernel
theorem d_m_ask_144 : decode prog_7_method_15_code 144 = .ok (.aload_n 0, 1) := by decide +kernel
theorem d_m_ask_145 : decode prog_7_method_15_code 145 = .ok (.getfield 74, 3) := by decide +kernel
theorem d_m_ask_148 : decode prog_7_method_15_code 148 = .ok (.iload 6, 2) := by decide +kernel
theorem d_m_ask_150 : decode prog_7_method_15_code 150 = .ok (.iload 7, 2) := by decide +kernel
theorem d_m_ask_152 : decode prog_7_method_15_code 152 = .ok (.iconst 2, 1) := by decide +kernel
theorem d_m_ask_153 : decode prog_7_method_15_code 153 = .ok (.if_icmp .ne 14, 3) := by decide +kernel
theorem d_m_ask_156 : decode prog_7_method_15_code 156 = .ok (.aload_n 0, 1) := by decide +kernel
theorem d_m_ask_157 : decode prog_7_method_15_code 157 = .ok (.iload_n 2, 1) := by decide +kernel
theorem d_m_ask_158 : decode prog_7_method_15_code 158 = .ok (.iload_n 3, 1) := by decide +kernel
theorem d_m_ask_159 : decode prog_7_method_15_code 159 = .ok (.iload 5, 2) := by decide +kernel
theorem d_m_ask_161 : decode prog_7_method_15_code 161 = .ok (.invokevirtual 126, 3) := by decide +kernel
theorem d_m_ask_164 : decode prog_7_method_15_code 164 = .ok (.goto 4, 3) := by decide +kernel
theorem d_m_ask_167 : decode prog_7_method_15_code 167 = .ok (.iconst (-1), 1) := by decide +kernel
theorem d_m_ask_168 : decode prog_7_method_15_code 168 = .ok (.iastore, 1) := by decide +kernel
theorem d_m_ask_169 : decode prog_7_method_15_code 169 = .ok (.aload_n 0, 1) := by decide +kernel
theorem d_m_ask_170 : decode prog_7_method_15_code 170 = .ok (.getfield 77, 3) := by decide +kernel
theorem d_m_ask_173 : decode prog_7_method_15_code 173 = .ok (.iload 6, 2) := by decide +kernel
theorem d_m_ask_175 : decode prog_7_method_15_code 175 = .ok (.iload 7, 2) := by decide +kernel
theorem d_m_ask_177 : decode prog_7_method_15_code 177 = .ok (.iconst 5, 1) := by decide +kernel
theorem d_m_ask_178 : decode prog_7_method_15_code 178 = .ok (.if_icmp .ne 20, 3) := by decide +kernel
theorem d_m_ask_181 : decode prog_7_method_15_code 181 = .ok (.iload 4, 2) := by decide +kernel
theorem d_m_ask_183 : decode prog_7_method_15_code 183 = .ok (.aload_n 0, 1) := by decide +kernel
theorem d_m_ask_184 : decode prog_7_method_15_code 184 = .ok (.getfield 23, 3) := by decide +kernel
theorem d_m_ask_187 : decode prog_7_method_15_code 187 = .ok (.aload_n 0, 1) := by decide +kernel
theorem d_m_ask_188 : decode prog_7_method_15_code 188 = .ok (.getfield 7, 3) := by decide +kernel
theorem d_m_ask_191 : decode prog_7_method_15_code 191 = .ok (.iload_n 2, 1) := by decide +kernel
theorem d_m_ask_192 : decode prog_7_method_15_code 192 = .ok (.iaload, 1) := by decide +kernel
theorem d_m_ask_193 : decode prog_7_method_15_code 193 = .ok (.iaload, 1) := by decide +kernel
theorem d_m_ask_194 : decode prog_7_method_15_code 194 = .ok (.imul, 1) := by decide +kernel
theorem d_m_ask_195 : decode prog_7_method_15_code 195 = .ok (.goto 4, 3) := by decide +kernel
theorem d_m_ask_198 : decode prog_7_method_15_code 198 = .ok (.iconst 0, 1) := by decide +kernel
theorem d_m_ask_199 : decode prog_7_method_15_code 199 = .ok (.iastore, 1) := by decide +kernel
theorem d_m_ask_200 : decode prog_7_method_15_code 200 = .ok (.aload_n 0, 1) := by decide +kernel
theorem d_m_ask_201 : decode prog_7_method_15_code 201 = .ok (.getfield 80, 3) := by decide +kernel
theorem d_m_ask_204 : decode prog_7_method_15_code 204 = .ok (.iload 6, 2) := by decide +kernel
theorem d_m_ask_206 : decode prog_7_method_15_code 206 = .ok (.iload 7, 2) := by decide +kernel
theorem d_m_ask_208 : decode prog_7_method_15_code 208 = .ok (.ifCond .ne 7, 3) := by decide +kernel
theorem d_m_ask_211 : decode prog_7_method_15_code 211 = .ok (.iconst (-1), 1) := by decide +kernel
theorem d_m_ask_212 : decode prog_7_method_15_code 212 = .ok (.goto 8, 3) := by decide +kernel
theorem d_m_ask_215 : decode prog_7_method_15_code 215 = .ok (.iload 5, 2) := by decide +kernel
theorem d_m_ask_217 : decode prog_7_method_15_code 217 = .ok (.ldc 139, 2) := by decide +kernel
theorem d_m_ask_219 : decode prog_7_method_15_code 219 = .ok (.iadd, 1) := by decide +kernel
theorem d_m_ask_220 : decode prog_7_method_15_code 220 = .ok (.iastore, 1) := by decide +kernel
theorem d_m_ask_221 : decode prog_7_method_15_code 221 = .ok (.aload_n 0, 1) := by decide +kernel
theorem d_m_ask_222 : decode prog_7_method_15_code 222 = .ok (.getfield 83, 3) := by decide +kernel
theorem d_m_ask_225 : decode prog_7_method_15_code 225 = .ok (.iload 6, 2) := by decide +kernel
theorem d_m_ask_227 : decode prog_7_method_15_code 227 = .ok (.iconst 0, 1) := by decide +kernel
theorem d_m_ask_228 : decode prog_7_method_15_code 228 = .ok (.iastore, 1) := by decide +kernel
theorem d_m_ask_229 : decode prog_7_method_15_code 229 = .ok (.aload_n 0, 1) := by decide +kernel
theorem d_m_ask_230 : decode prog_7_method_15_code 230 = .ok (.getfield 86, 3) := by decide +kernel
theorem d_m_ask_233 : decode prog_7_method_15_code 233 = .ok (.iload 6, 2) := by decide +kernel
theorem d_m_ask_235 : decode prog_7_method_15_code 235 = .ok (.iconst (-1), 1) := by decide +kernel
theorem d_m_ask_236 : decode prog_7_method_15_code 236 = .ok (.iastore, 1) := by decide +kernel
theorem d_m_ask_237 : decode prog_7_method_15_code 237 = .ok (.iload 7, 2) := by decide +kernel
theorem d_m_ask_239 : decode prog_7_method_15_code 239 = .ok (.iconst 2, 1) := by decide +kernel
theorem d_m_ask_240 : decode prog_7_method_15_code 240 = .ok (.if_icmp .ne 19, 3) := by decide +kernel
theorem d_m_ask_243 : decode prog_7_method_15_code 243 = .ok (.aload_n 0, 1) := by decide +kernel
theorem d_m_ask_244 : decode prog_7_method_15_code 244 = .ok (.getfield 47, 3) := by decide +kernel
theorem d_m_ask_247 : decode prog_7_method_15_code 247 = .ok (.aload_n 0, 1) := by decide +kernel
theorem d_m_ask_248 : decode prog_7_method_15_code 248 = .ok (.getfield 74, 3) := by decide +kernel
theorem d_m_ask_251 : decode prog_7_method_15_code 251 = .ok (.iload 6, 2) := by decide +kernel
theorem d_m_ask_253 : decode prog_7_method_15_code 253 = .ok (.iaload, 1) := by decide +kernel
theorem d_m_ask_254 : decode prog_7_method_15_code 254 = .ok (.dup2, 1) := by decide +kernel
theorem d_m_ask_255 : decode prog_7_method_15_code 255 = .ok (.iaload, 1) := by decide +kernel
theorem d_m_ask_256 : decode prog_7_method_15_code 256 = .ok (.iconst 1, 1) := by decide +kernel
theorem d_m_ask_257 : decode prog_7_method_15_code 257 = .ok (.isub, 1) := by decide +kernel
theorem d_m_ask_258 : decode prog_7_method_15_code 258 = .ok (.iastore, 1) := by decide +kernel
theorem d_m_ask_259 : decode prog_7_method_15_code 259 = .ok (.iload 7, 2) := by decide +kernel
theorem d_m_ask_261 : decode prog_7_method_15_code 261 = .ok (.iconst 4, 1) := by decide +kernel
theorem d_m_ask_262 : decode prog_7_method_15_code 262 = .ok (.if_icmp .ne 13, 3) := by decide +kernel
theorem d_m_ask_265 : decode prog_7_method_15_code 265 = .ok (.aload_n 0, 1) := by decide +kernel
theorem d_m_ask_266 : decode prog_7_method_15_code 266 = .ok (.getfield 20, 3) := by decide +kernel
theorem d_m_ask_269 : decode prog_7_method_15_code 269 = .ok (.iload_n 2, 1) := by decide +kernel
theorem d_m_ask_270 : decode prog_7_method_15_code 270 = .ok (.dup2, 1) := by decide +kernel
theorem d_m_ask_271 : decode prog_7_method_15_code 271 = .ok (.iaload, 1) := by decide +kernel
theorem d_m_ask_272 : decode prog_7_method_15_code 272 = .ok (.iconst 1, 1) := by decide +kernel
theorem d_m_ask_273 : decode prog_7_method_15_code 273 = .ok (.isub, 1) := by decide +kernel
theorem d_m_ask_274 : decode prog_7_method_15_code 274 = .ok (.iastore, 1) := by decide +kernel
theorem d_m_ask_275 : decode prog_7_method_15_code 275 = .ok (.iload 7, 2) := by decide +kernel
theorem d_m_ask_277 : decode prog_7_method_15_code 277 = .ok (.ifCond .ne 15, 3) := by decide +kernel
theorem d_m_ask_280 : decode prog_7_method_15_code 280 = .ok (.aload_n 0, 1) := by decide +kernel
theorem d_m_ask_281 : decode prog_7_method_15_code 281 = .ok (.aload_n 0, 1) := by decide +kernel
theorem d_m_ask_282 : decode prog_7_method_15_code 282 = .ok (.iload_n 2, 1) := by decide +kernel
theorem d_m_ask_283 : decode prog_7_method_15_code 283 = .ok (.iload_n 3, 1) := by decide +kernel
theorem d_m_ask_284 : decode prog_7_method_15_code 284 = .ok (.iload 5, 2) := by decide +kernel
theorem d_m_ask_286 : decode prog_7_method_15_code 286 = .ok (.invokevirtual 130, 3) := by decide +kernel
theorem d_m_ask_289 : decode prog_7_method_15_code 289 = .ok (.putfield 89, 3) := by decide +kernel
theorem d_m_ask_292 : decode prog_7_method_15_code 292 = .ok (.aload_n 0, 1) := by decide +kernel
theorem d_m_ask_293 : decode prog_7_method_15_code 293 = .ok (.dup, 1) := by decide +kernel
theorem d_m_ask_294 : decode prog_7_method_15_code 294 = .ok (.getfield 117, 3) := by decide +kernel
theorem d_m_ask_297 : decode prog_7_method_15_code 297 = .ok (.iconst 1, 1) := by decide +kernel
theorem d_m_ask_298 : decode prog_7_method_15_code 298 = .ok (.iadd, 1) := by decide +kernel
theorem d_m_ask_299 : decode prog_7_method_15_code 299 = .ok (.putfield 117, 3) := by decide +kernel
theorem d_m_ask_302 : decode prog_7_method_15_code 302 = .ok (.iload 7, 2) := by decide +kernel
theorem d_m_ask_304 : decode prog_7_method_15_code 304 = .ok (.ifCond .ne 11, 3) := by decide +kernel
theorem d_m_ask_307 : decode prog_7_method_15_code 307 = .ok (.bipush (-10), 2) := by decide +kernel
theorem d_m_ask_309 : decode prog_7_method_15_code 309 = .ok (.iload 6, 2) := by decide +kernel
theorem d_m_ask_311 : decode prog_7_method_15_code 311 = .ok (.isub, 1) := by decide +kernel
theorem d_m_ask_312 : decode prog_7_method_15_code 312 = .ok (.goto 5, 3) := by decide +kernel
theorem d_m_ask_315 : decode prog_7_method_15_code 315 = .ok (.iload 6, 2) := by decide +kernel
theorem d_m_ask_317 : decode prog_7_method_15_code 317 = .ok (.ireturn, 1) := by decide +kernel
theorem d_m_barrier_0 : decode prog_7_method_12_code 0 = .ok (.iconst 0, 1) := by decide +kernel
theorem d_m_barrier_1 : decode prog_7_method_12_code 1 = .ok (.istore 4, 2) := by decide +kernel
theorem d_m_barrier_3 : decode prog_7_method_12_code 3 = .ok (.iload 4, 2) := by decide +kernel
theorem d_m_barrier_5 : decode prog_7_method_12_code 5 = .ok (.aload_n 0, 1) := by decide +kernel
theorem d_m_barrier_6 : decode prog_7_method_12_code 6 = .ok (.getfield 111, 3) := by decide +kernel
theorem d_m_barrier_9 : decode prog_7_method_12_code 9 = .ok (.if_icmp .ge 61, 3) := by decide +kernel
theorem d_m_barrier_12 : decode prog_7_method_12_code 12 = .ok (.aload_n 0, 1) := by decide +kernel
theorem d_m_barrier_13 : decode prog_7_method_12_code 13 = .ok (.getfield 29, 3) := by decide +kernel
theorem d_m_barrier_16 : decode prog_7_method_12_code 16 = .ok (.iload 4, 2) := by decide +kernel
theorem d_m_barrier_18 : decode prog_7_method_12_code 18 = .ok (.iaload, 1) := by decide +kernel
theorem d_m_barrier_19 : decode prog_7_method_12_code 19 = .ok (.iload_n 1, 1) := by decide +kernel
theorem d_m_barrier_20 : decode prog_7_method_12_code 20 = .ok (.if_icmp .ne 44, 3) := by decide +kernel
theorem d_m_barrier_23 : decode prog_7_method_12_code 23 = .ok (.aload_n 0, 1) := by decide +kernel
theorem d_m_barrier_24 : decode prog_7_method_12_code 24 = .ok (.getfield 32, 3) := by decide +kernel
theorem d_m_barrier_27 : decode prog_7_method_12_code 27 = .ok (.iload 4, 2) := by decide +kernel
theorem d_m_barrier_29 : decode prog_7_method_12_code 29 = .ok (.iaload, 1) := by decide +kernel
theorem d_m_barrier_30 : decode prog_7_method_12_code 30 = .ok (.iload_n 2, 1) := by decide +kernel
theorem d_m_barrier_31 : decode prog_7_method_12_code 31 = .ok (.if_icmp .eq 6, 3) := by decide +kernel
theorem d_m_barrier_34 : decode prog_7_method_12_code 34 = .ok (.goto 30, 3) := by decide +kernel
theorem d_m_barrier_37 : decode prog_7_method_12_code 37 = .ok (.aload_n 0, 1) := by decide +kernel
theorem d_m_barrier_38 : decode prog_7_method_12_code 38 = .ok (.iload_n 1, 1) := by decide +kernel
theorem d_m_barrier_39 : decode prog_7_method_12_code 39 = .ok (.iload_n 2, 1) := by decide +kernel
theorem d_m_barrier_40 : decode prog_7_method_12_code 40 = .ok (.aload_n 0, 1) := by decide +kernel
theorem d_m_barrier_41 : decode prog_7_method_12_code 41 = .ok (.getfield 35, 3) := by decide +kernel
theorem d_m_barrier_44 : decode prog_7_method_12_code 44 = .ok (.iload 4, 2) := by decide +kernel
theorem d_m_barrier_46 : decode prog_7_method_12_code 46 = .ok (.iaload, 1) := by decide +kernel
theorem d_m_barrier_47 : decode prog_7_method_12_code 47 = .ok (.iload_n 3, 1) := by decide +kernel
theorem d_m_barrier_48 : decode prog_7_method_12_code 48 = .ok (.invokevirtual 122, 3) := by decide +kernel
theorem d_m_barrier_51 : decode prog_7_method_12_code 51 = .ok (.aload_n 0, 1) := by decide +kernel
theorem d_m_barrier_52 : decode prog_7_method_12_code 52 = .ok (.getfield 38, 3) := by decide +kernel
theorem d_m_barrier_55 : decode prog_7_method_12_code 55 = .ok (.iload 4, 2) := by decide +kernel
theorem d_m_barrier_57 : decode prog_7_method_12_code 57 = .ok (.iaload, 1) := by decide +kernel
theorem d_m_barrier_58 : decode prog_7_method_12_code 58 = .ok (.if_icmp .lt 6, 3) := by decide +kernel
theorem d_m_barrier_61 : decode prog_7_method_12_code 61 = .ok (.iload 4, 2) := by decide +kernel
theorem d_m_barrier_63 : decode prog_7_method_12_code 63 = .ok (.ireturn, 1) := by decide +kernel
theorem d_m_barrier_64 : decode prog_7_method_12_code 64 = .ok (.iinc 4 1, 3) := by decide +kernel
theorem d_m_barrier_67 : decode prog_7_method_12_code 67 = .ok (.goto (-64), 3) := by decide +kernel
theorem d_m_barrier_70 : decode prog_7_method_12_code 70 = .ok (.iconst (-1), 1) := by decide +kernel
theorem d_m_barrier_71 : decode prog_7_method_12_code 71 = .ok (.ireturn, 1) := by decide +kernel
theorem d_m_cents_0 : decode prog_7_method_23_code 0 = .ok (.aload_n 0, 1) := by decide +kernel
theorem d_m_cents_1 : decode prog_7_method_23_code 1 = .ok (.getfield 77, 3) := by decide +kernel
theorem d_m_cents_4 : decode prog_7_method_23_code 4 = .ok (.iload_n 1, 1) := by decide +kernel
theorem d_m_cents_5 : decode prog_7_method_23_code 5 = .ok (.iaload, 1) := by decide +kernel
theorem d_m_cents_6 : decode prog_7_method_23_code 6 = .ok (.iconst 1, 1) := by decide +kernel
theorem d_m_cents_7 : decode prog_7_method_23_code 7 = .ok (.aload_n 0, 1) := by decide +kernel
theorem d_m_cents_8 : decode prog_7_method_23_code 8 = .ok (.getfield 83, 3) := by decide +kernel
theorem d_m_cents_11 : decode prog_7_method_23_code 11 = .ok (.iload_n 1, 1) := by decide +kernel
theorem d_m_cents_12 : decode prog_7_method_23_code 12 = .ok (.iaload, 1) := by decide +kernel
theorem d_m_cents_13 : decode prog_7_method_23_code 13 = .ok (.iadd, 1) := by decide +kernel
theorem d_m_cents_14 : decode prog_7_method_23_code 14 = .ok (.imul, 1) := by decide +kernel
theorem d_m_cents_15 : decode prog_7_method_23_code 15 = .ok (.ireturn, 1) := by decide +kernel
theorem d_m_count_0 : decode prog_7_method_11_code 0 = .ok (.iconst 0, 1) := by decide +kernel
theorem d_m_count_1 : decode prog_7_method_11_code 1 = .ok (.istore 5, 2) := by decide +kernel
theorem d_m_count_3 : decode prog_7_method_11_code 3 = .ok (.iconst 0, 1) := by decide +kernel
theorem d_m_count_4 : decode prog_7_method_11_code 4 = .ok (.istore 6, 2) := by decide +kernel
theorem d_m_count_6 : decode prog_7_method_11_code 6 = .ok (.iload 6, 2) := by decide +kernel
theorem d_m_count_8 : decode prog_7_method_11_code 8 = .ok (.aload_n 0, 1) := by decide +kernel
theorem d_m_count_9 : decode prog_7_method_11_code 9 = .ok (.getfield 117, 3) := by decide +kernel
theorem d_m_count_12 : decode prog_7_method_11_code 12 = .ok (.if_icmp .ge 89, 3) := by decide +kernel
theorem d_m_count_15 : decode prog_7_method_11_code 15 = .ok (.aload_n 0, 1) := by decide +kernel
theorem d_m_count_16 : decode prog_7_method_11_code 16 = .ok (.getfield 59, 3) := by decide +kernel
theorem d_m_count_19 : decode prog_7_method_11_code 19 = .ok (.iload 6, 2) := by decide +kernel
theorem d_m_count_21 : decode prog_7_method_11_code 21 = .ok (.iaload, 1) := by decide +kernel
theorem d_m_count_22 : decode prog_7_method_11_code 22 = .ok (.iload_n 1, 1) := by decide +kernel
theorem d_m_count_23 : decode prog_7_method_11_code 23 = .ok (.if_icmp .ne 72, 3) := by decide +kernel
theorem d_m_count_26 : decode prog_7_method_11_code 26 = .ok (.aload_n 0, 1) := by decide +kernel
theorem d_m_count_27 : decode prog_7_method_11_code 27 = .ok (.getfield 62, 3) := by decide +kernel
theorem d_m_count_30 : decode prog_7_method_11_code 30 = .ok (.iload 6, 2) := by decide +kernel
theorem d_m_count_32 : decode prog_7_method_11_code 32 = .ok (.iaload, 1) := by decide +kernel
theorem d_m_count_33 : decode prog_7_method_11_code 33 = .ok (.iload_n 2, 1) := by decide +kernel
theorem d_m_count_34 : decode prog_7_method_11_code 34 = .ok (.if_icmp .ne 61, 3) := by decide +kernel
theorem d_m_count_37 : decode prog_7_method_11_code 37 = .ok (.aload_n 0, 1) := by decide +kernel
theorem d_m_count_38 : decode prog_7_method_11_code 38 = .ok (.getfield 71, 3) := by decide +kernel
theorem d_m_count_41 : decode prog_7_method_11_code 41 = .ok (.iload 6, 2) := by decide +kernel
theorem d_m_count_43 : decode prog_7_method_11_code 43 = .ok (.iaload, 1) := by decide +kernel
theorem d_m_count_44 : decode prog_7_method_11_code 44 = .ok (.iconst 3, 1) := by decide +kernel
theorem d_m_count_45 : decode prog_7_method_11_code 45 = .ok (.if_icmp .ge 6, 3) := by decide +kernel
theorem d_m_count_48 : decode prog_7_method_11_code 48 = .ok (.goto 47, 3) := by decide +kernel
theorem d_m_count_51 : decode prog_7_method_11_code 51 = .ok (.iload 5, 2) := by decide +kernel
theorem d_m_count_53 : decode prog_7_method_11_code 53 = .ok (.aload_n 0, 1) := by decide +kernel
theorem d_m_count_54 : decode prog_7_method_11_code 54 = .ok (.getfield 68, 3) := by decide +kernel
theorem d_m_count_57 : decode prog_7_method_11_code 57 = .ok (.iload 6, 2) := by decide +kernel
theorem d_m_count_59 : decode prog_7_method_11_code 59 = .ok (.iaload, 1) := by decide +kernel
theorem d_m_count_60 : decode prog_7_method_11_code 60 = .ok (.iload 4, 2) := by decide +kernel
theorem d_m_count_62 : decode prog_7_method_11_code 62 = .ok (.if_icmp .gt 29, 3) := by decide +kernel
theorem d_m_count_65 : decode prog_7_method_11_code 65 = .ok (.aload_n 0, 1) := by decide +kernel
theorem d_m_count_66 : decode prog_7_method_11_code 66 = .ok (.getfield 68, 3) := by decide +kernel
theorem d_m_count_69 : decode prog_7_method_11_code 69 = .ok (.iload 6, 2) := by decide +kernel
theorem d_m_count_71 : decode prog_7_method_11_code 71 = .ok (.iaload, 1) := by decide +kernel
theorem d_m_count_72 : decode prog_7_method_11_code 72 = .ok (.i2l, 1) := by decide +kernel
theorem d_m_count_73 : decode prog_7_method_11_code 73 = .ok (.iload 4, 2) := by decide +kernel
theorem d_m_count_75 : decode prog_7_method_11_code 75 = .ok (.i2l, 1) := by decide +kernel
theorem d_m_count_76 : decode prog_7_method_11_code 76 = .ok (.iload_n 3, 1) := by decide +kernel
theorem d_m_count_77 : decode prog_7_method_11_code 77 = .ok (.i2l, 1) := by decide +kernel
theorem d_m_count_78 : decode prog_7_method_11_code 78 = .ok (.ldc2_w 120, 3) := by decide +kernel
theorem d_m_count_81 : decode prog_7_method_11_code 81 = .ok (.lmul, 1) := by decide +kernel
theorem d_m_count_82 : decode prog_7_method_11_code 82 = .ok (.lsub, 1) := by decide +kernel
theorem d_m_count_83 : decode prog_7_method_11_code 83 = .ok (.lcmp, 1) := by decide +kernel
theorem d_m_count_84 : decode prog_7_method_11_code 84 = .ok (.ifCond .lt 7, 3) := by decide +kernel
theorem d_m_count_87 : decode prog_7_method_11_code 87 = .ok (.iconst 1, 1) := by decide +kernel
theorem d_m_count_88 : decode prog_7_method_11_code 88 = .ok (.goto 4, 3) := by decide +kernel
theorem d_m_count_91 : decode prog_7_method_11_code 91 = .ok (.iconst 0, 1) := by decide +kernel
theorem d_m_count_92 : decode prog_7_method_11_code 92 = .ok (.iadd, 1) := by decide +kernel
theorem d_m_count_93 : decode prog_7_method_11_code 93 = .ok (.istore 5, 2) := by decide +kernel
theorem d_m_count_95 : decode prog_7_method_11_code 95 = .ok (.iinc 6 1, 3) := by decide +kernel
theorem d_m_count_98 : decode prog_7_method_11_code 98 = .ok (.goto (-92), 3) := by decide +kernel
theorem d_m_count_101 : decode prog_7_method_11_code 101 = .ok (.iload 5, 2) := by decide +kernel
theorem d_m_count_103 : decode prog_7_method_11_code 103 = .ok (.ireturn, 1) := by decide +kernel
theorem d_m_counted_0 : decode prog_7_method_22_code 0 = .ok (.aload_n 0, 1) := by decide +kernel
theorem d_m_counted_1 : decode prog_7_method_22_code 1 = .ok (.iconst 0, 1) := by decide +kernel
theorem d_m_counted_2 : decode prog_7_method_22_code 2 = .ok (.putfield 93, 3) := by decide +kernel
theorem d_m_counted_5 : decode prog_7_method_22_code 5 = .ok (.aload_n 0, 1) := by decide +kernel
theorem d_m_counted_6 : decode prog_7_method_22_code 6 = .ok (.iload_n 1, 1) := by decide +kernel
theorem d_m_counted_7 : decode prog_7_method_22_code 7 = .ok (.invokevirtual 107, 3) := by decide +kernel
theorem d_m_counted_10 : decode prog_7_method_22_code 10 = .ok (.ifCond .ne 5, 3) := by decide +kernel
theorem d_m_counted_13 : decode prog_7_method_22_code 13 = .ok (.iconst (-1), 1) := by decide +kernel
theorem d_m_counted_14 : decode prog_7_method_22_code 14 = .ok (.ireturn, 1) := by decide +kernel
theorem d_m_counted_15 : decode prog_7_method_22_code 15 = .ok (.iload_n 2, 1) := by decide +kernel
theorem d_m_counted_16 : decode prog_7_method_22_code 16 = .ok (.iconst 0, 1) := by decide +kernel
theorem d_m_counted_17 : decode prog_7_method_22_code 17 = .ok (.iconst 1, 1) := by decide +kernel
theorem d_m_counted_18 : decode prog_7_method_22_code 18 = .ok (.invokestatic 99, 3) := by decide +kernel
theorem d_m_counted_21 : decode prog_7_method_22_code 21 = .ok (.ifCond .eq 25, 3) := by decide +kernel
theorem d_m_counted_24 : decode prog_7_method_22_code 24 = .ok (.iload_n 3, 1) := by decide +kernel
theorem d_m_counted_25 : decode prog_7_method_22_code 25 = .ok (.iconst 1, 1) := by decide +kernel
theorem d_m_counted_26 : decode prog_7_method_22_code 26 = .ok (.sipush 5000, 3) := by decide +kernel
theorem d_m_counted_29 : decode prog_7_method_22_code 29 = .ok (.invokestatic 99, 3) := by decide +kernel
theorem d_m_counted_32 : decode prog_7_method_22_code 32 = .ok (.ifCond .eq 14, 3) := by decide +kernel
theorem d_m_counted_35 : decode prog_7_method_22_code 35 = .ok (.iload 4, 2) := by decide +kernel
theorem d_m_counted_37 : decode prog_7_method_22_code 37 = .ok (.iconst 0, 1) := by decide +kernel
theorem d_m_counted_38 : decode prog_7_method_22_code 38 = .ok (.ldc 106, 2) := by decide +kernel
theorem d_m_counted_40 : decode prog_7_method_22_code 40 = .ok (.invokestatic 99, 3) := by decide +kernel
theorem d_m_counted_43 : decode prog_7_method_22_code 43 = .ok (.ifCond .ne 6, 3) := by decide +kernel
theorem d_m_counted_46 : decode prog_7_method_22_code 46 = .ok (.bipush (-2), 2) := by decide +kernel
theorem d_m_counted_48 : decode prog_7_method_22_code 48 = .ok (.ireturn, 1) := by decide +kernel
theorem d_m_counted_49 : decode prog_7_method_22_code 49 = .ok (.aload_n 0, 1) := by decide +kernel
theorem d_m_counted_50 : decode prog_7_method_22_code 50 = .ok (.iload_n 1, 1) := by decide +kernel
theorem d_m_counted_51 : decode prog_7_method_22_code 51 = .ok (.iload_n 2, 1) := by decide +kernel
theorem d_m_counted_52 : decode prog_7_method_22_code 52 = .ok (.iload_n 3, 1) := by decide +kernel
theorem d_m_counted_53 : decode prog_7_method_22_code 53 = .ok (.iload 4, 2) := by decide +kernel
theorem d_m_counted_55 : decode prog_7_method_22_code 55 = .ok (.invokevirtual 122, 3) := by decide +kernel
theorem d_m_counted_58 : decode prog_7_method_22_code 58 = .ok (.ireturn, 1) := by decide +kernel
theorem d_m_decide_0 : decode prog_7_method_14_code 0 = .ok (.aload_n 0, 1) := by decide +kernel
theorem d_m_decide_1 : decode prog_7_method_14_code 1 = .ok (.getfield 13, 3) := by decide +kernel
theorem d_m_decide_4 : decode prog_7_method_14_code 4 = .ok (.iload_n 1, 1) := by decide +kernel
theorem d_m_decide_5 : decode prog_7_method_14_code 5 = .ok (.baload, 1) := by decide +kernel
theorem d_m_decide_6 : decode prog_7_method_14_code 6 = .ok (.ifCond .eq 5, 3) := by decide +kernel
theorem d_m_decide_9 : decode prog_7_method_14_code 9 = .ok (.iconst 1, 1) := by decide +kernel
theorem d_m_decide_10 : decode prog_7_method_14_code 10 = .ok (.ireturn, 1) := by decide +kernel
theorem d_m_decide_11 : decode prog_7_method_14_code 11 = .ok (.aload_n 0, 1) := by decide +kernel
theorem d_m_decide_12 : decode prog_7_method_14_code 12 = .ok (.iload_n 1, 1) := by decide +kernel
theorem d_m_decide_13 : decode prog_7_method_14_code 13 = .ok (.iload_n 2, 1) := by decide +kernel
theorem d_m_decide_14 : decode prog_7_method_14_code 14 = .ok (.iload_n 3, 1) := by decide +kernel
theorem d_m_decide_15 : decode prog_7_method_14_code 15 = .ok (.invokevirtual 126, 3) := by decide +kernel
theorem d_m_decide_18 : decode prog_7_method_14_code 18 = .ok (.ifCond .lt 5, 3) := by decide +kernel
theorem d_m_decide_21 : decode prog_7_method_14_code 21 = .ok (.iconst 2, 1) := by decide +kernel
theorem d_m_decide_22 : decode prog_7_method_14_code 22 = .ok (.ireturn, 1) := by decide +kernel
theorem d_m_decide_23 : decode prog_7_method_14_code 23 = .ok (.aload_n 0, 1) := by decide +kernel
theorem d_m_decide_24 : decode prog_7_method_14_code 24 = .ok (.iload_n 1, 1) := by decide +kernel
theorem d_m_decide_25 : decode prog_7_method_14_code 25 = .ok (.iload_n 2, 1) := by decide +kernel
theorem d_m_decide_26 : decode prog_7_method_14_code 26 = .ok (.iload_n 3, 1) := by decide +kernel
theorem d_m_decide_27 : decode prog_7_method_14_code 27 = .ok (.invokevirtual 130, 3) := by decide +kernel
theorem d_m_decide_30 : decode prog_7_method_14_code 30 = .ok (.ifCond .ge 5, 3) := by decide +kernel
theorem d_m_decide_33 : decode prog_7_method_14_code 33 = .ok (.iconst 3, 1) := by decide +kernel
theorem d_m_decide_34 : decode prog_7_method_14_code 34 = .ok (.ireturn, 1) := by decide +kernel
theorem d_m_decide_35 : decode prog_7_method_14_code 35 = .ok (.aload_n 0, 1) := by decide +kernel
theorem d_m_decide_36 : decode prog_7_method_14_code 36 = .ok (.getfield 20, 3) := by decide +kernel
theorem d_m_decide_39 : decode prog_7_method_14_code 39 = .ok (.iload_n 1, 1) := by decide +kernel
theorem d_m_decide_40 : decode prog_7_method_14_code 40 = .ok (.iaload, 1) := by decide +kernel
theorem d_m_decide_41 : decode prog_7_method_14_code 41 = .ok (.ifCond .le 5, 3) := by decide +kernel
theorem d_m_decide_44 : decode prog_7_method_14_code 44 = .ok (.iconst 4, 1) := by decide +kernel
theorem d_m_decide_45 : decode prog_7_method_14_code 45 = .ok (.ireturn, 1) := by decide +kernel
theorem d_m_decide_46 : decode prog_7_method_14_code 46 = .ok (.aload_n 0, 1) := by decide +kernel
theorem d_m_decide_47 : decode prog_7_method_14_code 47 = .ok (.getfield 23, 3) := by decide +kernel
theorem d_m_decide_50 : decode prog_7_method_14_code 50 = .ok (.aload_n 0, 1) := by decide +kernel
theorem d_m_decide_51 : decode prog_7_method_14_code 51 = .ok (.getfield 7, 3) := by decide +kernel
theorem d_m_decide_54 : decode prog_7_method_14_code 54 = .ok (.iload_n 1, 1) := by decide +kernel
theorem d_m_decide_55 : decode prog_7_method_14_code 55 = .ok (.iaload, 1) := by decide +kernel
theorem d_m_decide_56 : decode prog_7_method_14_code 56 = .ok (.iaload, 1) := by decide +kernel
theorem d_m_decide_57 : decode prog_7_method_14_code 57 = .ok (.ifCond .le 7, 3) := by decide +kernel
theorem d_m_decide_60 : decode prog_7_method_14_code 60 = .ok (.iconst 5, 1) := by decide +kernel
theorem d_m_decide_61 : decode prog_7_method_14_code 61 = .ok (.goto 4, 3) := by decide +kernel
theorem d_m_decide_64 : decode prog_7_method_14_code 64 = .ok (.iconst 0, 1) := by decide +kernel
theorem d_m_decide_65 : decode prog_7_method_14_code 65 = .ok (.ireturn, 1) := by decide +kernel
theorem d_m_delete_0 : decode prog_7_method_21_code 0 = .ok (.aload_n 0, 1) := by decide +kernel
theorem d_m_delete_1 : decode prog_7_method_21_code 1 = .ok (.iconst 0, 1) := by decide +kernel
theorem d_m_delete_2 : decode prog_7_method_21_code 2 = .ok (.putfield 93, 3) := by decide +kernel
theorem d_m_delete_5 : decode prog_7_method_21_code 5 = .ok (.iload_n 1, 1) := by decide +kernel
theorem d_m_delete_6 : decode prog_7_method_21_code 6 = .ok (.iconst 0, 1) := by decide +kernel
theorem d_m_delete_7 : decode prog_7_method_21_code 7 = .ok (.aload_n 0, 1) := by decide +kernel
theorem d_m_delete_8 : decode prog_7_method_21_code 8 = .ok (.getfield 117, 3) := by decide +kernel
theorem d_m_delete_11 : decode prog_7_method_21_code 11 = .ok (.iconst 1, 1) := by decide +kernel
theorem d_m_delete_12 : decode prog_7_method_21_code 12 = .ok (.isub, 1) := by decide +kernel
theorem d_m_delete_13 : decode prog_7_method_21_code 13 = .ok (.invokestatic 99, 3) := by decide +kernel
theorem d_m_delete_16 : decode prog_7_method_21_code 16 = .ok (.ifCond .ne 5, 3) := by decide +kernel
theorem d_m_delete_19 : decode prog_7_method_21_code 19 = .ok (.iconst (-1), 1) := by decide +kernel
theorem d_m_delete_20 : decode prog_7_method_21_code 20 = .ok (.ireturn, 1) := by decide +kernel
theorem d_m_delete_21 : decode prog_7_method_21_code 21 = .ok (.aload_n 0, 1) := by decide +kernel
theorem d_m_delete_22 : decode prog_7_method_21_code 22 = .ok (.iload_n 2, 1) := by decide +kernel
theorem d_m_delete_23 : decode prog_7_method_21_code 23 = .ok (.invokevirtual 133, 3) := by decide +kernel
theorem d_m_delete_26 : decode prog_7_method_21_code 26 = .ok (.ifCond .ne 6, 3) := by decide +kernel
theorem d_m_delete_29 : decode prog_7_method_21_code 29 = .ok (.bipush (-2), 2) := by decide +kernel
theorem d_m_delete_31 : decode prog_7_method_21_code 31 = .ok (.ireturn, 1) := by decide +kernel
theorem d_m_delete_32 : decode prog_7_method_21_code 32 = .ok (.aload_n 0, 1) := by decide +kernel
theorem d_m_delete_33 : decode prog_7_method_21_code 33 = .ok (.getfield 71, 3) := by decide +kernel
theorem d_m_delete_36 : decode prog_7_method_21_code 36 = .ok (.iload_n 1, 1) := by decide +kernel
theorem d_m_delete_37 : decode prog_7_method_21_code 37 = .ok (.iaload, 1) := by decide +kernel
theorem d_m_delete_38 : decode prog_7_method_21_code 38 = .ok (.ifCond .eq 12, 3) := by decide +kernel
theorem d_m_delete_41 : decode prog_7_method_21_code 41 = .ok (.aload_n 0, 1) := by decide +kernel
theorem d_m_delete_42 : decode prog_7_method_21_code 42 = .ok (.getfield 86, 3) := by decide +kernel
theorem d_m_delete_45 : decode prog_7_method_21_code 45 = .ok (.iload_n 1, 1) := by decide +kernel
theorem d_m_delete_46 : decode prog_7_method_21_code 46 = .ok (.iaload, 1) := by decide +kernel
theorem d_m_delete_47 : decode prog_7_method_21_code 47 = .ok (.ifCond .lt 6, 3) := by decide +kernel
theorem d_m_delete_50 : decode prog_7_method_21_code 50 = .ok (.bipush (-3), 2) := by decide +kernel
theorem d_m_delete_52 : decode prog_7_method_21_code 52 = .ok (.ireturn, 1) := by decide +kernel
theorem d_m_delete_53 : decode prog_7_method_21_code 53 = .ok (.aload_n 0, 1) := by decide +kernel
theorem d_m_delete_54 : decode prog_7_method_21_code 54 = .ok (.iload_n 2, 1) := by decide +kernel
theorem d_m_delete_55 : decode prog_7_method_21_code 55 = .ok (.putfield 103, 3) := by decide +kernel
theorem d_m_delete_58 : decode prog_7_method_21_code 58 = .ok (.aload_n 0, 1) := by decide +kernel
theorem d_m_delete_59 : decode prog_7_method_21_code 59 = .ok (.getfield 86, 3) := by decide +kernel
theorem d_m_delete_62 : decode prog_7_method_21_code 62 = .ok (.iload_n 1, 1) := by decide +kernel
theorem d_m_delete_63 : decode prog_7_method_21_code 63 = .ok (.iload_n 2, 1) := by decide +kernel
theorem d_m_delete_64 : decode prog_7_method_21_code 64 = .ok (.iastore, 1) := by decide +kernel
theorem d_m_delete_65 : decode prog_7_method_21_code 65 = .ok (.iload_n 2, 1) := by decide +kernel
theorem d_m_delete_66 : decode prog_7_method_21_code 66 = .ok (.aload_n 0, 1) := by decide +kernel
theorem d_m_delete_67 : decode prog_7_method_21_code 67 = .ok (.getfield 80, 3) := by decide +kernel
theorem d_m_delete_70 : decode prog_7_method_21_code 70 = .ok (.iload_n 1, 1) := by decide +kernel
theorem d_m_delete_71 : decode prog_7_method_21_code 71 = .ok (.iaload, 1) := by decide +kernel
theorem d_m_delete_72 : decode prog_7_method_21_code 72 = .ok (.if_icmp .lt 7, 3) := by decide +kernel
theorem d_m_delete_75 : decode prog_7_method_21_code 75 = .ok (.iconst 0, 1) := by decide +kernel
theorem d_m_delete_76 : decode prog_7_method_21_code 76 = .ok (.goto 4, 3) := by decide +kernel
theorem d_m_delete_79 : decode prog_7_method_21_code 79 = .ok (.iconst 1, 1) := by decide +kernel
theorem d_m_delete_80 : decode prog_7_method_21_code 80 = .ok (.ireturn, 1) := by decide +kernel
theorem d_m_fee_0 : decode prog_7_method_10_code 0 = .ok (.aload_n 0, 1) := by decide +kernel
theorem d_m_fee_1 : decode prog_7_method_10_code 1 = .ok (.iconst 0, 1) := by decide +kernel
theorem d_m_fee_2 : decode prog_7_method_10_code 2 = .ok (.putfield 93, 3) := by decide +kernel
theorem d_m_fee_5 : decode prog_7_method_10_code 5 = .ok (.iload_n 1, 1) := by decide +kernel
theorem d_m_fee_6 : decode prog_7_method_10_code 6 = .ok (.iconst 0, 1) := by decide +kernel
theorem d_m_fee_7 : decode prog_7_method_10_code 7 = .ok (.bipush 99, 2) := by decide +kernel
theorem d_m_fee_9 : decode prog_7_method_10_code 9 = .ok (.invokestatic 99, 3) := by decide +kernel
theorem d_m_fee_12 : decode prog_7_method_10_code 12 = .ok (.ifCond .eq 14, 3) := by decide +kernel
theorem d_m_fee_15 : decode prog_7_method_10_code 15 = .ok (.iload_n 2, 1) := by decide +kernel
theorem d_m_fee_16 : decode prog_7_method_10_code 16 = .ok (.iconst 0, 1) := by decide +kernel
theorem d_m_fee_17 : decode prog_7_method_10_code 17 = .ok (.sipush 10000, 3) := by decide +kernel
theorem d_m_fee_20 : decode prog_7_method_10_code 20 = .ok (.invokestatic 99, 3) := by decide +kernel
theorem d_m_fee_23 : decode prog_7_method_10_code 23 = .ok (.ifCond .ne 6, 3) := by decide +kernel
theorem d_m_fee_26 : decode prog_7_method_10_code 26 = .ok (.bipush (-2), 2) := by decide +kernel
theorem d_m_fee_28 : decode prog_7_method_10_code 28 = .ok (.ireturn, 1) := by decide +kernel
theorem d_m_fee_29 : decode prog_7_method_10_code 29 = .ok (.aload_n 0, 1) := by decide +kernel
theorem d_m_fee_30 : decode prog_7_method_10_code 30 = .ok (.getfield 23, 3) := by decide +kernel
theorem d_m_fee_33 : decode prog_7_method_10_code 33 = .ok (.iload_n 1, 1) := by decide +kernel
theorem d_m_fee_34 : decode prog_7_method_10_code 34 = .ok (.iload_n 2, 1) := by decide +kernel
theorem d_m_fee_35 : decode prog_7_method_10_code 35 = .ok (.iastore, 1) := by decide +kernel
theorem d_m_fee_36 : decode prog_7_method_10_code 36 = .ok (.iconst 1, 1) := by decide +kernel
theorem d_m_fee_37 : decode prog_7_method_10_code 37 = .ok (.ireturn, 1) := by decide +kernel
theorem d_m_give_0 : decode prog_7_method_17_code 0 = .ok (.aload_n 0, 1) := by decide +kernel
theorem d_m_give_1 : decode prog_7_method_17_code 1 = .ok (.iconst 0, 1) := by decide +kernel
theorem d_m_give_2 : decode prog_7_method_17_code 2 = .ok (.putfield 93, 3) := by decide +kernel
theorem d_m_give_5 : decode prog_7_method_17_code 5 = .ok (.iload_n 1, 1) := by decide +kernel
theorem d_m_give_6 : decode prog_7_method_17_code 6 = .ok (.iconst 0, 1) := by decide +kernel
theorem d_m_give_7 : decode prog_7_method_17_code 7 = .ok (.bipush 99, 2) := by decide +kernel
theorem d_m_give_9 : decode prog_7_method_17_code 9 = .ok (.invokestatic 99, 3) := by decide +kernel
theorem d_m_give_12 : decode prog_7_method_17_code 12 = .ok (.ifCond .eq 13, 3) := by decide +kernel
theorem d_m_give_15 : decode prog_7_method_17_code 15 = .ok (.iload_n 2, 1) := by decide +kernel
theorem d_m_give_16 : decode prog_7_method_17_code 16 = .ok (.iconst 1, 1) := by decide +kernel
theorem d_m_give_17 : decode prog_7_method_17_code 17 = .ok (.bipush 9, 2) := by decide +kernel
theorem d_m_give_19 : decode prog_7_method_17_code 19 = .ok (.invokestatic 99, 3) := by decide +kernel
theorem d_m_give_22 : decode prog_7_method_17_code 22 = .ok (.ifCond .ne 6, 3) := by decide +kernel
theorem d_m_give_25 : decode prog_7_method_17_code 25 = .ok (.bipush (-2), 2) := by decide +kernel
theorem d_m_give_27 : decode prog_7_method_17_code 27 = .ok (.ireturn, 1) := by decide +kernel
theorem d_m_give_28 : decode prog_7_method_17_code 28 = .ok (.aload_n 0, 1) := by decide +kernel
theorem d_m_give_29 : decode prog_7_method_17_code 29 = .ok (.getfield 26, 3) := by decide +kernel
theorem d_m_give_32 : decode prog_7_method_17_code 32 = .ok (.bipush 10, 2) := by decide +kernel
theorem d_m_give_34 : decode prog_7_method_17_code 34 = .ok (.iload_n 1, 1) := by decide +kernel
theorem d_m_give_35 : decode prog_7_method_17_code 35 = .ok (.imul, 1) := by decide +kernel
theorem d_m_give_36 : decode prog_7_method_17_code 36 = .ok (.iload_n 2, 1) := by decide +kernel
theorem d_m_give_37 : decode prog_7_method_17_code 37 = .ok (.iadd, 1) := by decide +kernel
theorem d_m_give_38 : decode prog_7_method_17_code 38 = .ok (.iload_n 3, 1) := by decide +kernel
theorem d_m_give_39 : decode prog_7_method_17_code 39 = .ok (.bastore, 1) := by decide +kernel
theorem d_m_give_40 : decode prog_7_method_17_code 40 = .ok (.iconst 1, 1) := by decide +kernel
theorem d_m_give_41 : decode prog_7_method_17_code 41 = .ok (.ireturn, 1) := by decide +kernel
theorem d_m_in_0 : decode prog_7_method_3_code 0 = .ok (.iload_n 0, 1) := by decide +kernel
theorem d_m_in_1 : decode prog_7_method_3_code 1 = .ok (.iload_n 1, 1) := by decide +kernel
theorem d_m_in_2 : decode prog_7_method_3_code 2 = .ok (.if_icmp .lt 12, 3) := by decide +kernel
theorem d_m_in_5 : decode prog_7_method_3_code 5 = .ok (.iload_n 0, 1) := by decide +kernel
theorem d_m_in_6 : decode prog_7_method_3_code 6 = .ok (.iload_n 2, 1) := by decide +kernel
theorem d_m_in_7 : decode prog_7_method_3_code 7 = .ok (.if_icmp .gt 7, 3) := by decide +kernel
theorem d_m_in_10 : decode prog_7_method_3_code 10 = .ok (.iconst 1, 1) := by decide +kernel
theorem d_m_in_11 : decode prog_7_method_3_code 11 = .ok (.goto 4, 3) := by decide +kernel
theorem d_m_in_14 : decode prog_7_method_3_code 14 = .ok (.iconst 0, 1) := by decide +kernel
theorem d_m_in_15 : decode prog_7_method_3_code 15 = .ok (.ireturn, 1) := by decide +kernel
theorem d_m_isNow_0 : decode prog_7_method_5_code 0 = .ok (.iload_n 1, 1) := by decide +kernel
theorem d_m_isNow_1 : decode prog_7_method_5_code 1 = .ok (.aload_n 0, 1) := by decide +kernel
theorem d_m_isNow_2 : decode prog_7_method_5_code 2 = .ok (.getfield 103, 3) := by decide +kernel
theorem d_m_isNow_5 : decode prog_7_method_5_code 5 = .ok (.ldc 106, 2) := by decide +kernel
theorem d_m_isNow_7 : decode prog_7_method_5_code 7 = .ok (.invokestatic 99, 3) := by decide +kernel
theorem d_m_isNow_10 : decode prog_7_method_5_code 10 = .ok (.ireturn, 1) := by decide +kernel
theorem d_m_isTitle_0 : decode prog_7_method_4_code 0 = .ok (.iload_n 1, 1) := by decide +kernel
theorem d_m_isTitle_1 : decode prog_7_method_4_code 1 = .ok (.iconst 0, 1) := by decide +kernel
theorem d_m_isTitle_2 : decode prog_7_method_4_code 2 = .ok (.aload_n 0, 1) := by decide +kernel
theorem d_m_isTitle_3 : decode prog_7_method_4_code 3 = .ok (.getfield 96, 3) := by decide +kernel
theorem d_m_isTitle_6 : decode prog_7_method_4_code 6 = .ok (.iconst 1, 1) := by decide +kernel
theorem d_m_isTitle_7 : decode prog_7_method_4_code 7 = .ok (.isub, 1) := by decide +kernel
theorem d_m_isTitle_8 : decode prog_7_method_4_code 8 = .ok (.invokestatic 99, 3) := by decide +kernel
theorem d_m_isTitle_11 : decode prog_7_method_4_code 11 = .ok (.ireturn, 1) := by decide +kernel
theorem d_m_left_0 : decode prog_7_method_25_code 0 = .ok (.aload_n 0, 1) := by decide +kernel
theorem d_m_left_1 : decode prog_7_method_25_code 1 = .ok (.iconst 0, 1) := by decide +kernel
theorem d_m_left_2 : decode prog_7_method_25_code 2 = .ok (.putfield 93, 3) := by decide +kernel
theorem d_m_left_5 : decode prog_7_method_25_code 5 = .ok (.iload_n 1, 1) := by decide +kernel
theorem d_m_left_6 : decode prog_7_method_25_code 6 = .ok (.iconst 0, 1) := by decide +kernel
theorem d_m_left_7 : decode prog_7_method_25_code 7 = .ok (.aload_n 0, 1) := by decide +kernel
theorem d_m_left_8 : decode prog_7_method_25_code 8 = .ok (.getfield 114, 3) := by decide +kernel
theorem d_m_left_11 : decode prog_7_method_25_code 11 = .ok (.iconst 1, 1) := by decide +kernel
theorem d_m_left_12 : decode prog_7_method_25_code 12 = .ok (.isub, 1) := by decide +kernel
theorem d_m_left_13 : decode prog_7_method_25_code 13 = .ok (.invokestatic 99, 3) := by decide +kernel
theorem d_m_left_16 : decode prog_7_method_25_code 16 = .ok (.ifCond .eq 12, 3) := by decide +kernel
theorem d_m_left_19 : decode prog_7_method_25_code 19 = .ok (.aload_n 0, 1) := by decide +kernel
theorem d_m_left_20 : decode prog_7_method_25_code 20 = .ok (.getfield 47, 3) := by decide +kernel
theorem d_m_left_23 : decode prog_7_method_25_code 23 = .ok (.iload_n 1, 1) := by decide +kernel
theorem d_m_left_24 : decode prog_7_method_25_code 24 = .ok (.iaload, 1) := by decide +kernel
theorem d_m_left_25 : decode prog_7_method_25_code 25 = .ok (.goto 4, 3) := by decide +kernel
theorem d_m_left_28 : decode prog_7_method_25_code 28 = .ok (.iconst (-1), 1) := by decide +kernel
theorem d_m_left_29 : decode prog_7_method_25_code 29 = .ok (.ireturn, 1) := by decide +kernel
theorem d_m_licence_0 : decode prog_7_method_9_code 0 = .ok (.aload_n 0, 1) := by decide +kernel
theorem d_m_licence_1 : decode prog_7_method_9_code 1 = .ok (.iconst 0, 1) := by decide +kernel
theorem d_m_licence_2 : decode prog_7_method_9_code 2 = .ok (.putfield 93, 3) := by decide +kernel
theorem d_m_licence_5 : decode prog_7_method_9_code 5 = .ok (.aload_n 0, 1) := by decide +kernel
theorem d_m_licence_6 : decode prog_7_method_9_code 6 = .ok (.iload_n 1, 1) := by decide +kernel
theorem d_m_licence_7 : decode prog_7_method_9_code 7 = .ok (.invokevirtual 107, 3) := by decide +kernel
theorem d_m_licence_10 : decode prog_7_method_9_code 10 = .ok (.ifCond .ne 5, 3) := by decide +kernel
theorem d_m_licence_13 : decode prog_7_method_9_code 13 = .ok (.iconst (-1), 1) := by decide +kernel
theorem d_m_licence_14 : decode prog_7_method_9_code 14 = .ok (.ireturn, 1) := by decide +kernel
theorem d_m_licence_15 : decode prog_7_method_9_code 15 = .ok (.iload_n 2, 1) := by decide +kernel
theorem d_m_licence_16 : decode prog_7_method_9_code 16 = .ok (.iconst 0, 1) := by decide +kernel
theorem d_m_licence_17 : decode prog_7_method_9_code 17 = .ok (.iconst 1, 1) := by decide +kernel
theorem d_m_licence_18 : decode prog_7_method_9_code 18 = .ok (.invokestatic 99, 3) := by decide +kernel
theorem d_m_licence_21 : decode prog_7_method_9_code 21 = .ok (.ifCond .eq 37, 3) := by decide +kernel
theorem d_m_licence_24 : decode prog_7_method_9_code 24 = .ok (.iload_n 3, 1) := by decide +kernel
theorem d_m_licence_25 : decode prog_7_method_9_code 25 = .ok (.iconst 0, 1) := by decide +kernel
theorem d_m_licence_26 : decode prog_7_method_9_code 26 = .ok (.sipush 1000, 3) := by decide +kernel
theorem d_m_licence_29 : decode prog_7_method_9_code 29 = .ok (.invokestatic 99, 3) := by decide +kernel
theorem d_m_licence_32 : decode prog_7_method_9_code 32 = .ok (.ifCond .eq 26, 3) := by decide +kernel
theorem d_m_licence_35 : decode prog_7_method_9_code 35 = .ok (.iload 4, 2) := by decide +kernel
theorem d_m_licence_37 : decode prog_7_method_9_code 37 = .ok (.iconst 0, 1) := by decide +kernel
theorem d_m_licence_38 : decode prog_7_method_9_code 38 = .ok (.ldc 106, 2) := by decide +kernel
theorem d_m_licence_40 : decode prog_7_method_9_code 40 = .ok (.invokestatic 99, 3) := by decide +kernel
theorem d_m_licence_43 : decode prog_7_method_9_code 43 = .ok (.ifCond .eq 15, 3) := by decide +kernel
theorem d_m_licence_46 : decode prog_7_method_9_code 46 = .ok (.iload 5, 2) := by decide +kernel
theorem d_m_licence_48 : decode prog_7_method_9_code 48 = .ok (.iload 4, 2) := by decide +kernel
theorem d_m_licence_50 : decode prog_7_method_9_code 50 = .ok (.ldc 106, 2) := by decide +kernel
theorem d_m_licence_52 : decode prog_7_method_9_code 52 = .ok (.invokestatic 99, 3) := by decide +kernel
theorem d_m_licence_55 : decode prog_7_method_9_code 55 = .ok (.ifCond .ne 6, 3) := by decide +kernel
theorem d_m_licence_58 : decode prog_7_method_9_code 58 = .ok (.bipush (-2), 2) := by decide +kernel
theorem d_m_licence_60 : decode prog_7_method_9_code 60 = .ok (.ireturn, 1) := by decide +kernel
theorem d_m_licence_61 : decode prog_7_method_9_code 61 = .ok (.aload_n 0, 1) := by decide +kernel
theorem d_m_licence_62 : decode prog_7_method_9_code 62 = .ok (.getfield 114, 3) := by decide +kernel
theorem d_m_licence_65 : decode prog_7_method_9_code 65 = .ok (.bipush 50, 2) := by decide +kernel
theorem d_m_licence_67 : decode prog_7_method_9_code 67 = .ok (.if_icmp .ne 6, 3) := by decide +kernel
theorem d_m_licence_70 : decode prog_7_method_9_code 70 = .ok (.bipush (-4), 2) := by decide +kernel
theorem d_m_licence_72 : decode prog_7_method_9_code 72 = .ok (.ireturn, 1) := by decide +kernel
theorem d_m_licence_73 : decode prog_7_method_9_code 73 = .ok (.aload_n 0, 1) := by decide +kernel
theorem d_m_licence_74 : decode prog_7_method_9_code 74 = .ok (.getfield 41, 3) := by decide +kernel
theorem d_m_licence_77 : decode prog_7_method_9_code 77 = .ok (.aload_n 0, 1) := by decide +kernel
theorem d_m_licence_78 : decode prog_7_method_9_code 78 = .ok (.getfield 114, 3) := by decide +kernel
theorem d_m_licence_81 : decode prog_7_method_9_code 81 = .ok (.iload_n 1, 1) := by decide +kernel
theorem d_m_licence_82 : decode prog_7_method_9_code 82 = .ok (.iastore, 1) := by decide +kernel
theorem d_m_licence_83 : decode prog_7_method_9_code 83 = .ok (.aload_n 0, 1) := by decide +kernel
theorem d_m_licence_84 : decode prog_7_method_9_code 84 = .ok (.getfield 44, 3) := by decide +kernel
theorem d_m_licence_87 : decode prog_7_method_9_code 87 = .ok (.aload_n 0, 1) := by decide +kernel
theorem d_m_licence_88 : decode prog_7_method_9_code 88 = .ok (.getfield 114, 3) := by decide +kernel
theorem d_m_licence_91 : decode prog_7_method_9_code 91 = .ok (.iload_n 2, 1) := by decide +kernel
theorem d_m_licence_92 : decode prog_7_method_9_code 92 = .ok (.iastore, 1) := by decide +kernel
theorem d_m_licence_93 : decode prog_7_method_9_code 93 = .ok (.aload_n 0, 1) := by decide +kernel
theorem d_m_licence_94 : decode prog_7_method_9_code 94 = .ok (.getfield 47, 3) := by decide +kernel
theorem d_m_licence_97 : decode prog_7_method_9_code 97 = .ok (.aload_n 0, 1) := by decide +kernel
theorem d_m_licence_98 : decode prog_7_method_9_code 98 = .ok (.getfield 114, 3) := by decide +kernel
theorem d_m_licence_101 : decode prog_7_method_9_code 101 = .ok (.iload_n 3, 1) := by decide +kernel
theorem d_m_licence_102 : decode prog_7_method_9_code 102 = .ok (.iastore, 1) := by decide +kernel
theorem d_m_licence_103 : decode prog_7_method_9_code 103 = .ok (.aload_n 0, 1) := by decide +kernel
theorem d_m_licence_104 : decode prog_7_method_9_code 104 = .ok (.getfield 50, 3) := by decide +kernel
theorem d_m_licence_107 : decode prog_7_method_9_code 107 = .ok (.aload_n 0, 1) := by decide +kernel
theorem d_m_licence_108 : decode prog_7_method_9_code 108 = .ok (.getfield 114, 3) := by decide +kernel
theorem d_m_licence_111 : decode prog_7_method_9_code 111 = .ok (.iload 4, 2) := by decide +kernel
theorem d_m_licence_113 : decode prog_7_method_9_code 113 = .ok (.iastore, 1) := by decide +kernel
theorem d_m_licence_114 : decode prog_7_method_9_code 114 = .ok (.aload_n 0, 1) := by decide +kernel
theorem d_m_licence_115 : decode prog_7_method_9_code 115 = .ok (.getfield 53, 3) := by decide +kernel
theorem d_m_licence_118 : decode prog_7_method_9_code 118 = .ok (.aload_n 0, 1) := by decide +kernel
theorem d_m_licence_119 : decode prog_7_method_9_code 119 = .ok (.getfield 114, 3) := by decide +kernel
theorem d_m_licence_122 : decode prog_7_method_9_code 122 = .ok (.iload 5, 2) := by decide +kernel
theorem d_m_licence_124 : decode prog_7_method_9_code 124 = .ok (.iastore, 1) := by decide +kernel
theorem d_m_licence_125 : decode prog_7_method_9_code 125 = .ok (.aload_n 0, 1) := by decide +kernel
theorem d_m_licence_126 : decode prog_7_method_9_code 126 = .ok (.dup, 1) := by decide +kernel
theorem d_m_licence_127 : decode prog_7_method_9_code 127 = .ok (.getfield 114, 3) := by decide +kernel
theorem d_m_licence_130 : decode prog_7_method_9_code 130 = .ok (.iconst 1, 1) := by decide +kernel
theorem d_m_licence_131 : decode prog_7_method_9_code 131 = .ok (.iadd, 1) := by decide +kernel
theorem d_m_licence_132 : decode prog_7_method_9_code 132 = .ok (.putfield 114, 3) := by decide +kernel
theorem d_m_licence_135 : decode prog_7_method_9_code 135 = .ok (.aload_n 0, 1) := by decide +kernel
theorem d_m_licence_136 : decode prog_7_method_9_code 136 = .ok (.getfield 114, 3) := by decide +kernel
theorem d_m_licence_139 : decode prog_7_method_9_code 139 = .ok (.iconst 1, 1) := by decide +kernel
theorem d_m_licence_140 : decode prog_7_method_9_code 140 = .ok (.isub, 1) := by decide +kernel
theorem d_m_licence_141 : decode prog_7_method_9_code 141 = .ok (.ireturn, 1) := by decide +kernel
theorem d_m_licenceFor_0 : decode prog_7_method_13_code 0 = .ok (.iconst 0, 1) := by decide +kernel
theorem d_m_licenceFor_1 : decode prog_7_method_13_code 1 = .ok (.istore 4, 2) := by decide +kernel
theorem d_m_licenceFor_3 : decode prog_7_method_13_code 3 = .ok (.iload 4, 2) := by decide +kernel
theorem d_m_licenceFor_5 : decode prog_7_method_13_code 5 = .ok (.aload_n 0, 1) := by decide +kernel
theorem d_m_licenceFor_6 : decode prog_7_method_13_code 6 = .ok (.getfield 114, 3) := by decide +kernel
theorem d_m_licenceFor_9 : decode prog_7_method_13_code 9 = .ok (.if_icmp .ge 65, 3) := by decide +kernel
theorem d_m_licenceFor_12 : decode prog_7_method_13_code 12 = .ok (.aload_n 0, 1) := by decide +kernel
theorem d_m_licenceFor_13 : decode prog_7_method_13_code 13 = .ok (.getfield 41, 3) := by decide +kernel
theorem d_m_licenceFor_16 : decode prog_7_method_13_code 16 = .ok (.iload 4, 2) := by decide +kernel
theorem d_m_licenceFor_18 : decode prog_7_method_13_code 18 = .ok (.iaload, 1) := by decide +kernel
theorem d_m_licenceFor_19 : decode prog_7_method_13_code 19 = .ok (.iload_n 1, 1) := by decide +kernel
theorem d_m_licenceFor_20 : decode prog_7_method_13_code 20 = .ok (.if_icmp .ne 48, 3) := by decide +kernel
theorem d_m_licenceFor_23 : decode prog_7_method_13_code 23 = .ok (.aload_n 0, 1) := by decide +kernel
theorem d_m_licenceFor_24 : decode prog_7_method_13_code 24 = .ok (.getfield 44, 3) := by decide +kernel
theorem d_m_licenceFor_27 : decode prog_7_method_13_code 27 = .ok (.iload 4, 2) := by decide +kernel
theorem d_m_licenceFor_29 : decode prog_7_method_13_code 29 = .ok (.iaload, 1) := by decide +kernel
theorem d_m_licenceFor_30 : decode prog_7_method_13_code 30 = .ok (.iload_n 2, 1) := by decide +kernel
theorem d_m_licenceFor_31 : decode prog_7_method_13_code 31 = .ok (.if_icmp .ne 37, 3) := by decide +kernel
theorem d_m_licenceFor_34 : decode prog_7_method_13_code 34 = .ok (.iload_n 3, 1) := by decide +kernel
theorem d_m_licenceFor_35 : decode prog_7_method_13_code 35 = .ok (.aload_n 0, 1) := by decide +kernel
theorem d_m_licenceFor_36 : decode prog_7_method_13_code 36 = .ok (.getfield 50, 3) := by decide +kernel
theorem d_m_licenceFor_39 : decode prog_7_method_13_code 39 = .ok (.iload 4, 2) := by decide +kernel
theorem d_m_licenceFor_41 : decode prog_7_method_13_code 41 = .ok (.iaload, 1) := by decide +kernel
theorem d_m_licenceFor_42 : decode prog_7_method_13_code 42 = .ok (.aload_n 0, 1) := by decide +kernel
theorem d_m_licenceFor_43 : decode prog_7_method_13_code 43 = .ok (.getfield 53, 3) := by decide +kernel
theorem d_m_licenceFor_46 : decode prog_7_method_13_code 46 = .ok (.iload 4, 2) := by decide +kernel
theorem d_m_licenceFor_48 : decode prog_7_method_13_code 48 = .ok (.iaload, 1) := by decide +kernel
theorem d_m_licenceFor_49 : decode prog_7_method_13_code 49 = .ok (.invokestatic 99, 3) := by decide +kernel
theorem d_m_licenceFor_52 : decode prog_7_method_13_code 52 = .ok (.ifCond .eq 16, 3) := by decide +kernel
theorem d_m_licenceFor_55 : decode prog_7_method_13_code 55 = .ok (.aload_n 0, 1) := by decide +kernel
theorem d_m_licenceFor_56 : decode prog_7_method_13_code 56 = .ok (.getfield 47, 3) := by decide +kernel
theorem d_m_licenceFor_59 : decode prog_7_method_13_code 59 = .ok (.iload 4, 2) := by decide +kernel
theorem d_m_licenceFor_61 : decode prog_7_method_13_code 61 = .ok (.iaload, 1) := by decide +kernel
theorem d_m_licenceFor_62 : decode prog_7_method_13_code 62 = .ok (.ifCond .le 6, 3) := by decide +kernel
theorem d_m_licenceFor_65 : decode prog_7_method_13_code 65 = .ok (.iload 4, 2) := by decide +kernel
theorem d_m_licenceFor_67 : decode prog_7_method_13_code 67 = .ok (.ireturn, 1) := by decide +kernel
theorem d_m_licenceFor_68 : decode prog_7_method_13_code 68 = .ok (.iinc 4 1, 3) := by decide +kernel
theorem d_m_licenceFor_71 : decode prog_7_method_13_code 71 = .ok (.goto (-68), 3) := by decide +kernel
theorem d_m_licenceFor_74 : decode prog_7_method_13_code 74 = .ok (.iconst (-1), 1) := by decide +kernel
theorem d_m_licenceFor_75 : decode prog_7_method_13_code 75 = .ok (.ireturn, 1) := by decide +kernel
theorem d_m_limit_0 : decode prog_7_method_8_code 0 = .ok (.aload_n 0, 1) := by decide +kernel
theorem d_m_limit_1 : decode prog_7_method_8_code 1 = .ok (.iconst 0, 1) := by decide +kernel
theorem d_m_limit_2 : decode prog_7_method_8_code 2 = .ok (.putfield 93, 3) := by decide +kernel
theorem d_m_limit_5 : decode prog_7_method_8_code 5 = .ok (.aload_n 0, 1) := by decide +kernel
theorem d_m_limit_6 : decode prog_7_method_8_code 6 = .ok (.iload_n 1, 1) := by decide +kernel
theorem d_m_limit_7 : decode prog_7_method_8_code 7 = .ok (.invokevirtual 107, 3) := by decide +kernel
theorem d_m_limit_10 : decode prog_7_method_8_code 10 = .ok (.ifCond .ne 5, 3) := by decide +kernel
theorem d_m_limit_13 : decode prog_7_method_8_code 13 = .ok (.iconst (-1), 1) := by decide +kernel
theorem d_m_limit_14 : decode prog_7_method_8_code 14 = .ok (.ireturn, 1) := by decide +kernel
theorem d_m_limit_15 : decode prog_7_method_8_code 15 = .ok (.iload_n 2, 1) := by decide +kernel
theorem d_m_limit_16 : decode prog_7_method_8_code 16 = .ok (.iconst 0, 1) := by decide +kernel
theorem d_m_limit_17 : decode prog_7_method_8_code 17 = .ok (.iconst 1, 1) := by decide +kernel
theorem d_m_limit_18 : decode prog_7_method_8_code 18 = .ok (.invokestatic 99, 3) := by decide +kernel
theorem d_m_limit_21 : decode prog_7_method_8_code 21 = .ok (.ifCond .eq 26, 3) := by decide +kernel
theorem d_m_limit_24 : decode prog_7_method_8_code 24 = .ok (.iload_n 3, 1) := by decide +kernel
theorem d_m_limit_25 : decode prog_7_method_8_code 25 = .ok (.iconst 1, 1) := by decide +kernel
theorem d_m_limit_26 : decode prog_7_method_8_code 26 = .ok (.sipush 5000, 3) := by decide +kernel
theorem d_m_limit_29 : decode prog_7_method_8_code 29 = .ok (.invokestatic 99, 3) := by decide +kernel
theorem d_m_limit_32 : decode prog_7_method_8_code 32 = .ok (.ifCond .eq 15, 3) := by decide +kernel
theorem d_m_limit_35 : decode prog_7_method_8_code 35 = .ok (.iload 4, 2) := by decide +kernel
theorem d_m_limit_37 : decode prog_7_method_8_code 37 = .ok (.iconst 0, 1) := by decide +kernel
theorem d_m_limit_38 : decode prog_7_method_8_code 38 = .ok (.sipush 1000, 3) := by decide +kernel
theorem d_m_limit_41 : decode prog_7_method_8_code 41 = .ok (.invokestatic 99, 3) := by decide +kernel
theorem d_m_limit_44 : decode prog_7_method_8_code 44 = .ok (.ifCond .ne 6, 3) := by decide +kernel
theorem d_m_limit_47 : decode prog_7_method_8_code 47 = .ok (.bipush (-2), 2) := by decide +kernel
theorem d_m_limit_49 : decode prog_7_method_8_code 49 = .ok (.ireturn, 1) := by decide +kernel
theorem d_m_limit_50 : decode prog_7_method_8_code 50 = .ok (.aload_n 0, 1) := by decide +kernel
theorem d_m_limit_51 : decode prog_7_method_8_code 51 = .ok (.getfield 111, 3) := by decide +kernel
theorem d_m_limit_54 : decode prog_7_method_8_code 54 = .ok (.bipush 100, 2) := by decide +kernel
theorem d_m_limit_56 : decode prog_7_method_8_code 56 = .ok (.if_icmp .ne 6, 3) := by decide +kernel
theorem d_m_limit_59 : decode prog_7_method_8_code 59 = .ok (.bipush (-4), 2) := by decide +kernel
theorem d_m_limit_61 : decode prog_7_method_8_code 61 = .ok (.ireturn, 1) := by decide +kernel
theorem d_m_limit_62 : decode prog_7_method_8_code 62 = .ok (.aload_n 0, 1) := by decide +kernel
theorem d_m_limit_63 : decode prog_7_method_8_code 63 = .ok (.getfield 29, 3) := by decide +kernel
theorem d_m_limit_66 : decode prog_7_method_8_code 66 = .ok (.aload_n 0, 1) := by decide +kernel
theorem d_m_limit_67 : decode prog_7_method_8_code 67 = .ok (.getfield 111, 3) := by decide +kernel
theorem d_m_limit_70 : decode prog_7_method_8_code 70 = .ok (.iload_n 1, 1) := by decide +kernel
theorem d_m_limit_71 : decode prog_7_method_8_code 71 = .ok (.iastore, 1) := by decide +kernel
theorem d_m_limit_72 : decode prog_7_method_8_code 72 = .ok (.aload_n 0, 1) := by decide +kernel
theorem d_m_limit_73 : decode prog_7_method_8_code 73 = .ok (.getfield 32, 3) := by decide +kernel
theorem d_m_limit_76 : decode prog_7_method_8_code 76 = .ok (.aload_n 0, 1) := by decide +kernel
theorem d_m_limit_77 : decode prog_7_method_8_code 77 = .ok (.getfield 111, 3) := by decide +kernel
theorem d_m_limit_80 : decode prog_7_method_8_code 80 = .ok (.iload_n 2, 1) := by decide +kernel
theorem d_m_limit_81 : decode prog_7_method_8_code 81 = .ok (.iastore, 1) := by decide +kernel
theorem d_m_limit_82 : decode prog_7_method_8_code 82 = .ok (.aload_n 0, 1) := by decide +kernel
theorem d_m_limit_83 : decode prog_7_method_8_code 83 = .ok (.getfield 35, 3) := by decide +kernel
theorem d_m_limit_86 : decode prog_7_method_8_code 86 = .ok (.aload_n 0, 1) := by decide +kernel
theorem d_m_limit_87 : decode prog_7_method_8_code 87 = .ok (.getfield 111, 3) := by decide +kernel
theorem d_m_limit_90 : decode prog_7_method_8_code 90 = .ok (.iload_n 3, 1) := by decide +kernel
theorem d_m_limit_91 : decode prog_7_method_8_code 91 = .ok (.iastore, 1) := by decide +kernel
theorem d_m_limit_92 : decode prog_7_method_8_code 92 = .ok (.aload_n 0, 1) := by decide +kernel
theorem d_m_limit_93 : decode prog_7_method_8_code 93 = .ok (.getfield 38, 3) := by decide +kernel
theorem d_m_limit_96 : decode prog_7_method_8_code 96 = .ok (.aload_n 0, 1) := by decide +kernel
theorem d_m_limit_97 : decode prog_7_method_8_code 97 = .ok (.getfield 111, 3) := by decide +kernel
theorem d_m_limit_100 : decode prog_7_method_8_code 100 = .ok (.iload 4, 2) := by decide +kernel
theorem d_m_limit_102 : decode prog_7_method_8_code 102 = .ok (.iastore, 1) := by decide +kernel
theorem d_m_limit_103 : decode prog_7_method_8_code 103 = .ok (.aload_n 0, 1) := by decide +kernel
theorem d_m_limit_104 : decode prog_7_method_8_code 104 = .ok (.dup, 1) := by decide +kernel
theorem d_m_limit_105 : decode prog_7_method_8_code 105 = .ok (.getfield 111, 3) := by decide +kernel
theorem d_m_limit_108 : decode prog_7_method_8_code 108 = .ok (.iconst 1, 1) := by decide +kernel
theorem d_m_limit_109 : decode prog_7_method_8_code 109 = .ok (.iadd, 1) := by decide +kernel
theorem d_m_limit_110 : decode prog_7_method_8_code 110 = .ok (.putfield 111, 3) := by decide +kernel
theorem d_m_limit_113 : decode prog_7_method_8_code 113 = .ok (.aload_n 0, 1) := by decide +kernel
theorem d_m_limit_114 : decode prog_7_method_8_code 114 = .ok (.getfield 111, 3) := by decide +kernel
theorem d_m_limit_117 : decode prog_7_method_8_code 117 = .ok (.iconst 1, 1) := by decide +kernel
theorem d_m_limit_118 : decode prog_7_method_8_code 118 = .ok (.isub, 1) := by decide +kernel
theorem d_m_limit_119 : decode prog_7_method_8_code 119 = .ok (.ireturn, 1) := by decide +kernel
theorem d_m_open_0 : decode prog_7_method_7_code 0 = .ok (.aload_n 0, 1) := by decide +kernel
theorem d_m_open_1 : decode prog_7_method_7_code 1 = .ok (.iconst 0, 1) := by decide +kernel
theorem d_m_open_2 : decode prog_7_method_7_code 2 = .ok (.putfield 93, 3) := by decide +kernel
theorem d_m_open_5 : decode prog_7_method_7_code 5 = .ok (.aload_n 0, 1) := by decide +kernel
theorem d_m_open_6 : decode prog_7_method_7_code 6 = .ok (.iload_n 1, 1) := by decide +kernel
theorem d_m_open_7 : decode prog_7_method_7_code 7 = .ok (.invokevirtual 107, 3) := by decide +kernel
theorem d_m_open_10 : decode prog_7_method_7_code 10 = .ok (.ifCond .ne 5, 3) := by decide +kernel
theorem d_m_open_13 : decode prog_7_method_7_code 13 = .ok (.iconst (-1), 1) := by decide +kernel
theorem d_m_open_14 : decode prog_7_method_7_code 14 = .ok (.ireturn, 1) := by decide +kernel
theorem d_m_open_15 : decode prog_7_method_7_code 15 = .ok (.aload_n 0, 1) := by decide +kernel
theorem d_m_open_16 : decode prog_7_method_7_code 16 = .ok (.getfield 13, 3) := by decide +kernel
theorem d_m_open_19 : decode prog_7_method_7_code 19 = .ok (.iload_n 1, 1) := by decide +kernel
theorem d_m_open_20 : decode prog_7_method_7_code 20 = .ok (.iload_n 2, 1) := by decide +kernel
theorem d_m_open_21 : decode prog_7_method_7_code 21 = .ok (.bastore, 1) := by decide +kernel
theorem d_m_open_22 : decode prog_7_method_7_code 22 = .ok (.iconst 1, 1) := by decide +kernel
theorem d_m_open_23 : decode prog_7_method_7_code 23 = .ok (.ireturn, 1) := by decide +kernel
theorem d_m_past_0 : decode prog_7_method_27_code 0 = .ok (.iload_n 2, 1) := by decide +kernel
theorem d_m_past_1 : decode prog_7_method_27_code 1 = .ok (.istore_n 3, 1) := by decide +kernel
theorem d_m_past_2 : decode prog_7_method_27_code 2 = .ok (.iconst 0, 1) := by decide +kernel
theorem d_m_past_3 : decode prog_7_method_27_code 3 = .ok (.istore 4, 2) := by decide +kernel
theorem d_m_past_5 : decode prog_7_method_27_code 5 = .ok (.iload 4, 2) := by decide +kernel
theorem d_m_past_7 : decode prog_7_method_27_code 7 = .ok (.aload_n 0, 1) := by decide +kernel
theorem d_m_past_8 : decode prog_7_method_27_code 8 = .ok (.getfield 117, 3) := by decide +kernel
theorem d_m_past_11 : decode prog_7_method_27_code 11 = .ok (.if_icmp .ge 58, 3) := by decide +kernel
theorem d_m_past_14 : decode prog_7_method_27_code 14 = .ok (.aload_n 0, 1) := by decide +kernel
theorem d_m_past_15 : decode prog_7_method_27_code 15 = .ok (.getfield 71, 3) := by decide +kernel
theorem d_m_past_18 : decode prog_7_method_27_code 18 = .ok (.iload 4, 2) := by decide +kernel
theorem d_m_past_20 : decode prog_7_method_27_code 20 = .ok (.iaload, 1) := by decide +kernel
theorem d_m_past_21 : decode prog_7_method_27_code 21 = .ok (.ifCond .eq 42, 3) := by decide +kernel
theorem d_m_past_24 : decode prog_7_method_27_code 24 = .ok (.aload_n 0, 1) := by decide +kernel
theorem d_m_past_25 : decode prog_7_method_27_code 25 = .ok (.getfield 86, 3) := by decide +kernel
theorem d_m_past_28 : decode prog_7_method_27_code 28 = .ok (.iload 4, 2) := by decide +kernel
theorem d_m_past_30 : decode prog_7_method_27_code 30 = .ok (.iaload, 1) := by decide +kernel
theorem d_m_past_31 : decode prog_7_method_27_code 31 = .ok (.ifCond .ge 32, 3) := by decide +kernel
theorem d_m_past_34 : decode prog_7_method_27_code 34 = .ok (.aload_n 0, 1) := by decide +kernel
theorem d_m_past_35 : decode prog_7_method_27_code 35 = .ok (.getfield 80, 3) := by decide +kernel
theorem d_m_past_38 : decode prog_7_method_27_code 38 = .ok (.iload 4, 2) := by decide +kernel
theorem d_m_past_40 : decode prog_7_method_27_code 40 = .ok (.iaload, 1) := by decide +kernel
theorem d_m_past_41 : decode prog_7_method_27_code 41 = .ok (.iload_n 1, 1) := by decide +kernel
theorem d_m_past_42 : decode prog_7_method_27_code 42 = .ok (.if_icmp .le 6, 3) := by decide +kernel
theorem d_m_past_45 : decode prog_7_method_27_code 45 = .ok (.goto 18, 3) := by decide +kernel
theorem d_m_past_48 : decode prog_7_method_27_code 48 = .ok (.iload_n 3, 1) := by decide +kernel
theorem d_m_past_49 : decode prog_7_method_27_code 49 = .ok (.ifCond .ne 11, 3) := by decide +kernel
theorem d_m_past_52 : decode prog_7_method_27_code 52 = .ok (.aload_n 0, 1) := by decide +kernel
theorem d_m_past_53 : decode prog_7_method_27_code 53 = .ok (.iconst 0, 1) := by decide +kernel
theorem d_m_past_54 : decode prog_7_method_27_code 54 = .ok (.putfield 93, 3) := by decide +kernel
theorem d_m_past_57 : decode prog_7_method_27_code 57 = .ok (.iload 4, 2) := by decide +kernel
theorem d_m_past_59 : decode prog_7_method_27_code 59 = .ok (.ireturn, 1) := by decide +kernel
theorem d_m_past_60 : decode prog_7_method_27_code 60 = .ok (.iinc 3 (-1), 3) := by decide +kernel
theorem d_m_past_63 : decode prog_7_method_27_code 63 = .ok (.iinc 4 1, 3) := by decide +kernel
theorem d_m_past_66 : decode prog_7_method_27_code 66 = .ok (.goto (-61), 3) := by decide +kernel
theorem d_m_past_69 : decode prog_7_method_27_code 69 = .ok (.aload_n 0, 1) := by decide +kernel
theorem d_m_past_70 : decode prog_7_method_27_code 70 = .ok (.iconst 1, 1) := by decide +kernel
theorem d_m_past_71 : decode prog_7_method_27_code 71 = .ok (.putfield 93, 3) := by decide +kernel
theorem d_m_past_74 : decode prog_7_method_27_code 74 = .ok (.iconst 0, 1) := by decide +kernel
theorem d_m_past_75 : decode prog_7_method_27_code 75 = .ok (.ireturn, 1) := by decide +kernel
theorem d_m_renew_0 : decode prog_7_method_20_code 0 = .ok (.aload_n 0, 1) := by decide +kernel
theorem d_m_renew_1 : decode prog_7_method_20_code 1 = .ok (.iconst 0, 1) := by decide +kernel
theorem d_m_renew_2 : decode prog_7_method_20_code 2 = .ok (.putfield 93, 3) := by decide +kernel
theorem d_m_renew_5 : decode prog_7_method_20_code 5 = .ok (.iload_n 1, 1) := by decide +kernel
theorem d_m_renew_6 : decode prog_7_method_20_code 6 = .ok (.iconst 0, 1) := by decide +kernel
theorem d_m_renew_7 : decode prog_7_method_20_code 7 = .ok (.aload_n 0, 1) := by decide +kernel
theorem d_m_renew_8 : decode prog_7_method_20_code 8 = .ok (.getfield 117, 3) := by decide +kernel
theorem d_m_renew_11 : decode prog_7_method_20_code 11 = .ok (.iconst 1, 1) := by decide +kernel
theorem d_m_renew_12 : decode prog_7_method_20_code 12 = .ok (.isub, 1) := by decide +kernel
theorem d_m_renew_13 : decode prog_7_method_20_code 13 = .ok (.invokestatic 99, 3) := by decide +kernel
theorem d_m_renew_16 : decode prog_7_method_20_code 16 = .ok (.ifCond .ne 5, 3) := by decide +kernel
theorem d_m_renew_19 : decode prog_7_method_20_code 19 = .ok (.iconst (-1), 1) := by decide +kernel
theorem d_m_renew_20 : decode prog_7_method_20_code 20 = .ok (.ireturn, 1) := by decide +kernel
theorem d_m_renew_21 : decode prog_7_method_20_code 21 = .ok (.aload_n 0, 1) := by decide +kernel
theorem d_m_renew_22 : decode prog_7_method_20_code 22 = .ok (.iload_n 2, 1) := by decide +kernel
theorem d_m_renew_23 : decode prog_7_method_20_code 23 = .ok (.invokevirtual 133, 3) := by decide +kernel
theorem d_m_renew_26 : decode prog_7_method_20_code 26 = .ok (.ifCond .ne 6, 3) := by decide +kernel
theorem d_m_renew_29 : decode prog_7_method_20_code 29 = .ok (.bipush (-2), 2) := by decide +kernel
theorem d_m_renew_31 : decode prog_7_method_20_code 31 = .ok (.ireturn, 1) := by decide +kernel
theorem d_m_renew_32 : decode prog_7_method_20_code 32 = .ok (.aload_n 0, 1) := by decide +kernel
theorem d_m_renew_33 : decode prog_7_method_20_code 33 = .ok (.getfield 71, 3) := by decide +kernel
theorem d_m_renew_36 : decode prog_7_method_20_code 36 = .ok (.iload_n 1, 1) := by decide +kernel
theorem d_m_renew_37 : decode prog_7_method_20_code 37 = .ok (.iaload, 1) := by decide +kernel
theorem d_m_renew_38 : decode prog_7_method_20_code 38 = .ok (.ifCond .eq 32, 3) := by decide +kernel
theorem d_m_renew_41 : decode prog_7_method_20_code 41 = .ok (.aload_n 0, 1) := by decide +kernel
theorem d_m_renew_42 : decode prog_7_method_20_code 42 = .ok (.getfield 83, 3) := by decide +kernel
theorem d_m_renew_45 : decode prog_7_method_20_code 45 = .ok (.iload_n 1, 1) := by decide +kernel
theorem d_m_renew_46 : decode prog_7_method_20_code 46 = .ok (.iaload, 1) := by decide +kernel
theorem d_m_renew_47 : decode prog_7_method_20_code 47 = .ok (.iconst 2, 1) := by decide +kernel
theorem d_m_renew_48 : decode prog_7_method_20_code 48 = .ok (.if_icmp .eq 22, 3) := by decide +kernel
theorem d_m_renew_51 : decode prog_7_method_20_code 51 = .ok (.aload_n 0, 1) := by decide +kernel
theorem d_m_renew_52 : decode prog_7_method_20_code 52 = .ok (.getfield 86, 3) := by decide +kernel
theorem d_m_renew_55 : decode prog_7_method_20_code 55 = .ok (.iload_n 1, 1) := by decide +kernel
theorem d_m_renew_56 : decode prog_7_method_20_code 56 = .ok (.iaload, 1) := by decide +kernel
theorem d_m_renew_57 : decode prog_7_method_20_code 57 = .ok (.ifCond .ge 13, 3) := by decide +kernel
theorem d_m_renew_60 : decode prog_7_method_20_code 60 = .ok (.iload_n 2, 1) := by decide +kernel
theorem d_m_renew_61 : decode prog_7_method_20_code 61 = .ok (.aload_n 0, 1) := by decide +kernel
theorem d_m_renew_62 : decode prog_7_method_20_code 62 = .ok (.getfield 80, 3) := by decide +kernel
theorem d_m_renew_65 : decode prog_7_method_20_code 65 = .ok (.iload_n 1, 1) := by decide +kernel
theorem d_m_renew_66 : decode prog_7_method_20_code 66 = .ok (.iaload, 1) := by decide +kernel
theorem d_m_renew_67 : decode prog_7_method_20_code 67 = .ok (.if_icmp .lt 6, 3) := by decide +kernel
theorem d_m_renew_70 : decode prog_7_method_20_code 70 = .ok (.bipush (-3), 2) := by decide +kernel
theorem d_m_renew_72 : decode prog_7_method_20_code 72 = .ok (.ireturn, 1) := by decide +kernel
theorem d_m_renew_73 : decode prog_7_method_20_code 73 = .ok (.aload_n 0, 1) := by decide +kernel
theorem d_m_renew_74 : decode prog_7_method_20_code 74 = .ok (.iload_n 2, 1) := by decide +kernel
theorem d_m_renew_75 : decode prog_7_method_20_code 75 = .ok (.putfield 103, 3) := by decide +kernel
theorem d_m_renew_78 : decode prog_7_method_20_code 78 = .ok (.aload_n 0, 1) := by decide +kernel
theorem d_m_renew_79 : decode prog_7_method_20_code 79 = .ok (.getfield 83, 3) := by decide +kernel
theorem d_m_renew_82 : decode prog_7_method_20_code 82 = .ok (.iload_n 1, 1) := by decide +kernel
theorem d_m_renew_83 : decode prog_7_method_20_code 83 = .ok (.dup2, 1) := by decide +kernel
theorem d_m_renew_84 : decode prog_7_method_20_code 84 = .ok (.iaload, 1) := by decide +kernel
theorem d_m_renew_85 : decode prog_7_method_20_code 85 = .ok (.iconst 1, 1) := by decide +kernel
theorem d_m_renew_86 : decode prog_7_method_20_code 86 = .ok (.iadd, 1) := by decide +kernel
theorem d_m_renew_87 : decode prog_7_method_20_code 87 = .ok (.iastore, 1) := by decide +kernel
theorem d_m_renew_88 : decode prog_7_method_20_code 88 = .ok (.aload_n 0, 1) := by decide +kernel
theorem d_m_renew_89 : decode prog_7_method_20_code 89 = .ok (.getfield 80, 3) := by decide +kernel
theorem d_m_renew_92 : decode prog_7_method_20_code 92 = .ok (.iload_n 1, 1) := by decide +kernel
theorem d_m_renew_93 : decode prog_7_method_20_code 93 = .ok (.dup2, 1) := by decide +kernel
theorem d_m_renew_94 : decode prog_7_method_20_code 94 = .ok (.iaload, 1) := by decide +kernel
theorem d_m_renew_95 : decode prog_7_method_20_code 95 = .ok (.ldc 139, 2) := by decide +kernel
theorem d_m_renew_97 : decode prog_7_method_20_code 97 = .ok (.iadd, 1) := by decide +kernel
theorem d_m_renew_98 : decode prog_7_method_20_code 98 = .ok (.iastore, 1) := by decide +kernel
theorem d_m_renew_99 : decode prog_7_method_20_code 99 = .ok (.aload_n 0, 1) := by decide +kernel
theorem d_m_renew_100 : decode prog_7_method_20_code 100 = .ok (.getfield 80, 3) := by decide +kernel
theorem d_m_renew_103 : decode prog_7_method_20_code 103 = .ok (.iload_n 1, 1) := by decide +kernel
theorem d_m_renew_104 : decode prog_7_method_20_code 104 = .ok (.iaload, 1) := by decide +kernel
theorem d_m_renew_105 : decode prog_7_method_20_code 105 = .ok (.ireturn, 1) := by decide +kernel
theorem d_m_request_0 : decode prog_7_method_24_code 0 = .ok (.aload_n 0, 1) := by decide +kernel
theorem d_m_request_1 : decode prog_7_method_24_code 1 = .ok (.iload_n 1, 1) := by decide +kernel
theorem d_m_request_2 : decode prog_7_method_24_code 2 = .ok (.iconst 0, 1) := by decide +kernel
theorem d_m_request_3 : decode prog_7_method_24_code 3 = .ok (.aload_n 0, 1) := by decide +kernel
theorem d_m_request_4 : decode prog_7_method_24_code 4 = .ok (.getfield 117, 3) := by decide +kernel
theorem d_m_request_7 : decode prog_7_method_24_code 7 = .ok (.iconst 1, 1) := by decide +kernel
theorem d_m_request_8 : decode prog_7_method_24_code 8 = .ok (.isub, 1) := by decide +kernel
theorem d_m_request_9 : decode prog_7_method_24_code 9 = .ok (.invokestatic 99, 3) := by decide +kernel
theorem d_m_request_12 : decode prog_7_method_24_code 12 = .ok (.ifCond .eq 13, 3) := by decide +kernel
theorem d_m_request_15 : decode prog_7_method_24_code 15 = .ok (.iload_n 2, 1) := by decide +kernel
theorem d_m_request_16 : decode prog_7_method_24_code 16 = .ok (.iconst 0, 1) := by decide +kernel
theorem d_m_request_17 : decode prog_7_method_24_code 17 = .ok (.bipush 10, 2) := by decide +kernel
theorem d_m_request_19 : decode prog_7_method_24_code 19 = .ok (.invokestatic 99, 3) := by decide +kernel
theorem d_m_request_22 : decode prog_7_method_24_code 22 = .ok (.ifCond .ne 7, 3) := by decide +kernel
theorem d_m_request_25 : decode prog_7_method_24_code 25 = .ok (.iconst 1, 1) := by decide +kernel
theorem d_m_request_26 : decode prog_7_method_24_code 26 = .ok (.goto 4, 3) := by decide +kernel
theorem d_m_request_29 : decode prog_7_method_24_code 29 = .ok (.iconst 0, 1) := by decide +kernel
theorem d_m_request_30 : decode prog_7_method_24_code 30 = .ok (.putfield 93, 3) := by decide +kernel
theorem d_m_request_33 : decode prog_7_method_24_code 33 = .ok (.aload_n 0, 1) := by decide +kernel
theorem d_m_request_34 : decode prog_7_method_24_code 34 = .ok (.getfield 93, 3) := by decide +kernel
theorem d_m_request_37 : decode prog_7_method_24_code 37 = .ok (.ifCond .le 5, 3) := by decide +kernel
theorem d_m_request_40 : decode prog_7_method_24_code 40 = .ok (.iconst 0, 1) := by decide +kernel
theorem d_m_request_41 : decode prog_7_method_24_code 41 = .ok (.ireturn, 1) := by decide +kernel
theorem d_m_request_42 : decode prog_7_method_24_code 42 = .ok (.iload_n 2, 1) := by decide +kernel
theorem d_m_request_43 : decode prog_7_method_24_code 43 = .ok (.tableswitch 122 0 9 #[53, 60, 67, 74, 81, 88, 95, 102, 108, 115], 53) := by decide +kernel
theorem d_m_request_96 : decode prog_7_method_24_code 96 = .ok (.aload_n 0, 1) := by decide +kernel
theorem d_m_request_97 : decode prog_7_method_24_code 97 = .ok (.getfield 56, 3) := by decide +kernel
theorem d_m_request_100 : decode prog_7_method_24_code 100 = .ok (.iload_n 1, 1) := by decide +kernel
theorem d_m_request_101 : decode prog_7_method_24_code 101 = .ok (.iaload, 1) := by decide +kernel
theorem d_m_request_102 : decode prog_7_method_24_code 102 = .ok (.ireturn, 1) := by decide +kernel
theorem d_m_request_103 : decode prog_7_method_24_code 103 = .ok (.aload_n 0, 1) := by decide +kernel
theorem d_m_request_104 : decode prog_7_method_24_code 104 = .ok (.getfield 59, 3) := by decide +kernel
theorem d_m_request_107 : decode prog_7_method_24_code 107 = .ok (.iload_n 1, 1) := by decide +kernel
theorem d_m_request_108 : decode prog_7_method_24_code 108 = .ok (.iaload, 1) := by decide +kernel
theorem d_m_request_109 : decode prog_7_method_24_code 109 = .ok (.ireturn, 1) := by decide +kernel
theorem d_m_request_110 : decode prog_7_method_24_code 110 = .ok (.aload_n 0, 1) := by decide +kernel
theorem d_m_request_111 : decode prog_7_method_24_code 111 = .ok (.getfield 62, 3) := by decide +kernel
theorem d_m_request_114 : decode prog_7_method_24_code 114 = .ok (.iload_n 1, 1) := by decide +kernel
theorem d_m_request_115 : decode prog_7_method_24_code 115 = .ok (.iaload, 1) := by decide +kernel
theorem d_m_request_116 : decode prog_7_method_24_code 116 = .ok (.ireturn, 1) := by decide +kernel
theorem d_m_request_117 : decode prog_7_method_24_code 117 = .ok (.aload_n 0, 1) := by decide +kernel
theorem d_m_request_118 : decode prog_7_method_24_code 118 = .ok (.getfield 65, 3) := by decide +kernel
theorem d_m_request_121 : decode prog_7_method_24_code 121 = .ok (.iload_n 1, 1) := by decide +kernel
theorem d_m_request_122 : decode prog_7_method_24_code 122 = .ok (.iaload, 1) := by decide +kernel
theorem d_m_request_123 : decode prog_7_method_24_code 123 = .ok (.ireturn, 1) := by decide +kernel
theorem d_m_request_124 : decode prog_7_method_24_code 124 = .ok (.aload_n 0, 1) := by decide +kernel
theorem d_m_request_125 : decode prog_7_method_24_code 125 = .ok (.getfield 68, 3) := by decide +kernel
theorem d_m_request_128 : decode prog_7_method_24_code 128 = .ok (.iload_n 1, 1) := by decide +kernel
theorem d_m_request_129 : decode prog_7_method_24_code 129 = .ok (.iaload, 1) := by decide +kernel
theorem d_m_request_130 : decode prog_7_method_24_code 130 = .ok (.ireturn, 1) := by decide +kernel
theorem d_m_request_131 : decode prog_7_method_24_code 131 = .ok (.aload_n 0, 1) := by decide +kernel
theorem d_m_request_132 : decode prog_7_method_24_code 132 = .ok (.getfield 71, 3) := by decide +kernel
theorem d_m_request_135 : decode prog_7_method_24_code 135 = .ok (.iload_n 1, 1) := by decide +kernel
theorem d_m_request_136 : decode prog_7_method_24_code 136 = .ok (.iaload, 1) := by decide +kernel
theorem d_m_request_137 : decode prog_7_method_24_code 137 = .ok (.ireturn, 1) := by decide +kernel
theorem d_m_request_138 : decode prog_7_method_24_code 138 = .ok (.aload_n 0, 1) := by decide +kernel
theorem d_m_request_139 : decode prog_7_method_24_code 139 = .ok (.getfield 74, 3) := by decide +kernel
theorem d_m_request_142 : decode prog_7_method_24_code 142 = .ok (.iload_n 1, 1) := by decide +kernel
theorem d_m_request_143 : decode prog_7_method_24_code 143 = .ok (.iaload, 1) := by decide +kernel
theorem d_m_request_144 : decode prog_7_method_24_code 144 = .ok (.ireturn, 1) := by decide +kernel
theorem d_m_request_145 : decode prog_7_method_24_code 145 = .ok (.aload_n 0, 1) := by decide +kernel
theorem d_m_request_146 : decode prog_7_method_24_code 146 = .ok (.iload_n 1, 1) := by decide +kernel
theorem d_m_request_147 : decode prog_7_method_24_code 147 = .ok (.invokevirtual 140, 3) := by decide +kernel
theorem d_m_request_150 : decode prog_7_method_24_code 150 = .ok (.ireturn, 1) := by decide +kernel
theorem d_m_request_151 : decode prog_7_method_24_code 151 = .ok (.aload_n 0, 1) := by decide +kernel
theorem d_m_request_152 : decode prog_7_method_24_code 152 = .ok (.getfield 80, 3) := by decide +kernel
theorem d_m_request_155 : decode prog_7_method_24_code 155 = .ok (.iload_n 1, 1) := by decide +kernel
theorem d_m_request_156 : decode prog_7_method_24_code 156 = .ok (.iaload, 1) := by decide +kernel
theorem d_m_request_157 : decode prog_7_method_24_code 157 = .ok (.ireturn, 1) := by decide +kernel
theorem d_m_request_158 : decode prog_7_method_24_code 158 = .ok (.aload_n 0, 1) := by decide +kernel
theorem d_m_request_159 : decode prog_7_method_24_code 159 = .ok (.getfield 83, 3) := by decide +kernel
theorem d_m_request_162 : decode prog_7_method_24_code 162 = .ok (.iload_n 1, 1) := by decide +kernel
theorem d_m_request_163 : decode prog_7_method_24_code 163 = .ok (.iaload, 1) := by decide +kernel
theorem d_m_request_164 : decode prog_7_method_24_code 164 = .ok (.ireturn, 1) := by decide +kernel
theorem d_m_request_165 : decode prog_7_method_24_code 165 = .ok (.aload_n 0, 1) := by decide +kernel
theorem d_m_request_166 : decode prog_7_method_24_code 166 = .ok (.getfield 86, 3) := by decide +kernel
theorem d_m_request_169 : decode prog_7_method_24_code 169 = .ok (.iload_n 1, 1) := by decide +kernel
theorem d_m_request_170 : decode prog_7_method_24_code 170 = .ok (.iaload, 1) := by decide +kernel
theorem d_m_request_171 : decode prog_7_method_24_code 171 = .ok (.ireturn, 1) := by decide +kernel
theorem d_m_right_0 : decode prog_7_method_18_code 0 = .ok (.aload_n 0, 1) := by decide +kernel
theorem d_m_right_1 : decode prog_7_method_18_code 1 = .ok (.iconst 0, 1) := by decide +kernel
theorem d_m_right_2 : decode prog_7_method_18_code 2 = .ok (.putfield 93, 3) := by decide +kernel
theorem d_m_right_5 : decode prog_7_method_18_code 5 = .ok (.aload_n 0, 1) := by decide +kernel
theorem d_m_right_6 : decode prog_7_method_18_code 6 = .ok (.iload_n 1, 1) := by decide +kernel
theorem d_m_right_7 : decode prog_7_method_18_code 7 = .ok (.invokevirtual 107, 3) := by decide +kernel
theorem d_m_right_10 : decode prog_7_method_18_code 10 = .ok (.ifCond .ne 5, 3) := by decide +kernel
theorem d_m_right_13 : decode prog_7_method_18_code 13 = .ok (.iconst (-1), 1) := by decide +kernel
theorem d_m_right_14 : decode prog_7_method_18_code 14 = .ok (.ireturn, 1) := by decide +kernel
theorem d_m_right_15 : decode prog_7_method_18_code 15 = .ok (.iload_n 2, 1) := by decide +kernel
theorem d_m_right_16 : decode prog_7_method_18_code 16 = .ok (.iconst 0, 1) := by decide +kernel
theorem d_m_right_17 : decode prog_7_method_18_code 17 = .ok (.bipush 9, 2) := by decide +kernel
theorem d_m_right_19 : decode prog_7_method_18_code 19 = .ok (.invokestatic 99, 3) := by decide +kernel
theorem d_m_right_22 : decode prog_7_method_18_code 22 = .ok (.ifCond .ne 6, 3) := by decide +kernel
theorem d_m_right_25 : decode prog_7_method_18_code 25 = .ok (.bipush (-2), 2) := by decide +kernel
theorem d_m_right_27 : decode prog_7_method_18_code 27 = .ok (.ireturn, 1) := by decide +kernel
theorem d_m_right_28 : decode prog_7_method_18_code 28 = .ok (.aload_n 0, 1) := by decide +kernel
theorem d_m_right_29 : decode prog_7_method_18_code 29 = .ok (.getfield 17, 3) := by decide +kernel
theorem d_m_right_32 : decode prog_7_method_18_code 32 = .ok (.iload_n 1, 1) := by decide +kernel
theorem d_m_right_33 : decode prog_7_method_18_code 33 = .ok (.iload_n 2, 1) := by decide +kernel
theorem d_m_right_34 : decode prog_7_method_18_code 34 = .ok (.iastore, 1) := by decide +kernel
theorem d_m_right_35 : decode prog_7_method_18_code 35 = .ok (.iconst 1, 1) := by decide +kernel
theorem d_m_right_36 : decode prog_7_method_18_code 36 = .ok (.ireturn, 1) := by decide +kernel
theorem d_m_statistics_0 : decode prog_7_method_26_code 0 = .ok (.aload_n 0, 1) := by decide +kernel
theorem d_m_statistics_1 : decode prog_7_method_26_code 1 = .ok (.iconst 0, 1) := by decide +kernel
theorem d_m_statistics_2 : decode prog_7_method_26_code 2 = .ok (.putfield 93, 3) := by decide +kernel
theorem d_m_statistics_5 : decode prog_7_method_26_code 5 = .ok (.iload_n 1, 1) := by decide +kernel
theorem d_m_statistics_6 : decode prog_7_method_26_code 6 = .ok (.iconst 0, 1) := by decide +kernel
theorem d_m_statistics_7 : decode prog_7_method_26_code 7 = .ok (.bipush 99, 2) := by decide +kernel
theorem d_m_statistics_9 : decode prog_7_method_26_code 9 = .ok (.invokestatic 99, 3) := by decide +kernel
theorem d_m_statistics_12 : decode prog_7_method_26_code 12 = .ok (.ifCond .eq 12, 3) := by decide +kernel
theorem d_m_statistics_15 : decode prog_7_method_26_code 15 = .ok (.iload_n 2, 1) := by decide +kernel
theorem d_m_statistics_16 : decode prog_7_method_26_code 16 = .ok (.iconst 0, 1) := by decide +kernel
theorem d_m_statistics_17 : decode prog_7_method_26_code 17 = .ok (.iconst 3, 1) := by decide +kernel
theorem d_m_statistics_18 : decode prog_7_method_26_code 18 = .ok (.invokestatic 99, 3) := by decide +kernel
theorem d_m_statistics_21 : decode prog_7_method_26_code 21 = .ok (.ifCond .ne 5, 3) := by decide +kernel
theorem d_m_statistics_24 : decode prog_7_method_26_code 24 = .ok (.iconst (-1), 1) := by decide +kernel
theorem d_m_statistics_25 : decode prog_7_method_26_code 25 = .ok (.ireturn, 1) := by decide +kernel
theorem d_m_statistics_26 : decode prog_7_method_26_code 26 = .ok (.iconst 0, 1) := by decide +kernel
theorem d_m_statistics_27 : decode prog_7_method_26_code 27 = .ok (.istore_n 3, 1) := by decide +kernel
theorem d_m_statistics_28 : decode prog_7_method_26_code 28 = .ok (.iconst 0, 1) := by decide +kernel
theorem d_m_statistics_29 : decode prog_7_method_26_code 29 = .ok (.istore 4, 2) := by decide +kernel
theorem d_m_statistics_31 : decode prog_7_method_26_code 31 = .ok (.iload 4, 2) := by decide +kernel
theorem d_m_statistics_33 : decode prog_7_method_26_code 33 = .ok (.aload_n 0, 1) := by decide +kernel
theorem d_m_statistics_34 : decode prog_7_method_26_code 34 = .ok (.getfield 117, 3) := by decide +kernel
theorem d_m_statistics_37 : decode prog_7_method_26_code 37 = .ok (.if_icmp .ge 92, 3) := by decide +kernel
theorem d_m_statistics_40 : decode prog_7_method_26_code 40 = .ok (.aload_n 0, 1) := by decide +kernel
theorem d_m_statistics_41 : decode prog_7_method_26_code 41 = .ok (.getfield 56, 3) := by decide +kernel
theorem d_m_statistics_44 : decode prog_7_method_26_code 44 = .ok (.iload 4, 2) := by decide +kernel
theorem d_m_statistics_46 : decode prog_7_method_26_code 46 = .ok (.iaload, 1) := by decide +kernel
theorem d_m_statistics_47 : decode prog_7_method_26_code 47 = .ok (.iload_n 1, 1) := by decide +kernel
theorem d_m_statistics_48 : decode prog_7_method_26_code 48 = .ok (.if_icmp .eq 6, 3) := by decide +kernel
theorem d_m_statistics_51 : decode prog_7_method_26_code 51 = .ok (.goto 72, 3) := by decide +kernel
theorem d_m_statistics_54 : decode prog_7_method_26_code 54 = .ok (.iload_n 3, 1) := by decide +kernel
theorem d_m_statistics_55 : decode prog_7_method_26_code 55 = .ok (.iload_n 2, 1) := by decide +kernel
theorem d_m_statistics_56 : decode prog_7_method_26_code 56 = .ok (.ifCond .ne 7, 3) := by decide +kernel
theorem d_m_statistics_59 : decode prog_7_method_26_code 59 = .ok (.iconst 1, 1) := by decide +kernel
theorem d_m_statistics_60 : decode prog_7_method_26_code 60 = .ok (.goto 61, 3) := by decide +kernel
theorem d_m_statistics_63 : decode prog_7_method_26_code 63 = .ok (.iload_n 2, 1) := by decide +kernel
theorem d_m_statistics_64 : decode prog_7_method_26_code 64 = .ok (.iconst 1, 1) := by decide +kernel
theorem d_m_statistics_65 : decode prog_7_method_26_code 65 = .ok (.if_icmp .ne 21, 3) := by decide +kernel
theorem d_m_statistics_68 : decode prog_7_method_26_code 68 = .ok (.aload_n 0, 1) := by decide +kernel
theorem d_m_statistics_69 : decode prog_7_method_26_code 69 = .ok (.getfield 71, 3) := by decide +kernel
theorem d_m_statistics_72 : decode prog_7_method_26_code 72 = .ok (.iload 4, 2) := by decide +kernel
theorem d_m_statistics_74 : decode prog_7_method_26_code 74 = .ok (.iaload, 1) := by decide +kernel
theorem d_m_statistics_75 : decode prog_7_method_26_code 75 = .ok (.ifCond .ne 7, 3) := by decide +kernel
theorem d_m_statistics_78 : decode prog_7_method_26_code 78 = .ok (.iconst 1, 1) := by decide +kernel
theorem d_m_statistics_79 : decode prog_7_method_26_code 79 = .ok (.goto 42, 3) := by decide +kernel
theorem d_m_statistics_82 : decode prog_7_method_26_code 82 = .ok (.iconst 0, 1) := by decide +kernel
theorem d_m_statistics_83 : decode prog_7_method_26_code 83 = .ok (.goto 38, 3) := by decide +kernel
theorem d_m_statistics_86 : decode prog_7_method_26_code 86 = .ok (.iload_n 2, 1) := by decide +kernel
theorem d_m_statistics_87 : decode prog_7_method_26_code 87 = .ok (.iconst 2, 1) := by decide +kernel
theorem d_m_statistics_88 : decode prog_7_method_26_code 88 = .ok (.if_icmp .ne 27, 3) := by decide +kernel
theorem d_m_statistics_91 : decode prog_7_method_26_code 91 = .ok (.aload_n 0, 1) := by decide +kernel
theorem d_m_statistics_92 : decode prog_7_method_26_code 92 = .ok (.getfield 71, 3) := by decide +kernel
theorem d_m_statistics_95 : decode prog_7_method_26_code 95 = .ok (.iload 4, 2) := by decide +kernel
theorem d_m_statistics_97 : decode prog_7_method_26_code 97 = .ok (.iaload, 1) := by decide +kernel
theorem d_m_statistics_98 : decode prog_7_method_26_code 98 = .ok (.ifCond .ne 7, 3) := by decide +kernel
theorem d_m_statistics_101 : decode prog_7_method_26_code 101 = .ok (.iconst 0, 1) := by decide +kernel
theorem d_m_statistics_102 : decode prog_7_method_26_code 102 = .ok (.goto 19, 3) := by decide +kernel
theorem d_m_statistics_105 : decode prog_7_method_26_code 105 = .ok (.aload_n 0, 1) := by decide +kernel
theorem d_m_statistics_106 : decode prog_7_method_26_code 106 = .ok (.getfield 65, 3) := by decide +kernel
theorem d_m_statistics_109 : decode prog_7_method_26_code 109 = .ok (.iload 4, 2) := by decide +kernel
theorem d_m_statistics_111 : decode prog_7_method_26_code 111 = .ok (.iaload, 1) := by decide +kernel
theorem d_m_statistics_112 : decode prog_7_method_26_code 112 = .ok (.goto 9, 3) := by decide +kernel
theorem d_m_statistics_115 : decode prog_7_method_26_code 115 = .ok (.aload_n 0, 1) := by decide +kernel
theorem d_m_statistics_116 : decode prog_7_method_26_code 116 = .ok (.iload 4, 2) := by decide +kernel
theorem d_m_statistics_118 : decode prog_7_method_26_code 118 = .ok (.invokevirtual 140, 3) := by decide +kernel
theorem d_m_statistics_121 : decode prog_7_method_26_code 121 = .ok (.iadd, 1) := by decide +kernel
theorem d_m_statistics_122 : decode prog_7_method_26_code 122 = .ok (.istore_n 3, 1) := by decide +kernel
theorem d_m_statistics_123 : decode prog_7_method_26_code 123 = .ok (.iinc 4 1, 3) := by decide +kernel
theorem d_m_statistics_126 : decode prog_7_method_26_code 126 = .ok (.goto (-95), 3) := by decide +kernel
theorem d_m_statistics_129 : decode prog_7_method_26_code 129 = .ok (.iload_n 3, 1) := by decide +kernel
theorem d_m_statistics_130 : decode prog_7_method_26_code 130 = .ok (.ireturn, 1) := by decide +kernel
theorem d_m_title_0 : decode prog_7_method_6_code 0 = .ok (.aload_n 0, 1) := by decide +kernel
theorem d_m_title_1 : decode prog_7_method_6_code 1 = .ok (.iconst 0, 1) := by decide +kernel
theorem d_m_title_2 : decode prog_7_method_6_code 2 = .ok (.putfield 93, 3) := by decide +kernel
theorem d_m_title_5 : decode prog_7_method_6_code 5 = .ok (.iload_n 1, 1) := by decide +kernel
theorem d_m_title_6 : decode prog_7_method_6_code 6 = .ok (.iconst 0, 1) := by decide +kernel
theorem d_m_title_7 : decode prog_7_method_6_code 7 = .ok (.bipush 99, 2) := by decide +kernel
theorem d_m_title_9 : decode prog_7_method_6_code 9 = .ok (.invokestatic 99, 3) := by decide +kernel
theorem d_m_title_12 : decode prog_7_method_6_code 12 = .ok (.ifCond .ne 6, 3) := by decide +kernel
theorem d_m_title_15 : decode prog_7_method_6_code 15 = .ok (.bipush (-2), 2) := by decide +kernel
theorem d_m_title_17 : decode prog_7_method_6_code 17 = .ok (.ireturn, 1) := by decide +kernel
theorem d_m_title_18 : decode prog_7_method_6_code 18 = .ok (.aload_n 0, 1) := by decide +kernel
theorem d_m_title_19 : decode prog_7_method_6_code 19 = .ok (.getfield 96, 3) := by decide +kernel
theorem d_m_title_22 : decode prog_7_method_6_code 22 = .ok (.bipush 50, 2) := by decide +kernel
theorem d_m_title_24 : decode prog_7_method_6_code 24 = .ok (.if_icmp .ne 6, 3) := by decide +kernel
theorem d_m_title_27 : decode prog_7_method_6_code 27 = .ok (.bipush (-4), 2) := by decide +kernel
theorem d_m_title_29 : decode prog_7_method_6_code 29 = .ok (.ireturn, 1) := by decide +kernel
theorem d_m_title_30 : decode prog_7_method_6_code 30 = .ok (.aload_n 0, 1) := by decide +kernel
theorem d_m_title_31 : decode prog_7_method_6_code 31 = .ok (.getfield 7, 3) := by decide +kernel
theorem d_m_title_34 : decode prog_7_method_6_code 34 = .ok (.aload_n 0, 1) := by decide +kernel
theorem d_m_title_35 : decode prog_7_method_6_code 35 = .ok (.getfield 96, 3) := by decide +kernel
theorem d_m_title_38 : decode prog_7_method_6_code 38 = .ok (.iload_n 1, 1) := by decide +kernel
theorem d_m_title_39 : decode prog_7_method_6_code 39 = .ok (.iastore, 1) := by decide +kernel
theorem d_m_title_40 : decode prog_7_method_6_code 40 = .ok (.aload_n 0, 1) := by decide +kernel
theorem d_m_title_41 : decode prog_7_method_6_code 41 = .ok (.dup, 1) := by decide +kernel
theorem d_m_title_42 : decode prog_7_method_6_code 42 = .ok (.getfield 96, 3) := by decide +kernel
theorem d_m_title_45 : decode prog_7_method_6_code 45 = .ok (.iconst 1, 1) := by decide +kernel
theorem d_m_title_46 : decode prog_7_method_6_code 46 = .ok (.iadd, 1) := by decide +kernel
theorem d_m_title_47 : decode prog_7_method_6_code 47 = .ok (.putfield 96, 3) := by decide +kernel
theorem d_m_title_50 : decode prog_7_method_6_code 50 = .ok (.aload_n 0, 1) := by decide +kernel
theorem d_m_title_51 : decode prog_7_method_6_code 51 = .ok (.getfield 96, 3) := by decide +kernel
theorem d_m_title_54 : decode prog_7_method_6_code 54 = .ok (.iconst 1, 1) := by decide +kernel
theorem d_m_title_55 : decode prog_7_method_6_code 55 = .ok (.isub, 1) := by decide +kernel
theorem d_m_title_56 : decode prog_7_method_6_code 56 = .ok (.ireturn, 1) := by decide +kernel
theorem d_m_waive_0 : decode prog_7_method_19_code 0 = .ok (.aload_n 0, 1) := by decide +kernel
theorem d_m_waive_1 : decode prog_7_method_19_code 1 = .ok (.iconst 0, 1) := by decide +kernel
theorem d_m_waive_2 : decode prog_7_method_19_code 2 = .ok (.putfield 93, 3) := by decide +kernel
theorem d_m_waive_5 : decode prog_7_method_19_code 5 = .ok (.aload_n 0, 1) := by decide +kernel
theorem d_m_waive_6 : decode prog_7_method_19_code 6 = .ok (.iload_n 1, 1) := by decide +kernel
theorem d_m_waive_7 : decode prog_7_method_19_code 7 = .ok (.invokevirtual 107, 3) := by decide +kernel
theorem d_m_waive_10 : decode prog_7_method_19_code 10 = .ok (.ifCond .ne 5, 3) := by decide +kernel
theorem d_m_waive_13 : decode prog_7_method_19_code 13 = .ok (.iconst (-1), 1) := by decide +kernel
theorem d_m_waive_14 : decode prog_7_method_19_code 14 = .ok (.ireturn, 1) := by decide +kernel
theorem d_m_waive_15 : decode prog_7_method_19_code 15 = .ok (.iload_n 2, 1) := by decide +kernel
theorem d_m_waive_16 : decode prog_7_method_19_code 16 = .ok (.iconst 0, 1) := by decide +kernel
theorem d_m_waive_17 : decode prog_7_method_19_code 17 = .ok (.bipush 99, 2) := by decide +kernel
theorem d_m_waive_19 : decode prog_7_method_19_code 19 = .ok (.invokestatic 99, 3) := by decide +kernel
theorem d_m_waive_22 : decode prog_7_method_19_code 22 = .ok (.ifCond .ne 6, 3) := by decide +kernel
theorem d_m_waive_25 : decode prog_7_method_19_code 25 = .ok (.bipush (-2), 2) := by decide +kernel
theorem d_m_waive_27 : decode prog_7_method_19_code 27 = .ok (.ireturn, 1) := by decide +kernel
theorem d_m_waive_28 : decode prog_7_method_19_code 28 = .ok (.aload_n 0, 1) := by decide +kernel
theorem d_m_waive_29 : decode prog_7_method_19_code 29 = .ok (.getfield 17, 3) := by decide +kernel
theorem d_m_waive_32 : decode prog_7_method_19_code 32 = .ok (.iload_n 1, 1) := by decide +kernel
theorem d_m_waive_33 : decode prog_7_method_19_code 33 = .ok (.iaload, 1) := by decide +kernel
theorem d_m_waive_34 : decode prog_7_method_19_code 34 = .ok (.ifCond .eq 22, 3) := by decide +kernel
theorem d_m_waive_37 : decode prog_7_method_19_code 37 = .ok (.aload_n 0, 1) := by decide +kernel
theorem d_m_waive_38 : decode prog_7_method_19_code 38 = .ok (.getfield 26, 3) := by decide +kernel
theorem d_m_waive_41 : decode prog_7_method_19_code 41 = .ok (.bipush 10, 2) := by decide +kernel
theorem d_m_waive_43 : decode prog_7_method_19_code 43 = .ok (.iload_n 2, 1) := by decide +kernel
theorem d_m_waive_44 : decode prog_7_method_19_code 44 = .ok (.imul, 1) := by decide +kernel
theorem d_m_waive_45 : decode prog_7_method_19_code 45 = .ok (.aload_n 0, 1) := by decide +kernel
theorem d_m_waive_46 : decode prog_7_method_19_code 46 = .ok (.getfield 17, 3) := by decide +kernel
theorem d_m_waive_49 : decode prog_7_method_19_code 49 = .ok (.iload_n 1, 1) := by decide +kernel
theorem d_m_waive_50 : decode prog_7_method_19_code 50 = .ok (.iaload, 1) := by decide +kernel
theorem d_m_waive_51 : decode prog_7_method_19_code 51 = .ok (.iadd, 1) := by decide +kernel
theorem d_m_waive_52 : decode prog_7_method_19_code 52 = .ok (.baload, 1) := by decide +kernel
theorem d_m_waive_53 : decode prog_7_method_19_code 53 = .ok (.ifCond .ne 6, 3) := by decide +kernel
theorem d_m_waive_56 : decode prog_7_method_19_code 56 = .ok (.bipush (-3), 2) := by decide +kernel
theorem d_m_waive_58 : decode prog_7_method_19_code 58 = .ok (.ireturn, 1) := by decide +kernel
theorem d_m_waive_59 : decode prog_7_method_19_code 59 = .ok (.aload_n 0, 1) := by decide +kernel
theorem d_m_waive_60 : decode prog_7_method_19_code 60 = .ok (.getfield 20, 3) := by decide +kernel
theorem d_m_waive_63 : decode prog_7_method_19_code 63 = .ok (.iload_n 1, 1) := by decide +kernel
theorem d_m_waive_64 : decode prog_7_method_19_code 64 = .ok (.iaload, 1) := by decide +kernel
theorem d_m_waive_65 : decode prog_7_method_19_code 65 = .ok (.bipush 20, 2) := by decide +kernel
theorem d_m_waive_67 : decode prog_7_method_19_code 67 = .ok (.if_icmp .ne 6, 3) := by decide +kernel
theorem d_m_waive_70 : decode prog_7_method_19_code 70 = .ok (.bipush (-4), 2) := by decide +kernel
theorem d_m_waive_72 : decode prog_7_method_19_code 72 = .ok (.ireturn, 1) := by decide +kernel
theorem d_m_waive_73 : decode prog_7_method_19_code 73 = .ok (.aload_n 0, 1) := by decide +kernel
theorem d_m_waive_74 : decode prog_7_method_19_code 74 = .ok (.getfield 20, 3) := by decide +kernel
theorem d_m_waive_77 : decode prog_7_method_19_code 77 = .ok (.iload_n 1, 1) := by decide +kernel
theorem d_m_waive_78 : decode prog_7_method_19_code 78 = .ok (.dup2, 1) := by decide +kernel
theorem d_m_waive_79 : decode prog_7_method_19_code 79 = .ok (.iaload, 1) := by decide +kernel
theorem d_m_waive_80 : decode prog_7_method_19_code 80 = .ok (.iconst 1, 1) := by decide +kernel
theorem d_m_waive_81 : decode prog_7_method_19_code 81 = .ok (.iadd, 1) := by decide +kernel
theorem d_m_waive_82 : decode prog_7_method_19_code 82 = .ok (.iastore, 1) := by decide +kernel
theorem d_m_waive_83 : decode prog_7_method_19_code 83 = .ok (.aload_n 0, 1) := by decide +kernel
theorem d_m_waive_84 : decode prog_7_method_19_code 84 = .ok (.getfield 20, 3) := by decide +kernel
theorem d_m_waive_87 : decode prog_7_method_19_code 87 = .ok (.iload_n 1, 1) := by decide +kernel
theorem d_m_waive_88 : decode prog_7_method_19_code 88 = .ok (.iaload, 1) := by decide +kernel
theorem d_m_waive_89 : decode prog_7_method_19_code 89 = .ok (.ireturn, 1) := by decide +kernel
theorem d_m_why_0 : decode prog_7_method_16_code 0 = .ok (.aload_n 0, 1) := by decide +kernel
theorem d_m_why_1 : decode prog_7_method_16_code 1 = .ok (.iconst 0, 1) := by decide +kernel
theorem d_m_why_2 : decode prog_7_method_16_code 2 = .ok (.putfield 93, 3) := by decide +kernel
theorem d_m_why_5 : decode prog_7_method_16_code 5 = .ok (.aload_n 0, 1) := by decide +kernel
theorem d_m_why_6 : decode prog_7_method_16_code 6 = .ok (.getfield 89, 3) := by decide +kernel
theorem d_m_why_9 : decode prog_7_method_16_code 9 = .ok (.ireturn, 1) := by decide +kernel
end
section
abbrev rl_tys (kI kZ : ClassId) : List (ClassId × FieldType) := [(kI, .int), (kZ, .boolean)]
def rl_st (F : Nat → Nat → Int32) (r i : Nat) (x : Int32) : Nat → Nat → Int32 := va_up F r (upd (F r) i x)
def rl_F0 : Nat → Nat → Int32 := fun r i => if r = 27 then (if i = 5 then -1 else 0) else 0
def rm_F0 : Nat → Nat → Int32 := fun r i => if r = 27 then (if i = 6 then -1 else 0) else 0
def rl_w (a : Nat → Nat) (kI kZ : ClassId) (F : Nat → Nat → Int32) : va_W := [(a 0, .inr (0, [.ref (a 1), .ref (a 2), .ref (a 3), .ref (a 4), .ref (a 30), .ref (a 31), .int (F 27 4), .int (F 27 5)])), (a 1, .inr (1, [.ref (a 5), .ref (a 6), .ref (a 7), .ref (a 8), .int (F 27 0)])), (a 2, .inr (2, [.ref (a 9), .ref (a 10), .ref (a 11), .ref (a 12), .int (F 27 1)])), (a 3, .inr (3, [.ref (a 13), .ref (a 14), .ref (a 15), .ref (a 16), .ref (a 17), .int (F 27 2)])), (a 4, .inr (4, [.ref (a 18), .ref (a 19), .ref (a 20), .ref (a 21), .ref (a 22), .ref (a 23), .ref (a 24), .ref (a 25), .ref (a 26), .ref (a 27), .ref (a 28), .ref (a 29), .int (F 27 3)])), (a 5, .inl (kI, 50, .inl (F 0))), (a 6, .inl (kZ, 50, .inl (F 1))), (a 7, .inl (kI, 50, .inl (F 2))), (a 8, .inl (kI, 50, .inl (F 3))), (a 9, .inl (kI, 100, .inl (F 4))), (a 10, .inl (kI, 100, .inl (F 5))), (a 11, .inl (kI, 100, .inl (F 6))), (a 12, .inl (kI, 100, .inl (F 7))), (a 13, .inl (kI, 50, .inl (F 8))), (a 14, .inl (kI, 50, .inl (F 9))), (a 15, .inl (kI, 50, .inl (F 10))), (a 16, .inl (kI, 50, .inl (F 11))), (a 17, .inl (kI, 50, .inl (F 12))), (a 18, .inl (kI, 300, .inl (F 13))), (a 19, .inl (kI, 300, .inl (F 14))), (a 20, .inl (kI, 300, .inl (F 15))), (a 21, .inl (kI, 300, .inl (F 16))), (a 22, .inl (kI, 300, .inl (F 17))), (a 23, .inl (kI, 300, .inl (F 18))), (a 24, .inl (kI, 300, .inl (F 19))), (a 25, .inl (kI, 300, .inl (F 20))), (a 26, .inl (kI, 300, .inl (F 21))), (a 27, .inl (kI, 300, .inl (F 22))), (a 28, .inl (kI, 300, .inl (F 23))), (a 29, .inl (kI, 300, .inl (F 24))), (a 30, .inl (kI, 100, .inl (F 25))), (a 31, .inl (kI, 100, .inl (F 26)))]
def rm_w (a : Nat → Nat) (kI kZ : ClassId) (F : Nat → Nat → Int32) : va_W := [(a 0, .inr (5, [.int (F 27 0), .int (F 27 1), .int (F 27 2), .ref (a 1), .ref (a 2), .ref (a 3), .ref (a 4), .ref (a 5), .ref (a 6), .int (F 27 3), .ref (a 7), .ref (a 8), .ref (a 9), .ref (a 10), .int (F 27 4), .ref (a 11), .ref (a 12), .ref (a 13), .ref (a 14), .ref (a 15), .int (F 27 5), .ref (a 16), .ref (a 17), .ref (a 18), .ref (a 19), .ref (a 20), .ref (a 21), .ref (a 22), .ref (a 23), .ref (a 24), .ref (a 25), .ref (a 26), .int (F 27 6)])), (a 1, .inl (kI, 50, .inl (F 0))), (a 2, .inl (kZ, 50, .inl (F 1))), (a 3, .inl (kI, 50, .inl (F 2))), (a 4, .inl (kI, 50, .inl (F 3))), (a 5, .inl (kI, 100, .inl (F 4))), (a 6, .inl (kZ, 1000, .inl (F 5))), (a 7, .inl (kI, 100, .inl (F 6))), (a 8, .inl (kI, 100, .inl (F 7))), (a 9, .inl (kI, 100, .inl (F 8))), (a 10, .inl (kI, 100, .inl (F 9))), (a 11, .inl (kI, 50, .inl (F 10))), (a 12, .inl (kI, 50, .inl (F 11))), (a 13, .inl (kI, 50, .inl (F 12))), (a 14, .inl (kI, 50, .inl (F 13))), (a 15, .inl (kI, 50, .inl (F 14))), (a 16, .inl (kI, 300, .inl (F 15))), (a 17, .inl (kI, 300, .inl (F 16))), (a 18, .inl (kI, 300, .inl (F 17))), (a 19, .inl (kI, 300, .inl (F 18))), (a 20, .inl (kI, 300, .inl (F 19))), (a 21, .inl (kI, 300, .inl (F 20))), (a 22, .inl (kI, 300, .inl (F 21))), (a 23, .inl (kI, 300, .inl (F 22))), (a 24, .inl (kI, 300, .inl (F 23))), (a 25, .inl (kI, 300, .inl (F 24))), (a 26, .inl (kI, 300, .inl (F 25)))]
theorem rl_addv {x y : Int32} (h1 : -2147483648 ≤ x.toInt + y.toInt) (h2 : x.toInt + y.toInt < 2147483648) : (x + y).toInt = x.toInt + y.toInt := rl_addk rfl h1 h2
theorem rl_mulk {x k : Int32} {n : Int} (hk : k.toInt = n) (h1 : -2147483648 ≤ n * x.toInt) (h2 : n * x.toInt < 2147483648) : (k * x).toInt = n * x.toInt := by
  rw [Int32.toInt_mul, hk, Int.bmod_def]
  omega
theorem rl_nw0 : ∀ x ∈ ([] : List Cond), rl_nest x := fun _ h => nomatch h
theorem rl_N0 {s : State} : ∀ x ∈ ([] : List Cond), va_Nw x s := fun _ h => nomatch h
theorem rl_stne {F : Nat → Nat → Int32} {r r' i : Nat} {x : Int32} (h : r' ≠ r) : rl_st F r i x r' = F r' := va_up_ne _ _ h
theorem rl_steq {F : Nat → Nat → Int32} {r i : Nat} {x : Int32} : rl_st F r i x r i = x := by
  show va_up F r (upd (F r) i x) r i = x
  rw [va_up_self]
  simp [upd]
theorem rl_stnj {F : Nat → Nat → Int32} {r i j : Nat} {x : Int32} (h : j ≠ i) : rl_st F r i x r j = F r j := by
  show va_up F r (upd (F r) i x) r j = F r j
  rw [va_up_self]
  simp [upd, h]
def rl_R (F : Nat → Nat → Int32) : Prop := (∀ i, 0 ≤ (F 0 i).toInt ∧ (F 0 i).toInt < 100)
def rl_I (F : Nat → Nat → Int32) : Prop := ((0 ≤ (F 27 0).toInt ∧ (F 27 0).toInt ≤ 50) ∧ (0 ≤ (F 27 1).toInt ∧ (F 27 1).toInt ≤ 100) ∧ (0 ≤ (F 27 2).toInt ∧ (F 27 2).toInt ≤ 50) ∧ (0 ≤ (F 27 3).toInt ∧ (F 27 3).toInt ≤ 300)) ∧ rl_R F
theorem rl_keep {F F1 : Nat → Nat → Int32} {r i : Nat} {x : Int32} (e : F1 = rl_st F r i x) (h27 : r ≠ 27) (h0 : r ≠ 0) (hR : rl_R F) : ((F1 27 0).toInt = (F 27 0).toInt ∧ (F1 27 1).toInt = (F 27 1).toInt ∧ (F1 27 2).toInt = (F 27 2).toInt ∧ (F1 27 3).toInt = (F 27 3).toInt) ∧ rl_R F1 := by
  subst e
  exact ⟨by rw [rl_stne (fun h => h27 h.symm)]; exact ⟨rfl, rfl, rfl, rfl⟩, fun q => by rw [rl_stne (fun h => h0 h.symm)]; exact hR q⟩
theorem rl_keep0 {F F1 : Nat → Nat → Int32} {i : Nat} {x : Int32} (e : F1 = rl_st F 0 i x) (hx : 0 ≤ x.toInt ∧ x.toInt < 100) (hR : rl_R F) : ((F1 27 0).toInt = (F 27 0).toInt ∧ (F1 27 1).toInt = (F 27 1).toInt ∧ (F1 27 2).toInt = (F 27 2).toInt ∧ (F1 27 3).toInt = (F 27 3).toInt) ∧ rl_R F1 := by
  subst e
  exact ⟨by rw [rl_stne (by decide)]; exact ⟨rfl, rfl, rfl, rfl⟩, fun q => by
    by_cases h : q = i
    · subst h; rw [rl_steq]; exact hx
    · rw [rl_stnj h]; exact hR q⟩
theorem rl_put0 {F F1 : Nat → Nat → Int32} {x : Int32} (e : F1 = rl_st F 27 0 x) (hR : rl_R F) : ((F1 27 0).toInt = x.toInt ∧ (F1 27 1).toInt = (F 27 1).toInt ∧ (F1 27 2).toInt = (F 27 2).toInt ∧ (F1 27 3).toInt = (F 27 3).toInt) ∧ rl_R F1 := by
  subst e
  exact ⟨⟨by rw [rl_steq], by rw [rl_stnj (by decide)], by rw [rl_stnj (by decide)], by rw [rl_stnj (by decide)]⟩, fun q => by rw [rl_stne (by decide)]; exact hR q⟩
theorem rl_put1 {F F1 : Nat → Nat → Int32} {x : Int32} (e : F1 = rl_st F 27 1 x) (hR : rl_R F) : ((F1 27 0).toInt = (F 27 0).toInt ∧ (F1 27 1).toInt = x.toInt ∧ (F1 27 2).toInt = (F 27 2).toInt ∧ (F1 27 3).toInt = (F 27 3).toInt) ∧ rl_R F1 := by
  subst e
  exact ⟨⟨by rw [rl_stnj (by decide)], by rw [rl_steq], by rw [rl_stnj (by decide)], by rw [rl_stnj (by decide)]⟩, fun q => by rw [rl_stne (by decide)]; exact hR q⟩
theorem rl_put2 {F F1 : Nat → Nat → Int32} {x : Int32} (e : F1 = rl_st F 27 2 x) (hR : rl_R F) : ((F1 27 0).toInt = (F 27 0).toInt ∧ (F1 27 1).toInt = (F 27 1).toInt ∧ (F1 27 2).toInt = x.toInt ∧ (F1 27 3).toInt = (F 27 3).toInt) ∧ rl_R F1 := by
  subst e
  exact ⟨⟨by rw [rl_stnj (by decide)], by rw [rl_stnj (by decide)], by rw [rl_steq], by rw [rl_stnj (by decide)]⟩, fun q => by rw [rl_stne (by decide)]; exact hR q⟩
theorem rl_put3 {F F1 : Nat → Nat → Int32} {x : Int32} (e : F1 = rl_st F 27 3 x) (hR : rl_R F) : ((F1 27 0).toInt = (F 27 0).toInt ∧ (F1 27 1).toInt = (F 27 1).toInt ∧ (F1 27 2).toInt = (F 27 2).toInt ∧ (F1 27 3).toInt = x.toInt) ∧ rl_R F1 := by
  subst e
  exact ⟨⟨by rw [rl_stnj (by decide)], by rw [rl_stnj (by decide)], by rw [rl_stnj (by decide)], by rw [rl_steq]⟩, fun q => by rw [rl_stne (by decide)]; exact hR q⟩
theorem rl_putS {F F1 : Nat → Nat → Int32} {j : Nat} {x : Int32} (e : F1 = rl_st F 27 j x) (hj0 : j ≠ 0) (hj1 : j ≠ 1) (hj2 : j ≠ 2) (hj3 : j ≠ 3) (hR : rl_R F) : ((F1 27 0).toInt = (F 27 0).toInt ∧ (F1 27 1).toInt = (F 27 1).toInt ∧ (F1 27 2).toInt = (F 27 2).toInt ∧ (F1 27 3).toInt = (F 27 3).toInt) ∧ rl_R F1 := by
  subst e
  exact ⟨⟨by rw [rl_stnj (fun h => hj0 h.symm)], by rw [rl_stnj (fun h => hj1 h.symm)], by rw [rl_stnj (fun h => hj2 h.symm)], by rw [rl_stnj (fun h => hj3 h.symm)]⟩, fun q => by rw [rl_stne (by decide)]; exact hR q⟩
def rm_R (F : Nat → Nat → Int32) : Prop := (∀ i, 0 ≤ (F 0 i).toInt ∧ (F 0 i).toInt < 100) ∧ (∀ i, 0 ≤ (F 2 i).toInt ∧ (F 2 i).toInt < 10)
def rm_I (F : Nat → Nat → Int32) : Prop := ((0 ≤ (F 27 2).toInt ∧ (F 27 2).toInt ≤ 50) ∧ (0 ≤ (F 27 3).toInt ∧ (F 27 3).toInt ≤ 100) ∧ (0 ≤ (F 27 4).toInt ∧ (F 27 4).toInt ≤ 50) ∧ (0 ≤ (F 27 5).toInt ∧ (F 27 5).toInt ≤ 300)) ∧ rm_R F
theorem rm_keep {F F1 : Nat → Nat → Int32} {r i : Nat} {x : Int32} (e : F1 = rl_st F r i x) (h27 : r ≠ 27) (h0 : r ≠ 0) (h1 : r ≠ 2) (hR : rm_R F) : ((F1 27 2).toInt = (F 27 2).toInt ∧ (F1 27 3).toInt = (F 27 3).toInt ∧ (F1 27 4).toInt = (F 27 4).toInt ∧ (F1 27 5).toInt = (F 27 5).toInt) ∧ rm_R F1 := by
  subst e
  exact ⟨by rw [rl_stne (fun h => h27 h.symm)]; exact ⟨rfl, rfl, rfl, rfl⟩, ⟨fun q => by rw [rl_stne (fun h => h0 h.symm)]; exact hR.1 q, fun q => by rw [rl_stne (fun h => h1 h.symm)]; exact hR.2 q⟩⟩
theorem rm_keep0 {F F1 : Nat → Nat → Int32} {i : Nat} {x : Int32} (e : F1 = rl_st F 0 i x) (hx : 0 ≤ x.toInt ∧ x.toInt < 100) (hR : rm_R F) : ((F1 27 2).toInt = (F 27 2).toInt ∧ (F1 27 3).toInt = (F 27 3).toInt ∧ (F1 27 4).toInt = (F 27 4).toInt ∧ (F1 27 5).toInt = (F 27 5).toInt) ∧ rm_R F1 := by
  subst e
  exact ⟨by rw [rl_stne (by decide)]; exact ⟨rfl, rfl, rfl, rfl⟩, ⟨fun q => by
    by_cases h : q = i
    · subst h; rw [rl_steq]; exact hx
    · rw [rl_stnj h]; exact hR.1 q, fun q => by rw [rl_stne (by decide)]; exact hR.2 q⟩⟩
theorem rm_keep2 {F F1 : Nat → Nat → Int32} {i : Nat} {x : Int32} (e : F1 = rl_st F 2 i x) (hx : 0 ≤ x.toInt ∧ x.toInt < 10) (hR : rm_R F) : ((F1 27 2).toInt = (F 27 2).toInt ∧ (F1 27 3).toInt = (F 27 3).toInt ∧ (F1 27 4).toInt = (F 27 4).toInt ∧ (F1 27 5).toInt = (F 27 5).toInt) ∧ rm_R F1 := by
  subst e
  exact ⟨by rw [rl_stne (by decide)]; exact ⟨rfl, rfl, rfl, rfl⟩, ⟨fun q => by rw [rl_stne (by decide)]; exact hR.1 q, fun q => by
    by_cases h : q = i
    · subst h; rw [rl_steq]; exact hx
    · rw [rl_stnj h]; exact hR.2 q⟩⟩
theorem rm_put2 {F F1 : Nat → Nat → Int32} {x : Int32} (e : F1 = rl_st F 27 2 x) (hR : rm_R F) : ((F1 27 2).toInt = x.toInt ∧ (F1 27 3).toInt = (F 27 3).toInt ∧ (F1 27 4).toInt = (F 27 4).toInt ∧ (F1 27 5).toInt = (F 27 5).toInt) ∧ rm_R F1 := by
  subst e
  exact ⟨⟨by rw [rl_steq], by rw [rl_stnj (by decide)], by rw [rl_stnj (by decide)], by rw [rl_stnj (by decide)]⟩, ⟨fun q => by rw [rl_stne (by decide)]; exact hR.1 q, fun q => by rw [rl_stne (by decide)]; exact hR.2 q⟩⟩
theorem rm_put3 {F F1 : Nat → Nat → Int32} {x : Int32} (e : F1 = rl_st F 27 3 x) (hR : rm_R F) : ((F1 27 2).toInt = (F 27 2).toInt ∧ (F1 27 3).toInt = x.toInt ∧ (F1 27 4).toInt = (F 27 4).toInt ∧ (F1 27 5).toInt = (F 27 5).toInt) ∧ rm_R F1 := by
  subst e
  exact ⟨⟨by rw [rl_stnj (by decide)], by rw [rl_steq], by rw [rl_stnj (by decide)], by rw [rl_stnj (by decide)]⟩, ⟨fun q => by rw [rl_stne (by decide)]; exact hR.1 q, fun q => by rw [rl_stne (by decide)]; exact hR.2 q⟩⟩
theorem rm_put4 {F F1 : Nat → Nat → Int32} {x : Int32} (e : F1 = rl_st F 27 4 x) (hR : rm_R F) : ((F1 27 2).toInt = (F 27 2).toInt ∧ (F1 27 3).toInt = (F 27 3).toInt ∧ (F1 27 4).toInt = x.toInt ∧ (F1 27 5).toInt = (F 27 5).toInt) ∧ rm_R F1 := by
  subst e
  exact ⟨⟨by rw [rl_stnj (by decide)], by rw [rl_stnj (by decide)], by rw [rl_steq], by rw [rl_stnj (by decide)]⟩, ⟨fun q => by rw [rl_stne (by decide)]; exact hR.1 q, fun q => by rw [rl_stne (by decide)]; exact hR.2 q⟩⟩
theorem rm_put5 {F F1 : Nat → Nat → Int32} {x : Int32} (e : F1 = rl_st F 27 5 x) (hR : rm_R F) : ((F1 27 2).toInt = (F 27 2).toInt ∧ (F1 27 3).toInt = (F 27 3).toInt ∧ (F1 27 4).toInt = (F 27 4).toInt ∧ (F1 27 5).toInt = x.toInt) ∧ rm_R F1 := by
  subst e
  exact ⟨⟨by rw [rl_stnj (by decide)], by rw [rl_stnj (by decide)], by rw [rl_stnj (by decide)], by rw [rl_steq]⟩, ⟨fun q => by rw [rl_stne (by decide)]; exact hR.1 q, fun q => by rw [rl_stne (by decide)]; exact hR.2 q⟩⟩
theorem rm_putS {F F1 : Nat → Nat → Int32} {j : Nat} {x : Int32} (e : F1 = rl_st F 27 j x) (hj0 : j ≠ 2) (hj1 : j ≠ 3) (hj2 : j ≠ 4) (hj3 : j ≠ 5) (hR : rm_R F) : ((F1 27 2).toInt = (F 27 2).toInt ∧ (F1 27 3).toInt = (F 27 3).toInt ∧ (F1 27 4).toInt = (F 27 4).toInt ∧ (F1 27 5).toInt = (F 27 5).toInt) ∧ rm_R F1 := by
  subst e
  exact ⟨⟨by rw [rl_stnj (fun h => hj0 h.symm)], by rw [rl_stnj (fun h => hj1 h.symm)], by rw [rl_stnj (fun h => hj2 h.symm)], by rw [rl_stnj (fun h => hj3 h.symm)]⟩, ⟨fun q => by rw [rl_stne (by decide)]; exact hR.1 q, fun q => by rw [rl_stne (by decide)]; exact hR.2 q⟩⟩
def rm_C (G : Nat → Nat → Int32) (t k u j : Int32) : Prop := (G 10 j.toNatClampNeg).toInt = t.toInt ∧ (G 11 j.toNatClampNeg).toInt = k.toInt ∧ (G 13 j.toNatClampNeg).toInt ≤ u.toInt ∧ u.toInt ≤ (G 14 j.toNatClampNeg).toInt ∧ 0 < (G 12 j.toNatClampNeg).toInt
def rm_Ex (G : Nat → Nat → Int32) (t k u : Int32) : Prop := ∃ j : Int32, 0 ≤ j.toInt ∧ j.toInt < (G 27 4).toInt ∧ rm_C G t k u j
theorem rm_Ex.st {F F1 : Nat → Nat → Int32} {r i : Nat} {x t k u : Int32} (e : F1 = rl_st F r i x) (h : r ≠ 10 ∧ r ≠ 11 ∧ r ≠ 12 ∧ r ≠ 13 ∧ r ≠ 14 ∧ r ≠ 27) (hE : rm_Ex F t k u) : rm_Ex F1 t k u := by
  subst e
  obtain ⟨j, h1, h2, h3⟩ := hE
  obtain ⟨n1, n2, n3, n4, n5, n6⟩ := h
  refine ⟨j, h1, by rw [rl_stne (fun h => n6 h.symm)]; exact h2, ?_⟩
  unfold rm_C at h3 ⊢
  rw [rl_stne (fun h => n1 h.symm), rl_stne (fun h => n2 h.symm), rl_stne (fun h => n3 h.symm), rl_stne (fun h => n4 h.symm), rl_stne (fun h => n5 h.symm)]
  exact h3
def rl_nw : List Cond := [.methodLinkNest "RightsLimit" 11 ⟨"RightsLimit$Titles", "<init>", "()V"⟩ "RightsLimit", .methodLinkNest "RightsLimit" 18 ⟨"RightsLimit$Limits", "<init>", "()V"⟩ "RightsLimit", .methodLinkNest "RightsLimit" 25 ⟨"RightsLimit$Licences", "<init>", "()V"⟩ "RightsLimit", .methodLinkNest "RightsLimit" 32 ⟨"RightsLimit$Requests", "<init>", "()V"⟩ "RightsLimit", .methodLinkNest "RightsLimit$Licences" 31 ⟨"RightsLimit", "isBetween", "(III)Z"⟩ "RightsLimit", .methodLinkNest "RightsLimit$Requests" 68 ⟨"RightsLimit", "isBetween", "(III)Z"⟩ "RightsLimit"]
theorem rl_nw_ok : ∀ x ∈ rl_nw, rl_nest x := by
  intro x hx
  simp only [rl_nw, List.mem_cons, List.not_mem_nil, or_false] at hx
  rcases hx with rfl | rfl | rfl | rfl | rfl | rfl <;> exact ⟨_, _, _, _, rfl⟩
end
section
set_option maxHeartbeats 4000000 in
set_option maxRecDepth 100000 in
theorem k_x_isBetween (l : Launch) (D : va_G) (a : Nat → Nat) (kI kZ : ClassId) (jn jlo jhi : Int32) (H0 : Heap) : rl_Ri l ⟨"RightsLimit", "isBetween", "(III)Z"⟩ (Cond.code ⟨"RightsLimit", "isBetween", "(III)Z"⟩ prog_1_method_30_code 3 (some .boolean) :: rl_G) { frames := 0, cells := 0, slots := 0, locals := 0 } D rl_cl (rl_tys kI kZ) rl_nw [.int jn, .int jlo, .int jhi] [] H0 (fun (r : Int32) => (r = 1 ∧ (jlo.toInt ≤ jn.toInt ∧ jn.toInt ≤ jhi.toInt)) ∨ (r = 0 ∧ ¬ (jlo.toInt ≤ jn.toInt ∧ jn.toInt ≤ jhi.toInt))) := by
  refine rl_metr (cc := prog_1_method_30_code) (maxL := 3) (ret := (some .boolean)) (by decide) rfl (Nat.le_of_ble_eq_true rfl) ?_
  intro p e s m below meth c ls hx hb hr hml hown hts hlocks hP hK hS hN hl
  have hown : s.vm.findClass "RightsLimit" = some m.cls := hown
  have hG : ∀ x ∈ rl_G, x.before _ s = true := fun x h => hts x (List.mem_cons_of_mem _ h)
  have hl : lv_has ls 3 [(0, .int jn), (1, .int jlo), (2, .int jhi)] := hl
  refine lv_iload_n hx hb d_x_isBetween_0 rfl (lv_at hl 0 rfl) ?_
  refine lv_iload_n hx hb d_x_isBetween_1 rfl (lv_at hl 1 rfl) ?_
  refine lv_icmp_lt (tgt := 14) hx hb d_x_isBetween_2 (by decide) (fun c1 => ?_) (fun c1 => ?_)
  · have ic1 := rl_ilt c1
    refine lv_iconst (v := 0) hx hb d_x_isBetween_14 (by decide) ?_
    exact W.zret (v := 0) hx hb hr rfl (fun t ht hW => ⟨⟨0, (), rfl, Or.inr ⟨rfl, by omega⟩, ht⟩, hS.F ht⟩) hS.2.2 d_x_isBetween_15
  · have ic1 := rl_inlt c1
    refine lv_iload_n hx hb d_x_isBetween_5 rfl (lv_at hl 0 rfl) ?_
    refine lv_iload_n hx hb d_x_isBetween_6 rfl (lv_at hl 2 rfl) ?_
    refine lv_icmp_gt (tgt := 14) hx hb d_x_isBetween_7 (by decide) (fun c2 => ?_) (fun c2 => ?_)
    · have ic2 := rl_ilt c2
      refine lv_iconst (v := 0) hx hb d_x_isBetween_14 (by decide) ?_
      exact W.zret (v := 0) hx hb hr rfl (fun t ht hW => ⟨⟨0, (), rfl, Or.inr ⟨rfl, by omega⟩, ht⟩, hS.F ht⟩) hS.2.2 d_x_isBetween_15
    · have ic2 := rl_inlt c2
      refine lv_iconst (v := 1) hx hb d_x_isBetween_10 (by decide) ?_
      refine lv_goto (tgt := 15) hx hb d_x_isBetween_11 (by decide) ?_
      exact W.zret (v := 1) hx hb hr rfl (fun t ht hW => ⟨⟨1, (), rfl, Or.inl ⟨rfl, by omega⟩, ht⟩, hS.F ht⟩) hS.2.2 d_x_isBetween_15
set_option maxHeartbeats 4000000 in
set_option maxRecDepth 100000 in
theorem k_x_isTime (l : Launch) (D : va_G) (a : Nat → Nat) (kI kZ : ClassId) (jn : Int32) (H0 : Heap) : rl_Ri l ⟨"RightsLimit", "isTime", "(I)Z"⟩ (Cond.code ⟨"RightsLimit", "isTime", "(I)Z"⟩ prog_1_method_24_code 1 (some .boolean) :: rl_G) { frames := 1, cells := 0, slots := 0, locals := 22 } D rl_cl (rl_tys kI kZ) rl_nw [.int jn] [] H0 (fun (r : Int32) => (r = 1 ∧ (0 ≤ jn.toInt ∧ jn.toInt ≤ 1000000000)) ∨ (r = 0 ∧ ¬ (0 ≤ jn.toInt ∧ jn.toInt ≤ 1000000000))) := by
  refine rl_metr (cc := prog_1_method_24_code) (maxL := 1) (ret := (some .boolean)) (by decide) rfl (Nat.le_of_ble_eq_true rfl) ?_
  intro p e s m below meth c ls hx hb hr hml hown hts hlocks hP hK hS hN hl
  have hown : s.vm.findClass "RightsLimit" = some m.cls := hown
  have hG : ∀ x ∈ rl_G, x.before _ s = true := fun x h => hts x (List.mem_cons_of_mem _ h)
  have hl : lv_has ls 1 [(0, .int jn)] := hl
  refine lv_iload_n hx hb d_x_isTime_0 rfl (lv_at hl 0 rfl) ?_
  refine lv_iconst (v := 0) hx hb d_x_isTime_1 (by decide) ?_
  refine lv_ldc (v := 1000000000) hx hb hown (hG _ wd_239) d_x_isTime_2 ?_
  refine rl_callr hS (va_runS (As := [.int jn, .int 0, .int 1000000000]) (rest := []) ⟨hx, hb, hml, hown, hG⟩ (k_x_isBetween l D a kI kZ jn 0 1000000000 _) (cwS 3 hG (rl_gS wd_200 wd_201 wd_14 wd_202) rfl rfl rfl (by decide +kernel) ⟨Nat.le_of_ble_eq_true rfl, Nat.le_of_ble_eq_true rfl⟩) (rl_BR.pre rl_nw_ok rl_P0 hK hN) rfl rfl hl.1 rfl (lv_room (Nat.le_of_ble_eq_true rfl)) d_x_isTime_4 ⟨Nat.le_of_ble_eq_true rfl, Nat.le_of_ble_eq_true rfl⟩) (fun r1 locs hw hS => ?_)
  try simp only [rl_n0, rl_n1000000000] at hw
  rcases hw with ⟨rfl, h2⟩ | ⟨rfl, h2⟩
  · exact W.zret (v := 1) hx hb hr rfl (fun t ht hW => ⟨⟨1, (), rfl, Or.inl ⟨rfl, by omega⟩, ht⟩, hS.F ht⟩) hS.2.2 d_x_isTime_7
  · exact W.zret (v := 0) hx hb hr rfl (fun t ht hW => ⟨⟨0, (), rfl, Or.inr ⟨rfl, by omega⟩, ht⟩, hS.F ht⟩) hS.2.2 d_x_isTime_7
set_option maxHeartbeats 4000000 in
set_option maxRecDepth 100000 in
theorem k_x_isPublisher (l : Launch) (D : va_G) (a : Nat → Nat) (kI kZ : ClassId) (jn : Int32) (H0 : Heap) : rl_Ri l ⟨"RightsLimit", "isPublisher", "(I)Z"⟩ (Cond.code ⟨"RightsLimit", "isPublisher", "(I)Z"⟩ prog_1_method_25_code 1 (some .boolean) :: rl_G) { frames := 1, cells := 0, slots := 0, locals := 22 } D rl_cl (rl_tys kI kZ) rl_nw [.int jn] [] H0 (fun (r : Int32) => (r = 1 ∧ (0 ≤ jn.toInt ∧ jn.toInt ≤ 99)) ∨ (r = 0 ∧ ¬ (0 ≤ jn.toInt ∧ jn.toInt ≤ 99))) := by
  refine rl_metr (cc := prog_1_method_25_code) (maxL := 1) (ret := (some .boolean)) (by decide) rfl (Nat.le_of_ble_eq_true rfl) ?_
  intro p e s m below meth c ls hx hb hr hml hown hts hlocks hP hK hS hN hl
  have hown : s.vm.findClass "RightsLimit" = some m.cls := hown
  have hG : ∀ x ∈ rl_G, x.before _ s = true := fun x h => hts x (List.mem_cons_of_mem _ h)
  have hl : lv_has ls 1 [(0, .int jn)] := hl
  refine lv_iload_n hx hb d_x_isPublisher_0 rfl (lv_at hl 0 rfl) ?_
  refine lv_iconst (v := 0) hx hb d_x_isPublisher_1 (by decide) ?_
  refine lv_bipush (v := 99) hx hb d_x_isPublisher_2 (by decide) ?_
  refine rl_callr hS (va_runS (As := [.int jn, .int 0, .int 99]) (rest := []) ⟨hx, hb, hml, hown, hG⟩ (k_x_isBetween l D a kI kZ jn 0 99 _) (cwS 3 hG (rl_gS wd_200 wd_201 wd_14 wd_202) rfl rfl rfl (by decide +kernel) ⟨Nat.le_of_ble_eq_true rfl, Nat.le_of_ble_eq_true rfl⟩) (rl_BR.pre rl_nw_ok rl_P0 hK hN) rfl rfl hl.1 rfl (lv_room (Nat.le_of_ble_eq_true rfl)) d_x_isPublisher_4 ⟨Nat.le_of_ble_eq_true rfl, Nat.le_of_ble_eq_true rfl⟩) (fun r1 locs hw hS => ?_)
  try simp only [rl_n0, rl_n99] at hw
  rcases hw with ⟨rfl, h2⟩ | ⟨rfl, h2⟩
  · exact W.zret (v := 1) hx hb hr rfl (fun t ht hW => ⟨⟨1, (), rfl, Or.inl ⟨rfl, by omega⟩, ht⟩, hS.F ht⟩) hS.2.2 d_x_isPublisher_7
  · exact W.zret (v := 0) hx hb hr rfl (fun t ht hW => ⟨⟨0, (), rfl, Or.inr ⟨rfl, by omega⟩, ht⟩, hS.F ht⟩) hS.2.2 d_x_isPublisher_7
set_option maxHeartbeats 4000000 in
set_option maxRecDepth 100000 in
theorem k_x_isPerson (l : Launch) (D : va_G) (a : Nat → Nat) (kI kZ : ClassId) (jn : Int32) (H0 : Heap) : rl_Ri l ⟨"RightsLimit", "isPerson", "(I)Z"⟩ (Cond.code ⟨"RightsLimit", "isPerson", "(I)Z"⟩ prog_1_method_26_code 1 (some .boolean) :: rl_G) { frames := 1, cells := 0, slots := 0, locals := 22 } D rl_cl (rl_tys kI kZ) rl_nw [.int jn] [] H0 (fun (r : Int32) => (r = 1 ∧ (0 ≤ jn.toInt ∧ jn.toInt ≤ 99)) ∨ (r = 0 ∧ ¬ (0 ≤ jn.toInt ∧ jn.toInt ≤ 99))) := by
  refine rl_metr (cc := prog_1_method_26_code) (maxL := 1) (ret := (some .boolean)) (by decide) rfl (Nat.le_of_ble_eq_true rfl) ?_
  intro p e s m below meth c ls hx hb hr hml hown hts hlocks hP hK hS hN hl
  have hown : s.vm.findClass "RightsLimit" = some m.cls := hown
  have hG : ∀ x ∈ rl_G, x.before _ s = true := fun x h => hts x (List.mem_cons_of_mem _ h)
  have hl : lv_has ls 1 [(0, .int jn)] := hl
  refine lv_iload_n hx hb d_x_isPerson_0 rfl (lv_at hl 0 rfl) ?_
  refine lv_iconst (v := 0) hx hb d_x_isPerson_1 (by decide) ?_
  refine lv_bipush (v := 99) hx hb d_x_isPerson_2 (by decide) ?_
  refine rl_callr hS (va_runS (As := [.int jn, .int 0, .int 99]) (rest := []) ⟨hx, hb, hml, hown, hG⟩ (k_x_isBetween l D a kI kZ jn 0 99 _) (cwS 3 hG (rl_gS wd_200 wd_201 wd_14 wd_202) rfl rfl rfl (by decide +kernel) ⟨Nat.le_of_ble_eq_true rfl, Nat.le_of_ble_eq_true rfl⟩) (rl_BR.pre rl_nw_ok rl_P0 hK hN) rfl rfl hl.1 rfl (lv_room (Nat.le_of_ble_eq_true rfl)) d_x_isPerson_4 ⟨Nat.le_of_ble_eq_true rfl, Nat.le_of_ble_eq_true rfl⟩) (fun r1 locs hw hS => ?_)
  try simp only [rl_n0, rl_n99] at hw
  rcases hw with ⟨rfl, h2⟩ | ⟨rfl, h2⟩
  · exact W.zret (v := 1) hx hb hr rfl (fun t ht hW => ⟨⟨1, (), rfl, Or.inl ⟨rfl, by omega⟩, ht⟩, hS.F ht⟩) hS.2.2 d_x_isPerson_7
  · exact W.zret (v := 0) hx hb hr rfl (fun t ht hW => ⟨⟨0, (), rfl, Or.inr ⟨rfl, by omega⟩, ht⟩, hS.F ht⟩) hS.2.2 d_x_isPerson_7
set_option maxHeartbeats 4000000 in
set_option maxRecDepth 100000 in
theorem k_x_isKind (l : Launch) (D : va_G) (a : Nat → Nat) (kI kZ : ClassId) (jn : Int32) (H0 : Heap) : rl_Ri l ⟨"RightsLimit", "isKind", "(I)Z"⟩ (Cond.code ⟨"RightsLimit", "isKind", "(I)Z"⟩ prog_1_method_27_code 1 (some .boolean) :: rl_G) { frames := 1, cells := 0, slots := 0, locals := 22 } D rl_cl (rl_tys kI kZ) rl_nw [.int jn] [] H0 (fun (r : Int32) => (r = 1 ∧ (0 ≤ jn.toInt ∧ jn.toInt ≤ 1)) ∨ (r = 0 ∧ ¬ (0 ≤ jn.toInt ∧ jn.toInt ≤ 1))) := by
  refine rl_metr (cc := prog_1_method_27_code) (maxL := 1) (ret := (some .boolean)) (by decide) rfl (Nat.le_of_ble_eq_true rfl) ?_
  intro p e s m below meth c ls hx hb hr hml hown hts hlocks hP hK hS hN hl
  have hown : s.vm.findClass "RightsLimit" = some m.cls := hown
  have hG : ∀ x ∈ rl_G, x.before _ s = true := fun x h => hts x (List.mem_cons_of_mem _ h)
  have hl : lv_has ls 1 [(0, .int jn)] := hl
  refine lv_iload_n hx hb d_x_isKind_0 rfl (lv_at hl 0 rfl) ?_
  refine lv_iconst (v := 0) hx hb d_x_isKind_1 (by decide) ?_
  refine lv_iconst (v := 1) hx hb d_x_isKind_2 (by decide) ?_
  refine rl_callr hS (va_runS (As := [.int jn, .int 0, .int 1]) (rest := []) ⟨hx, hb, hml, hown, hG⟩ (k_x_isBetween l D a kI kZ jn 0 1 _) (cwS 3 hG (rl_gS wd_200 wd_201 wd_14 wd_202) rfl rfl rfl (by decide +kernel) ⟨Nat.le_of_ble_eq_true rfl, Nat.le_of_ble_eq_true rfl⟩) (rl_BR.pre rl_nw_ok rl_P0 hK hN) rfl rfl hl.1 rfl (lv_room (Nat.le_of_ble_eq_true rfl)) d_x_isKind_3 ⟨Nat.le_of_ble_eq_true rfl, Nat.le_of_ble_eq_true rfl⟩) (fun r1 locs hw hS => ?_)
  try simp only [rl_n0, rl_n1] at hw
  rcases hw with ⟨rfl, h2⟩ | ⟨rfl, h2⟩
  · exact W.zret (v := 1) hx hb hr rfl (fun t ht hW => ⟨⟨1, (), rfl, Or.inl ⟨rfl, by omega⟩, ht⟩, hS.F ht⟩) hS.2.2 d_x_isKind_6
  · exact W.zret (v := 0) hx hb hr rfl (fun t ht hW => ⟨⟨0, (), rfl, Or.inr ⟨rfl, by omega⟩, ht⟩, hS.F ht⟩) hS.2.2 d_x_isKind_6
set_option maxHeartbeats 4000000 in
set_option maxRecDepth 100000 in
theorem k_x_isDays (l : Launch) (D : va_G) (a : Nat → Nat) (kI kZ : ClassId) (jn : Int32) (H0 : Heap) : rl_Ri l ⟨"RightsLimit", "isDays", "(I)Z"⟩ (Cond.code ⟨"RightsLimit", "isDays", "(I)Z"⟩ prog_1_method_28_code 1 (some .boolean) :: rl_G) { frames := 1, cells := 0, slots := 0, locals := 22 } D rl_cl (rl_tys kI kZ) rl_nw [.int jn] [] H0 (fun (r : Int32) => (r = 1 ∧ (1 ≤ jn.toInt ∧ jn.toInt ≤ 5000)) ∨ (r = 0 ∧ ¬ (1 ≤ jn.toInt ∧ jn.toInt ≤ 5000))) := by
  refine rl_metr (cc := prog_1_method_28_code) (maxL := 1) (ret := (some .boolean)) (by decide) rfl (Nat.le_of_ble_eq_true rfl) ?_
  intro p e s m below meth c ls hx hb hr hml hown hts hlocks hP hK hS hN hl
  have hown : s.vm.findClass "RightsLimit" = some m.cls := hown
  have hG : ∀ x ∈ rl_G, x.before _ s = true := fun x h => hts x (List.mem_cons_of_mem _ h)
  have hl : lv_has ls 1 [(0, .int jn)] := hl
  refine lv_iload_n hx hb d_x_isDays_0 rfl (lv_at hl 0 rfl) ?_
  refine lv_iconst (v := 1) hx hb d_x_isDays_1 (by decide) ?_
  refine lv_sipush (v := 5000) hx hb d_x_isDays_2 (by decide) ?_
  refine rl_callr hS (va_runS (As := [.int jn, .int 1, .int 5000]) (rest := []) ⟨hx, hb, hml, hown, hG⟩ (k_x_isBetween l D a kI kZ jn 1 5000 _) (cwS 3 hG (rl_gS wd_200 wd_201 wd_14 wd_202) rfl rfl rfl (by decide +kernel) ⟨Nat.le_of_ble_eq_true rfl, Nat.le_of_ble_eq_true rfl⟩) (rl_BR.pre rl_nw_ok rl_P0 hK hN) rfl rfl hl.1 rfl (lv_room (Nat.le_of_ble_eq_true rfl)) d_x_isDays_5 ⟨Nat.le_of_ble_eq_true rfl, Nat.le_of_ble_eq_true rfl⟩) (fun r1 locs hw hS => ?_)
  try simp only [rl_n1, rl_n5000] at hw
  rcases hw with ⟨rfl, h2⟩ | ⟨rfl, h2⟩
  · exact W.zret (v := 1) hx hb hr rfl (fun t ht hW => ⟨⟨1, (), rfl, Or.inl ⟨rfl, by omega⟩, ht⟩, hS.F ht⟩) hS.2.2 d_x_isDays_8
  · exact W.zret (v := 0) hx hb hr rfl (fun t ht hW => ⟨⟨0, (), rfl, Or.inr ⟨rfl, by omega⟩, ht⟩, hS.F ht⟩) hS.2.2 d_x_isDays_8
set_option maxHeartbeats 4000000 in
set_option maxRecDepth 100000 in
theorem k_x_isCopies (l : Launch) (D : va_G) (a : Nat → Nat) (kI kZ : ClassId) (jn : Int32) (H0 : Heap) : rl_Ri l ⟨"RightsLimit", "isCopies", "(I)Z"⟩ (Cond.code ⟨"RightsLimit", "isCopies", "(I)Z"⟩ prog_1_method_29_code 1 (some .boolean) :: rl_G) { frames := 1, cells := 0, slots := 0, locals := 22 } D rl_cl (rl_tys kI kZ) rl_nw [.int jn] [] H0 (fun (r : Int32) => (r = 1 ∧ (0 ≤ jn.toInt ∧ jn.toInt ≤ 1000)) ∨ (r = 0 ∧ ¬ (0 ≤ jn.toInt ∧ jn.toInt ≤ 1000))) := by
  refine rl_metr (cc := prog_1_method_29_code) (maxL := 1) (ret := (some .boolean)) (by decide) rfl (Nat.le_of_ble_eq_true rfl) ?_
  intro p e s m below meth c ls hx hb hr hml hown hts hlocks hP hK hS hN hl
  have hown : s.vm.findClass "RightsLimit" = some m.cls := hown
  have hG : ∀ x ∈ rl_G, x.before _ s = true := fun x h => hts x (List.mem_cons_of_mem _ h)
  have hl : lv_has ls 1 [(0, .int jn)] := hl
  refine lv_iload_n hx hb d_x_isCopies_0 rfl (lv_at hl 0 rfl) ?_
  refine lv_iconst (v := 0) hx hb d_x_isCopies_1 (by decide) ?_
  refine lv_sipush (v := 1000) hx hb d_x_isCopies_2 (by decide) ?_
  refine rl_callr hS (va_runS (As := [.int jn, .int 0, .int 1000]) (rest := []) ⟨hx, hb, hml, hown, hG⟩ (k_x_isBetween l D a kI kZ jn 0 1000 _) (cwS 3 hG (rl_gS wd_200 wd_201 wd_14 wd_202) rfl rfl rfl (by decide +kernel) ⟨Nat.le_of_ble_eq_true rfl, Nat.le_of_ble_eq_true rfl⟩) (rl_BR.pre rl_nw_ok rl_P0 hK hN) rfl rfl hl.1 rfl (lv_room (Nat.le_of_ble_eq_true rfl)) d_x_isCopies_5 ⟨Nat.le_of_ble_eq_true rfl, Nat.le_of_ble_eq_true rfl⟩) (fun r1 locs hw hS => ?_)
  try simp only [rl_n0, rl_n1000] at hw
  rcases hw with ⟨rfl, h2⟩ | ⟨rfl, h2⟩
  · exact W.zret (v := 1) hx hb hr rfl (fun t ht hW => ⟨⟨1, (), rfl, Or.inl ⟨rfl, by omega⟩, ht⟩, hS.F ht⟩) hS.2.2 d_x_isCopies_8
  · exact W.zret (v := 0) hx hb hr rfl (fun t ht hW => ⟨⟨0, (), rfl, Or.inr ⟨rfl, by omega⟩, ht⟩, hS.F ht⟩) hS.2.2 d_x_isCopies_8
set_option maxHeartbeats 4000000 in
set_option maxRecDepth 100000 in
theorem k_t_has (l : Launch) (D : va_G) (a : Nat → Nat) (kI kZ : ClassId) (F : Nat → Nat → Int32) (jn : Int32) (hI : rl_I F) (H0 : Heap) : rl_Ri l ⟨"RightsLimit$Titles", "has", "(I)Z"⟩ (Cond.code ⟨"RightsLimit$Titles", "has", "(I)Z"⟩ prog_5_method_2_code 2 (some .boolean) :: rl_G) { frames := 0, cells := 0, slots := 0, locals := 0 } D rl_cl (rl_tys kI kZ) rl_nw [.ref (a 1), .int jn] (rl_w a kI kZ F) H0 (fun (r : Int32) => (r = 1 ∧ (0 ≤ jn.toInt ∧ jn.toInt < (F 27 0).toInt)) ∨ (r = 0 ∧ ¬ (0 ≤ jn.toInt ∧ jn.toInt < (F 27 0).toInt))) := by
  refine rl_metr (cc := prog_5_method_2_code) (maxL := 2) (ret := (some .boolean)) (by decide) rfl (Nat.le_of_ble_eq_true rfl) ?_
  intro p e s m below meth c ls hx hb hr hml hown hts hlocks hP hK hS hN hl
  have hown : s.vm.findClass "RightsLimit$Titles" = some m.cls := hown
  have hG : ∀ x ∈ rl_G, x.before _ s = true := fun x h => hts x (List.mem_cons_of_mem _ h)
  have hl : lv_has ls 2 [(0, .ref (a 1)), (1, .int jn)] := hl
  obtain ⟨hcnt, hR⟩ := id hI
  refine lv_iload_n hx hb d_t_has_0 rfl (lv_at hl 1 rfl) ?_
  refine lv_if_lt (tgt := 16) hx hb d_t_has_1 (by decide) (fun c1 => ?_) (fun c1 => ?_)
  · have ic1 := rl_ilt c1
    simp only [rl_n0] at ic1
    refine lv_iconst (v := 0) hx hb d_t_has_16 (by decide) ?_
    exact W.zret (v := 0) hx hb hr rfl (fun t ht hW => ⟨⟨0, (), rfl, Or.inr ⟨rfl, by omega⟩, ht⟩, hS.F ht⟩) hS.2.2 d_t_has_17
  · have ic1 := rl_inlt c1
    simp only [rl_n0] at ic1
    refine lv_iload_n hx hb d_t_has_4 rfl (lv_at hl 1 rfl) ?_
    refine lv_aload_n hx hb d_t_has_5 rfl (lv_at hl 0 rfl) ?_
    refine va_get (D := D) (ci := 1) (v := .int (F 27 0)) (C := "RightsLimit$Titles") (T := fT_t) (N := 5) hx hb hG fi_t hown hK hP 1 rfl rfl 4 (by decide) (hG _ wd_46) (fun _ h9 => h9) rfl d_t_has_6 ?_
    refine lv_icmp_ge (tgt := 16) hx hb d_t_has_9 (by decide) (fun c2 => ?_) (fun c2 => ?_)
    · have ic2 := rl_ile c2
      refine lv_iconst (v := 0) hx hb d_t_has_16 (by decide) ?_
      exact W.zret (v := 0) hx hb hr rfl (fun t ht hW => ⟨⟨0, (), rfl, Or.inr ⟨rfl, by omega⟩, ht⟩, hS.F ht⟩) hS.2.2 d_t_has_17
    · have ic2 := rl_inle c2
      refine lv_iconst (v := 1) hx hb d_t_has_12 (by decide) ?_
      refine lv_goto (tgt := 17) hx hb d_t_has_13 (by decide) ?_
      exact W.zret (v := 1) hx hb hr rfl (fun t ht hW => ⟨⟨1, (), rfl, Or.inl ⟨rfl, by omega⟩, ht⟩, hS.F ht⟩) hS.2.2 d_t_has_17
set_option maxHeartbeats 4000000 in
set_option maxRecDepth 100000 in
theorem k_t_add (l : Launch) (D : va_G) (a : Nat → Nat) (kI kZ : ClassId) (F : Nat → Nat → Int32) (jp : Int32) (hI : rl_I F) (hp0 : 0 ≤ jp.toInt) (hp1 : jp.toInt < 100) (sz : Nat) : rl_Ci (S := Nat → Nat → Int32) l ⟨"RightsLimit$Titles", "add", "(I)I"⟩ (Cond.code ⟨"RightsLimit$Titles", "add", "(I)I"⟩ prog_5_method_3_code 2 (some .int) :: rl_G) { frames := 0, cells := 0, slots := 0, locals := 0 } D rl_cl (rl_tys kI kZ) rl_nw [.ref (a 1), .int jp] (rl_w a kI kZ F) sz (fun (r : Int32) (F' : Nat → Nat → Int32) => rl_R F' ∧ (((F 27 0).toInt < 50 ∧ r.toInt = (F 27 0).toInt ∧ (F' 27 0).toInt = (F 27 0).toInt + 1 ∧ (F' 27 1).toInt = (F 27 1).toInt ∧ (F' 27 2).toInt = (F 27 2).toInt ∧ (F' 27 3).toInt = (F 27 3).toInt) ∨ (50 ≤ (F 27 0).toInt ∧ r.toInt = -4 ∧ (F' 27 0).toInt = (F 27 0).toInt ∧ (F' 27 1).toInt = (F 27 1).toInt ∧ (F' 27 2).toInt = (F 27 2).toInt ∧ (F' 27 3).toInt = (F 27 3).toInt))) (fun F' => rl_w a kI kZ F') 0 0 := by
  refine rl_meti (cc := prog_5_method_3_code) (maxL := 2) (ret := (some .int)) (by decide) rfl (Nat.le_of_ble_eq_true rfl) ?_
  intro p e s m below meth c A ls hx hb hr hml hown hts hlocks hnm hP hK hD hS hA hN hl
  have hown : s.vm.findClass "RightsLimit$Titles" = some m.cls := hown
  have hG : ∀ x ∈ rl_G, x.before _ s = true := fun x h => hts x (List.mem_cons_of_mem _ h)
  have hl : lv_has ls 2 [(0, .ref (a 1)), (1, .int jp)] := hl
  obtain ⟨hcnt, hR⟩ := id hI
  refine lv_aload_n hx hb d_t_add_0 rfl (lv_at hl 0 rfl) ?_
  refine va_get (D := D) (ci := 1) (v := .int (F 27 0)) (C := "RightsLimit$Titles") (T := fT_t) (N := 5) hx hb hG fi_t hown hK hP 1 rfl rfl 4 (by decide) (hG _ wd_46) (fun _ h9 => h9) rfl d_t_add_1 ?_
  refine lv_bipush (v := 50) hx hb d_t_add_4 (by decide) ?_
  refine lv_icmp_lt (tgt := 12) hx hb d_t_add_6 (by decide) (fun c1 => ?_) (fun c1 => ?_)
  · have ic1 := rl_ilt c1
    simp only [rl_n50] at ic1
    refine lv_aload_n hx hb d_t_add_12 rfl (lv_at hl 0 rfl) ?_
    refine va_get (D := D) (ci := 1) (v := .ref (a 5)) (C := "RightsLimit$Titles") (T := fT_t) (N := 5) hx hb hG fi_t hown hK hP 1 rfl rfl 0 (by decide) (hG _ wd_38) (fun _ h9 => h9) rfl d_t_add_13 ?_
    refine lv_aload_n hx hb d_t_add_16 rfl (lv_at hl 0 rfl) ?_
    refine va_get (D := D) (ci := 1) (v := .int (F 27 0)) (C := "RightsLimit$Titles") (T := fT_t) (N := 5) hx hb hG fi_t hown hK hP 1 rfl rfl 4 (by decide) (hG _ wd_46) (fun _ h9 => h9) rfl d_t_add_17 ?_
    refine lv_iload_n hx hb d_t_add_20 rfl (lv_at hl 1 rfl) ?_
    refine va_iast hx hb hK hP hD hS 5 0 rfl rfl (rl_in (n := 50) (by omega) (by omega)) d_t_add_21 (fun H locs hP hD hS => ?_)
    obtain ⟨F2, eF2⟩ : ∃ G, G = rl_st F 0 ((F 27 0).toNatClampNeg) jp := ⟨_, rfl⟩
    have hP : va_P D rl_cl (rl_w a kI kZ F2) H := by rw [eF2]; exact hP
    have hD : va_D A (rl_w a kI kZ F2) := by rw [eF2]; exact hD
    obtain ⟨tF2, hRF2⟩ := rl_keep0 eF2 (⟨by omega, by omega⟩) hR
    refine lv_aload_n hx hb d_t_add_22 rfl (lv_at hl 0 rfl) ?_
    refine lv_dup hx hb d_t_add_23 rfl ?_
    refine va_get (D := D) (ci := 1) (v := .int (F2 27 0)) (C := "RightsLimit$Titles") (T := fT_t) (N := 5) hx hb hG fi_t hown hK hP 1 rfl rfl 4 (by decide) (hG _ wd_46) (fun _ h9 => h9) rfl d_t_add_24 ?_
    refine lv_iconst (v := 1) hx hb d_t_add_27 (by decide) ?_
    refine lv_iadd hx hb d_t_add_28 ?_
    refine lv_topi (fun v3 ev3 => ?_)
    have iv3 : v3.toInt = (F2 27 0).toInt + 1 := by rw [ev3]; exact rl_addk (by decide) (by omega) (by omega)
    refine va_put (D := D) (ci := 1) (v := .int v3) (ty := .int) (C := "RightsLimit$Titles") (T := fT_t) (N := 5) hx hb hG fi_t fy_t fo_t fn_t hown hK hP hD hS 1 rfl rfl 4 (by decide) (hG _ wd_46) (fun _ h9 => h9) rfl (by decide +kernel) rfl rfl (Nat.le_of_ble_eq_true rfl) d_t_add_29 (fun H locs hP hD hS => ?_)
    obtain ⟨F4, eF4⟩ : ∃ G, G = rl_st F2 27 0 v3 := ⟨_, rfl⟩
    have hP : va_P D rl_cl (rl_w a kI kZ F4) H := by rw [eF4]; exact hP
    have hD : va_D A (rl_w a kI kZ F4) := by rw [eF4]; exact hD
    obtain ⟨tF4, hRF4⟩ := rl_put0 eF4 hRF2
    refine lv_aload_n hx hb d_t_add_32 rfl (lv_at hl 0 rfl) ?_
    refine va_get (D := D) (ci := 1) (v := .int (F4 27 0)) (C := "RightsLimit$Titles") (T := fT_t) (N := 5) hx hb hG fi_t hown hK hP 1 rfl rfl 4 (by decide) (hG _ wd_46) (fun _ h9 => h9) rfl d_t_add_33 ?_
    refine lv_iconst (v := 1) hx hb d_t_add_36 (by decide) ?_
    refine lv_isub hx hb d_t_add_37 ?_
    refine lv_topi (fun v5 ev5 => ?_)
    have iv5 : v5.toInt = (F4 27 0).toInt - 1 := by rw [ev5]; exact rl_subk (by decide) (by omega) (by omega)
    exact W.iret (v := v5) hx hb hr (fun t ht hW => ⟨⟨v5, F4, rfl, ⟨hRF4, (show ((F 27 0).toInt < 50 ∧ v5.toInt = (F 27 0).toInt ∧ (F4 27 0).toInt = (F 27 0).toInt + 1 ∧ (F4 27 1).toInt = (F 27 1).toInt ∧ (F4 27 2).toInt = (F 27 2).toInt ∧ (F4 27 3).toInt = (F 27 3).toInt) ∨ (50 ≤ (F 27 0).toInt ∧ v5.toInt = -4 ∧ (F4 27 0).toInt = (F 27 0).toInt ∧ (F4 27 1).toInt = (F 27 1).toInt ∧ (F4 27 2).toInt = (F 27 2).toInt ∧ (F4 27 3).toInt = (F 27 3).toInt) by omega)⟩, ⟨by rw [ht]; exact hP, hD⟩⟩, hS.F ht⟩) hS.2.2 d_t_add_38
  · have ic1 := rl_inlt c1
    simp only [rl_n50] at ic1
    refine lv_bipush (v := (-4)) hx hb d_t_add_9 (by decide) ?_
    exact W.iret (v := (-4)) hx hb hr (fun t ht hW => ⟨⟨(-4), F, rfl, ⟨hR, (show ((F 27 0).toInt < 50 ∧ ((-4) : Int32).toInt = (F 27 0).toInt ∧ (F 27 0).toInt = (F 27 0).toInt + 1 ∧ (F 27 1).toInt = (F 27 1).toInt ∧ (F 27 2).toInt = (F 27 2).toInt ∧ (F 27 3).toInt = (F 27 3).toInt) ∨ (50 ≤ (F 27 0).toInt ∧ ((-4) : Int32).toInt = -4 ∧ (F 27 0).toInt = (F 27 0).toInt ∧ (F 27 1).toInt = (F 27 1).toInt ∧ (F 27 2).toInt = (F 27 2).toInt ∧ (F 27 3).toInt = (F 27 3).toInt) by have q9 := rl_nm4; omega)⟩, ⟨by rw [ht]; exact hP, hD⟩⟩, hS.F ht⟩) hS.2.2 d_t_add_11
set_option maxHeartbeats 4000000 in
set_option maxRecDepth 100000 in
theorem k_l_add (l : Launch) (D : va_G) (a : Nat → Nat) (kI kZ : ClassId) (F : Nat → Nat → Int32) (jp1 jp2 jp3 jp4 : Int32) (hI : rl_I F) (sz : Nat) : rl_Ci (S := Nat → Nat → Int32) l ⟨"RightsLimit$Limits", "add", "(IIII)I"⟩ (Cond.code ⟨"RightsLimit$Limits", "add", "(IIII)I"⟩ prog_3_method_2_code 5 (some .int) :: rl_G) { frames := 0, cells := 0, slots := 0, locals := 0 } D rl_cl (rl_tys kI kZ) rl_nw [.ref (a 2), .int jp1, .int jp2, .int jp3, .int jp4] (rl_w a kI kZ F) sz (fun (r : Int32) (F' : Nat → Nat → Int32) => rl_R F' ∧ (((F 27 1).toInt < 100 ∧ r.toInt = (F 27 1).toInt ∧ (F' 27 1).toInt = (F 27 1).toInt + 1 ∧ (F' 27 0).toInt = (F 27 0).toInt ∧ (F' 27 2).toInt = (F 27 2).toInt ∧ (F' 27 3).toInt = (F 27 3).toInt) ∨ (100 ≤ (F 27 1).toInt ∧ r.toInt = -4 ∧ (F' 27 0).toInt = (F 27 0).toInt ∧ (F' 27 1).toInt = (F 27 1).toInt ∧ (F' 27 2).toInt = (F 27 2).toInt ∧ (F' 27 3).toInt = (F 27 3).toInt))) (fun F' => rl_w a kI kZ F') 0 0 := by
  refine rl_meti (cc := prog_3_method_2_code) (maxL := 5) (ret := (some .int)) (by decide) rfl (Nat.le_of_ble_eq_true rfl) ?_
  intro p e s m below meth c A ls hx hb hr hml hown hts hlocks hnm hP hK hD hS hA hN hl
  have hown : s.vm.findClass "RightsLimit$Limits" = some m.cls := hown
  have hG : ∀ x ∈ rl_G, x.before _ s = true := fun x h => hts x (List.mem_cons_of_mem _ h)
  have hl : lv_has ls 5 [(0, .ref (a 2)), (1, .int jp1), (2, .int jp2), (3, .int jp3), (4, .int jp4)] := hl
  obtain ⟨hcnt, hR⟩ := id hI
  refine lv_aload_n hx hb d_l_add_0 rfl (lv_at hl 0 rfl) ?_
  refine va_get (D := D) (ci := 2) (v := .int (F 27 1)) (C := "RightsLimit$Limits") (T := fT_l) (N := 5) hx hb hG fi_l hown hK hP 2 rfl rfl 4 (by decide) (hG _ wd_72) (fun _ h9 => h9) rfl d_l_add_1 ?_
  refine lv_bipush (v := 100) hx hb d_l_add_4 (by decide) ?_
  refine lv_icmp_lt (tgt := 12) hx hb d_l_add_6 (by decide) (fun c1 => ?_) (fun c1 => ?_)
  · have ic1 := rl_ilt c1
    simp only [rl_n100] at ic1
    refine lv_aload_n hx hb d_l_add_12 rfl (lv_at hl 0 rfl) ?_
    refine va_get (D := D) (ci := 2) (v := .ref (a 9)) (C := "RightsLimit$Limits") (T := fT_l) (N := 5) hx hb hG fi_l hown hK hP 2 rfl rfl 0 (by decide) (hG _ wd_66) (fun _ h9 => h9) rfl d_l_add_13 ?_
    refine lv_aload_n hx hb d_l_add_16 rfl (lv_at hl 0 rfl) ?_
    refine va_get (D := D) (ci := 2) (v := .int (F 27 1)) (C := "RightsLimit$Limits") (T := fT_l) (N := 5) hx hb hG fi_l hown hK hP 2 rfl rfl 4 (by decide) (hG _ wd_72) (fun _ h9 => h9) rfl d_l_add_17 ?_
    refine lv_iload_n hx hb d_l_add_20 rfl (lv_at hl 1 rfl) ?_
    refine va_iast hx hb hK hP hD hS 9 0 rfl rfl (rl_in (n := 100) (by omega) (by omega)) d_l_add_21 (fun H locs hP hD hS => ?_)
    obtain ⟨F2, eF2⟩ : ∃ G, G = rl_st F 4 ((F 27 1).toNatClampNeg) jp1 := ⟨_, rfl⟩
    have hP : va_P D rl_cl (rl_w a kI kZ F2) H := by rw [eF2]; exact hP
    have hD : va_D A (rl_w a kI kZ F2) := by rw [eF2]; exact hD
    obtain ⟨tF2, hRF2⟩ := rl_keep eF2 (by decide) (by decide) hR
    refine lv_aload_n hx hb d_l_add_22 rfl (lv_at hl 0 rfl) ?_
    refine va_get (D := D) (ci := 2) (v := .ref (a 10)) (C := "RightsLimit$Limits") (T := fT_l) (N := 5) hx hb hG fi_l hown hK hP 2 rfl rfl 1 (by decide) (hG _ wd_67) (fun _ h9 => h9) rfl d_l_add_23 ?_
    refine lv_aload_n hx hb d_l_add_26 rfl (lv_at hl 0 rfl) ?_
    refine va_get (D := D) (ci := 2) (v := .int (F2 27 1)) (C := "RightsLimit$Limits") (T := fT_l) (N := 5) hx hb hG fi_l hown hK hP 2 rfl rfl 4 (by decide) (hG _ wd_72) (fun _ h9 => h9) rfl d_l_add_27 ?_
    refine lv_iload_n hx hb d_l_add_30 rfl (lv_at hl 2 rfl) ?_
    refine va_iast hx hb hK hP hD hS 10 0 rfl rfl (rl_in (n := 100) (by omega) (by omega)) d_l_add_31 (fun H locs hP hD hS => ?_)
    obtain ⟨F3, eF3⟩ : ∃ G, G = rl_st F2 5 ((F2 27 1).toNatClampNeg) jp2 := ⟨_, rfl⟩
    have hP : va_P D rl_cl (rl_w a kI kZ F3) H := by rw [eF3]; exact hP
    have hD : va_D A (rl_w a kI kZ F3) := by rw [eF3]; exact hD
    obtain ⟨tF3, hRF3⟩ := rl_keep eF3 (by decide) (by decide) hRF2
    refine lv_aload_n hx hb d_l_add_32 rfl (lv_at hl 0 rfl) ?_
    refine va_get (D := D) (ci := 2) (v := .ref (a 11)) (C := "RightsLimit$Limits") (T := fT_l) (N := 5) hx hb hG fi_l hown hK hP 2 rfl rfl 2 (by decide) (hG _ wd_68) (fun _ h9 => h9) rfl d_l_add_33 ?_
    refine lv_aload_n hx hb d_l_add_36 rfl (lv_at hl 0 rfl) ?_
    refine va_get (D := D) (ci := 2) (v := .int (F3 27 1)) (C := "RightsLimit$Limits") (T := fT_l) (N := 5) hx hb hG fi_l hown hK hP 2 rfl rfl 4 (by decide) (hG _ wd_72) (fun _ h9 => h9) rfl d_l_add_37 ?_
    refine lv_iload_n hx hb d_l_add_40 rfl (lv_at hl 3 rfl) ?_
    refine va_iast hx hb hK hP hD hS 11 0 rfl rfl (rl_in (n := 100) (by omega) (by omega)) d_l_add_41 (fun H locs hP hD hS => ?_)
    obtain ⟨F4, eF4⟩ : ∃ G, G = rl_st F3 6 ((F3 27 1).toNatClampNeg) jp3 := ⟨_, rfl⟩
    have hP : va_P D rl_cl (rl_w a kI kZ F4) H := by rw [eF4]; exact hP
    have hD : va_D A (rl_w a kI kZ F4) := by rw [eF4]; exact hD
    obtain ⟨tF4, hRF4⟩ := rl_keep eF4 (by decide) (by decide) hRF3
    refine lv_aload_n hx hb d_l_add_42 rfl (lv_at hl 0 rfl) ?_
    refine va_get (D := D) (ci := 2) (v := .ref (a 12)) (C := "RightsLimit$Limits") (T := fT_l) (N := 5) hx hb hG fi_l hown hK hP 2 rfl rfl 3 (by decide) (hG _ wd_70) (fun _ h9 => h9) rfl d_l_add_43 ?_
    refine lv_aload_n hx hb d_l_add_46 rfl (lv_at hl 0 rfl) ?_
    refine va_get (D := D) (ci := 2) (v := .int (F4 27 1)) (C := "RightsLimit$Limits") (T := fT_l) (N := 5) hx hb hG fi_l hown hK hP 2 rfl rfl 4 (by decide) (hG _ wd_72) (fun _ h9 => h9) rfl d_l_add_47 ?_
    refine lv_iload hx hb d_l_add_50 (lv_at hl 4 rfl) ?_
    refine va_iast hx hb hK hP hD hS 12 0 rfl rfl (rl_in (n := 100) (by omega) (by omega)) d_l_add_52 (fun H locs hP hD hS => ?_)
    obtain ⟨F5, eF5⟩ : ∃ G, G = rl_st F4 7 ((F4 27 1).toNatClampNeg) jp4 := ⟨_, rfl⟩
    have hP : va_P D rl_cl (rl_w a kI kZ F5) H := by rw [eF5]; exact hP
    have hD : va_D A (rl_w a kI kZ F5) := by rw [eF5]; exact hD
    obtain ⟨tF5, hRF5⟩ := rl_keep eF5 (by decide) (by decide) hRF4
    refine lv_aload_n hx hb d_l_add_53 rfl (lv_at hl 0 rfl) ?_
    refine lv_dup hx hb d_l_add_54 rfl ?_
    refine va_get (D := D) (ci := 2) (v := .int (F5 27 1)) (C := "RightsLimit$Limits") (T := fT_l) (N := 5) hx hb hG fi_l hown hK hP 2 rfl rfl 4 (by decide) (hG _ wd_72) (fun _ h9 => h9) rfl d_l_add_55 ?_
    refine lv_iconst (v := 1) hx hb d_l_add_58 (by decide) ?_
    refine lv_iadd hx hb d_l_add_59 ?_
    refine lv_topi (fun v6 ev6 => ?_)
    have iv6 : v6.toInt = (F5 27 1).toInt + 1 := by rw [ev6]; exact rl_addk (by decide) (by omega) (by omega)
    refine va_put (D := D) (ci := 2) (v := .int v6) (ty := .int) (C := "RightsLimit$Limits") (T := fT_l) (N := 5) hx hb hG fi_l fy_l fo_l fn_l hown hK hP hD hS 2 rfl rfl 4 (by decide) (hG _ wd_72) (fun _ h9 => h9) rfl (by decide +kernel) rfl rfl (Nat.le_of_ble_eq_true rfl) d_l_add_60 (fun H locs hP hD hS => ?_)
    obtain ⟨F7, eF7⟩ : ∃ G, G = rl_st F5 27 1 v6 := ⟨_, rfl⟩
    have hP : va_P D rl_cl (rl_w a kI kZ F7) H := by rw [eF7]; exact hP
    have hD : va_D A (rl_w a kI kZ F7) := by rw [eF7]; exact hD
    obtain ⟨tF7, hRF7⟩ := rl_put1 eF7 hRF5
    refine lv_aload_n hx hb d_l_add_63 rfl (lv_at hl 0 rfl) ?_
    refine va_get (D := D) (ci := 2) (v := .int (F7 27 1)) (C := "RightsLimit$Limits") (T := fT_l) (N := 5) hx hb hG fi_l hown hK hP 2 rfl rfl 4 (by decide) (hG _ wd_72) (fun _ h9 => h9) rfl d_l_add_64 ?_
    refine lv_iconst (v := 1) hx hb d_l_add_67 (by decide) ?_
    refine lv_isub hx hb d_l_add_68 ?_
    refine lv_topi (fun v8 ev8 => ?_)
    have iv8 : v8.toInt = (F7 27 1).toInt - 1 := by rw [ev8]; exact rl_subk (by decide) (by omega) (by omega)
    exact W.iret (v := v8) hx hb hr (fun t ht hW => ⟨⟨v8, F7, rfl, ⟨hRF7, (show ((F 27 1).toInt < 100 ∧ v8.toInt = (F 27 1).toInt ∧ (F7 27 1).toInt = (F 27 1).toInt + 1 ∧ (F7 27 0).toInt = (F 27 0).toInt ∧ (F7 27 2).toInt = (F 27 2).toInt ∧ (F7 27 3).toInt = (F 27 3).toInt) ∨ (100 ≤ (F 27 1).toInt ∧ v8.toInt = -4 ∧ (F7 27 0).toInt = (F 27 0).toInt ∧ (F7 27 1).toInt = (F 27 1).toInt ∧ (F7 27 2).toInt = (F 27 2).toInt ∧ (F7 27 3).toInt = (F 27 3).toInt) by omega)⟩, ⟨by rw [ht]; exact hP, hD⟩⟩, hS.F ht⟩) hS.2.2 d_l_add_69
  · have ic1 := rl_inlt c1
    simp only [rl_n100] at ic1
    refine lv_bipush (v := (-4)) hx hb d_l_add_9 (by decide) ?_
    exact W.iret (v := (-4)) hx hb hr (fun t ht hW => ⟨⟨(-4), F, rfl, ⟨hR, (show ((F 27 1).toInt < 100 ∧ ((-4) : Int32).toInt = (F 27 1).toInt ∧ (F 27 1).toInt = (F 27 1).toInt + 1 ∧ (F 27 0).toInt = (F 27 0).toInt ∧ (F 27 2).toInt = (F 27 2).toInt ∧ (F 27 3).toInt = (F 27 3).toInt) ∨ (100 ≤ (F 27 1).toInt ∧ ((-4) : Int32).toInt = -4 ∧ (F 27 0).toInt = (F 27 0).toInt ∧ (F 27 1).toInt = (F 27 1).toInt ∧ (F 27 2).toInt = (F 27 2).toInt ∧ (F 27 3).toInt = (F 27 3).toInt) by have q9 := rl_nm4; omega)⟩, ⟨by rw [ht]; exact hP, hD⟩⟩, hS.F ht⟩) hS.2.2 d_l_add_11
set_option maxHeartbeats 4000000 in
set_option maxRecDepth 100000 in
theorem k_l_isOf (l : Launch) (D : va_G) (a : Nat → Nat) (kI kZ : ClassId) (F : Nat → Nat → Int32) (jn jp1 jp2 : Int32) (hI : rl_I F) (hn0 : 0 ≤ jn.toInt) (hn1 : jn.toInt < 100) (H0 : Heap) : rl_Ri l ⟨"RightsLimit$Limits", "isOf", "(III)Z"⟩ (Cond.code ⟨"RightsLimit$Limits", "isOf", "(III)Z"⟩ prog_3_method_3_code 4 (some .boolean) :: rl_G) { frames := 0, cells := 0, slots := 0, locals := 0 } D rl_cl (rl_tys kI kZ) rl_nw [.ref (a 2), .int jn, .int jp1, .int jp2] (rl_w a kI kZ F) H0 (fun (r : Int32) => (r = 1 ∧ True) ∨ (r = 0 ∧ True)) := by
  refine rl_metr (cc := prog_3_method_3_code) (maxL := 4) (ret := (some .boolean)) (by decide) rfl (Nat.le_of_ble_eq_true rfl) ?_
  intro p e s m below meth c ls hx hb hr hml hown hts hlocks hP hK hS hN hl
  have hown : s.vm.findClass "RightsLimit$Limits" = some m.cls := hown
  have hG : ∀ x ∈ rl_G, x.before _ s = true := fun x h => hts x (List.mem_cons_of_mem _ h)
  have hl : lv_has ls 4 [(0, .ref (a 2)), (1, .int jn), (2, .int jp1), (3, .int jp2)] := hl
  obtain ⟨hcnt, hR⟩ := id hI
  refine lv_aload_n hx hb d_l_isOf_0 rfl (lv_at hl 0 rfl) ?_
  refine va_get (D := D) (ci := 2) (v := .ref (a 9)) (C := "RightsLimit$Limits") (T := fT_l) (N := 5) hx hb hG fi_l hown hK hP 2 rfl rfl 0 (by decide) (hG _ wd_66) (fun _ h9 => h9) rfl d_l_isOf_1 ?_
  refine lv_iload_n hx hb d_l_isOf_4 rfl (lv_at hl 1 rfl) ?_
  refine va_iald hx hb hK hP 9 0 rfl rfl (rl_in (n := 100) (by omega) (by omega)) d_l_isOf_5 ?_
  refine lv_topi (fun v1 ev1 => ?_)
  refine lv_iload_n hx hb d_l_isOf_6 rfl (lv_at hl 2 rfl) ?_
  refine lv_icmp_ne (tgt := 24) hx hb d_l_isOf_7 (by decide) (fun c2 => ?_) (fun c2 => ?_)
  · have ic2 := rl_ine c2
    refine lv_iconst (v := 0) hx hb d_l_isOf_24 (by decide) ?_
    exact W.zret (v := 0) hx hb hr rfl (fun t ht hW => ⟨⟨0, (), rfl, Or.inr ⟨rfl, trivial⟩, ht⟩, hS.F ht⟩) hS.2.2 d_l_isOf_25
  · have ic2 := rl_ieq c2
    refine lv_aload_n hx hb d_l_isOf_10 rfl (lv_at hl 0 rfl) ?_
    refine va_get (D := D) (ci := 2) (v := .ref (a 10)) (C := "RightsLimit$Limits") (T := fT_l) (N := 5) hx hb hG fi_l hown hK hP 2 rfl rfl 1 (by decide) (hG _ wd_67) (fun _ h9 => h9) rfl d_l_isOf_11 ?_
    refine lv_iload_n hx hb d_l_isOf_14 rfl (lv_at hl 1 rfl) ?_
    refine va_iald hx hb hK hP 10 0 rfl rfl (rl_in (n := 100) (by omega) (by omega)) d_l_isOf_15 ?_
    refine lv_topi (fun v3 ev3 => ?_)
    refine lv_iload_n hx hb d_l_isOf_16 rfl (lv_at hl 3 rfl) ?_
    refine lv_icmp_ne (tgt := 24) hx hb d_l_isOf_17 (by decide) (fun c4 => ?_) (fun c4 => ?_)
    · have ic4 := rl_ine c4
      refine lv_iconst (v := 0) hx hb d_l_isOf_24 (by decide) ?_
      exact W.zret (v := 0) hx hb hr rfl (fun t ht hW => ⟨⟨0, (), rfl, Or.inr ⟨rfl, trivial⟩, ht⟩, hS.F ht⟩) hS.2.2 d_l_isOf_25
    · have ic4 := rl_ieq c4
      refine lv_iconst (v := 1) hx hb d_l_isOf_20 (by decide) ?_
      refine lv_goto (tgt := 25) hx hb d_l_isOf_21 (by decide) ?_
      exact W.zret (v := 1) hx hb hr rfl (fun t ht hW => ⟨⟨1, (), rfl, Or.inl ⟨rfl, trivial⟩, ht⟩, hS.F ht⟩) hS.2.2 d_l_isOf_25
set_option maxHeartbeats 4000000 in
set_option maxRecDepth 100000 in
theorem k_c_has (l : Launch) (D : va_G) (a : Nat → Nat) (kI kZ : ClassId) (F : Nat → Nat → Int32) (jn : Int32) (hI : rl_I F) (H0 : Heap) : rl_Ri l ⟨"RightsLimit$Licences", "has", "(I)Z"⟩ (Cond.code ⟨"RightsLimit$Licences", "has", "(I)Z"⟩ prog_2_method_2_code 2 (some .boolean) :: rl_G) { frames := 0, cells := 0, slots := 0, locals := 0 } D rl_cl (rl_tys kI kZ) rl_nw [.ref (a 3), .int jn] (rl_w a kI kZ F) H0 (fun (r : Int32) => (r = 1 ∧ (0 ≤ jn.toInt ∧ jn.toInt < (F 27 2).toInt)) ∨ (r = 0 ∧ ¬ (0 ≤ jn.toInt ∧ jn.toInt < (F 27 2).toInt))) := by
  refine rl_metr (cc := prog_2_method_2_code) (maxL := 2) (ret := (some .boolean)) (by decide) rfl (Nat.le_of_ble_eq_true rfl) ?_
  intro p e s m below meth c ls hx hb hr hml hown hts hlocks hP hK hS hN hl
  have hown : s.vm.findClass "RightsLimit$Licences" = some m.cls := hown
  have hG : ∀ x ∈ rl_G, x.before _ s = true := fun x h => hts x (List.mem_cons_of_mem _ h)
  have hl : lv_has ls 2 [(0, .ref (a 3)), (1, .int jn)] := hl
  obtain ⟨hcnt, hR⟩ := id hI
  refine lv_iload_n hx hb d_c_has_0 rfl (lv_at hl 1 rfl) ?_
  refine lv_if_lt (tgt := 16) hx hb d_c_has_1 (by decide) (fun c1 => ?_) (fun c1 => ?_)
  · have ic1 := rl_ilt c1
    simp only [rl_n0] at ic1
    refine lv_iconst (v := 0) hx hb d_c_has_16 (by decide) ?_
    exact W.zret (v := 0) hx hb hr rfl (fun t ht hW => ⟨⟨0, (), rfl, Or.inr ⟨rfl, by omega⟩, ht⟩, hS.F ht⟩) hS.2.2 d_c_has_17
  · have ic1 := rl_inlt c1
    simp only [rl_n0] at ic1
    refine lv_iload_n hx hb d_c_has_4 rfl (lv_at hl 1 rfl) ?_
    refine lv_aload_n hx hb d_c_has_5 rfl (lv_at hl 0 rfl) ?_
    refine va_get (D := D) (ci := 3) (v := .int (F 27 2)) (C := "RightsLimit$Licences") (T := fT_c) (N := 6) hx hb hG fi_c hown hK hP 3 rfl rfl 5 (by decide) (hG _ wd_97) (fun _ h9 => h9) rfl d_c_has_6 ?_
    refine lv_icmp_ge (tgt := 16) hx hb d_c_has_9 (by decide) (fun c2 => ?_) (fun c2 => ?_)
    · have ic2 := rl_ile c2
      refine lv_iconst (v := 0) hx hb d_c_has_16 (by decide) ?_
      exact W.zret (v := 0) hx hb hr rfl (fun t ht hW => ⟨⟨0, (), rfl, Or.inr ⟨rfl, by omega⟩, ht⟩, hS.F ht⟩) hS.2.2 d_c_has_17
    · have ic2 := rl_inle c2
      refine lv_iconst (v := 1) hx hb d_c_has_12 (by decide) ?_
      refine lv_goto (tgt := 17) hx hb d_c_has_13 (by decide) ?_
      exact W.zret (v := 1) hx hb hr rfl (fun t ht hW => ⟨⟨1, (), rfl, Or.inl ⟨rfl, by omega⟩, ht⟩, hS.F ht⟩) hS.2.2 d_c_has_17
set_option maxHeartbeats 4000000 in
set_option maxRecDepth 100000 in
theorem k_c_add (l : Launch) (D : va_G) (a : Nat → Nat) (kI kZ : ClassId) (F : Nat → Nat → Int32) (jp1 jp2 jp3 jp4 jp5 : Int32) (hI : rl_I F) (sz : Nat) : rl_Ci (S := Nat → Nat → Int32) l ⟨"RightsLimit$Licences", "add", "(IIIII)I"⟩ (Cond.code ⟨"RightsLimit$Licences", "add", "(IIIII)I"⟩ prog_2_method_3_code 6 (some .int) :: rl_G) { frames := 0, cells := 0, slots := 0, locals := 0 } D rl_cl (rl_tys kI kZ) rl_nw [.ref (a 3), .int jp1, .int jp2, .int jp3, .int jp4, .int jp5] (rl_w a kI kZ F) sz (fun (r : Int32) (F' : Nat → Nat → Int32) => rl_R F' ∧ (((F 27 2).toInt < 50 ∧ r.toInt = (F 27 2).toInt ∧ (F' 27 2).toInt = (F 27 2).toInt + 1 ∧ (F' 27 0).toInt = (F 27 0).toInt ∧ (F' 27 1).toInt = (F 27 1).toInt ∧ (F' 27 3).toInt = (F 27 3).toInt) ∨ (50 ≤ (F 27 2).toInt ∧ r.toInt = -4 ∧ (F' 27 0).toInt = (F 27 0).toInt ∧ (F' 27 1).toInt = (F 27 1).toInt ∧ (F' 27 2).toInt = (F 27 2).toInt ∧ (F' 27 3).toInt = (F 27 3).toInt))) (fun F' => rl_w a kI kZ F') 0 0 := by
  refine rl_meti (cc := prog_2_method_3_code) (maxL := 6) (ret := (some .int)) (by decide) rfl (Nat.le_of_ble_eq_true rfl) ?_
  intro p e s m below meth c A ls hx hb hr hml hown hts hlocks hnm hP hK hD hS hA hN hl
  have hown : s.vm.findClass "RightsLimit$Licences" = some m.cls := hown
  have hG : ∀ x ∈ rl_G, x.before _ s = true := fun x h => hts x (List.mem_cons_of_mem _ h)
  have hl : lv_has ls 6 [(0, .ref (a 3)), (1, .int jp1), (2, .int jp2), (3, .int jp3), (4, .int jp4), (5, .int jp5)] := hl
  obtain ⟨hcnt, hR⟩ := id hI
  refine lv_aload_n hx hb d_c_add_0 rfl (lv_at hl 0 rfl) ?_
  refine va_get (D := D) (ci := 3) (v := .int (F 27 2)) (C := "RightsLimit$Licences") (T := fT_c) (N := 6) hx hb hG fi_c hown hK hP 3 rfl rfl 5 (by decide) (hG _ wd_97) (fun _ h9 => h9) rfl d_c_add_1 ?_
  refine lv_bipush (v := 50) hx hb d_c_add_4 (by decide) ?_
  refine lv_icmp_lt (tgt := 12) hx hb d_c_add_6 (by decide) (fun c1 => ?_) (fun c1 => ?_)
  · have ic1 := rl_ilt c1
    simp only [rl_n50] at ic1
    refine lv_aload_n hx hb d_c_add_12 rfl (lv_at hl 0 rfl) ?_
    refine va_get (D := D) (ci := 3) (v := .ref (a 13)) (C := "RightsLimit$Licences") (T := fT_c) (N := 6) hx hb hG fi_c hown hK hP 3 rfl rfl 0 (by decide) (hG _ wd_91) (fun _ h9 => h9) rfl d_c_add_13 ?_
    refine lv_aload_n hx hb d_c_add_16 rfl (lv_at hl 0 rfl) ?_
    refine va_get (D := D) (ci := 3) (v := .int (F 27 2)) (C := "RightsLimit$Licences") (T := fT_c) (N := 6) hx hb hG fi_c hown hK hP 3 rfl rfl 5 (by decide) (hG _ wd_97) (fun _ h9 => h9) rfl d_c_add_17 ?_
    refine lv_iload_n hx hb d_c_add_20 rfl (lv_at hl 1 rfl) ?_
    refine va_iast hx hb hK hP hD hS 13 0 rfl rfl (rl_in (n := 50) (by omega) (by omega)) d_c_add_21 (fun H locs hP hD hS => ?_)
    obtain ⟨F2, eF2⟩ : ∃ G, G = rl_st F 8 ((F 27 2).toNatClampNeg) jp1 := ⟨_, rfl⟩
    have hP : va_P D rl_cl (rl_w a kI kZ F2) H := by rw [eF2]; exact hP
    have hD : va_D A (rl_w a kI kZ F2) := by rw [eF2]; exact hD
    obtain ⟨tF2, hRF2⟩ := rl_keep eF2 (by decide) (by decide) hR
    refine lv_aload_n hx hb d_c_add_22 rfl (lv_at hl 0 rfl) ?_
    refine va_get (D := D) (ci := 3) (v := .ref (a 14)) (C := "RightsLimit$Licences") (T := fT_c) (N := 6) hx hb hG fi_c hown hK hP 3 rfl rfl 1 (by decide) (hG _ wd_92) (fun _ h9 => h9) rfl d_c_add_23 ?_
    refine lv_aload_n hx hb d_c_add_26 rfl (lv_at hl 0 rfl) ?_
    refine va_get (D := D) (ci := 3) (v := .int (F2 27 2)) (C := "RightsLimit$Licences") (T := fT_c) (N := 6) hx hb hG fi_c hown hK hP 3 rfl rfl 5 (by decide) (hG _ wd_97) (fun _ h9 => h9) rfl d_c_add_27 ?_
    refine lv_iload_n hx hb d_c_add_30 rfl (lv_at hl 2 rfl) ?_
    refine va_iast hx hb hK hP hD hS 14 0 rfl rfl (rl_in (n := 50) (by omega) (by omega)) d_c_add_31 (fun H locs hP hD hS => ?_)
    obtain ⟨F3, eF3⟩ : ∃ G, G = rl_st F2 9 ((F2 27 2).toNatClampNeg) jp2 := ⟨_, rfl⟩
    have hP : va_P D rl_cl (rl_w a kI kZ F3) H := by rw [eF3]; exact hP
    have hD : va_D A (rl_w a kI kZ F3) := by rw [eF3]; exact hD
    obtain ⟨tF3, hRF3⟩ := rl_keep eF3 (by decide) (by decide) hRF2
    refine lv_aload_n hx hb d_c_add_32 rfl (lv_at hl 0 rfl) ?_
    refine va_get (D := D) (ci := 3) (v := .ref (a 15)) (C := "RightsLimit$Licences") (T := fT_c) (N := 6) hx hb hG fi_c hown hK hP 3 rfl rfl 2 (by decide) (hG _ wd_93) (fun _ h9 => h9) rfl d_c_add_33 ?_
    refine lv_aload_n hx hb d_c_add_36 rfl (lv_at hl 0 rfl) ?_
    refine va_get (D := D) (ci := 3) (v := .int (F3 27 2)) (C := "RightsLimit$Licences") (T := fT_c) (N := 6) hx hb hG fi_c hown hK hP 3 rfl rfl 5 (by decide) (hG _ wd_97) (fun _ h9 => h9) rfl d_c_add_37 ?_
    refine lv_iload_n hx hb d_c_add_40 rfl (lv_at hl 3 rfl) ?_
    refine va_iast hx hb hK hP hD hS 15 0 rfl rfl (rl_in (n := 50) (by omega) (by omega)) d_c_add_41 (fun H locs hP hD hS => ?_)
    obtain ⟨F4, eF4⟩ : ∃ G, G = rl_st F3 10 ((F3 27 2).toNatClampNeg) jp3 := ⟨_, rfl⟩
    have hP : va_P D rl_cl (rl_w a kI kZ F4) H := by rw [eF4]; exact hP
    have hD : va_D A (rl_w a kI kZ F4) := by rw [eF4]; exact hD
    obtain ⟨tF4, hRF4⟩ := rl_keep eF4 (by decide) (by decide) hRF3
    refine lv_aload_n hx hb d_c_add_42 rfl (lv_at hl 0 rfl) ?_
    refine va_get (D := D) (ci := 3) (v := .ref (a 16)) (C := "RightsLimit$Licences") (T := fT_c) (N := 6) hx hb hG fi_c hown hK hP 3 rfl rfl 3 (by decide) (hG _ wd_95) (fun _ h9 => h9) rfl d_c_add_43 ?_
    refine lv_aload_n hx hb d_c_add_46 rfl (lv_at hl 0 rfl) ?_
    refine va_get (D := D) (ci := 3) (v := .int (F4 27 2)) (C := "RightsLimit$Licences") (T := fT_c) (N := 6) hx hb hG fi_c hown hK hP 3 rfl rfl 5 (by decide) (hG _ wd_97) (fun _ h9 => h9) rfl d_c_add_47 ?_
    refine lv_iload hx hb d_c_add_50 (lv_at hl 4 rfl) ?_
    refine va_iast hx hb hK hP hD hS 16 0 rfl rfl (rl_in (n := 50) (by omega) (by omega)) d_c_add_52 (fun H locs hP hD hS => ?_)
    obtain ⟨F5, eF5⟩ : ∃ G, G = rl_st F4 11 ((F4 27 2).toNatClampNeg) jp4 := ⟨_, rfl⟩
    have hP : va_P D rl_cl (rl_w a kI kZ F5) H := by rw [eF5]; exact hP
    have hD : va_D A (rl_w a kI kZ F5) := by rw [eF5]; exact hD
    obtain ⟨tF5, hRF5⟩ := rl_keep eF5 (by decide) (by decide) hRF4
    refine lv_aload_n hx hb d_c_add_53 rfl (lv_at hl 0 rfl) ?_
    refine va_get (D := D) (ci := 3) (v := .ref (a 17)) (C := "RightsLimit$Licences") (T := fT_c) (N := 6) hx hb hG fi_c hown hK hP 3 rfl rfl 4 (by decide) (hG _ wd_96) (fun _ h9 => h9) rfl d_c_add_54 ?_
    refine lv_aload_n hx hb d_c_add_57 rfl (lv_at hl 0 rfl) ?_
    refine va_get (D := D) (ci := 3) (v := .int (F5 27 2)) (C := "RightsLimit$Licences") (T := fT_c) (N := 6) hx hb hG fi_c hown hK hP 3 rfl rfl 5 (by decide) (hG _ wd_97) (fun _ h9 => h9) rfl d_c_add_58 ?_
    refine lv_iload hx hb d_c_add_61 (lv_at hl 5 rfl) ?_
    refine va_iast hx hb hK hP hD hS 17 0 rfl rfl (rl_in (n := 50) (by omega) (by omega)) d_c_add_63 (fun H locs hP hD hS => ?_)
    obtain ⟨F6, eF6⟩ : ∃ G, G = rl_st F5 12 ((F5 27 2).toNatClampNeg) jp5 := ⟨_, rfl⟩
    have hP : va_P D rl_cl (rl_w a kI kZ F6) H := by rw [eF6]; exact hP
    have hD : va_D A (rl_w a kI kZ F6) := by rw [eF6]; exact hD
    obtain ⟨tF6, hRF6⟩ := rl_keep eF6 (by decide) (by decide) hRF5
    refine lv_aload_n hx hb d_c_add_64 rfl (lv_at hl 0 rfl) ?_
    refine lv_dup hx hb d_c_add_65 rfl ?_
    refine va_get (D := D) (ci := 3) (v := .int (F6 27 2)) (C := "RightsLimit$Licences") (T := fT_c) (N := 6) hx hb hG fi_c hown hK hP 3 rfl rfl 5 (by decide) (hG _ wd_97) (fun _ h9 => h9) rfl d_c_add_66 ?_
    refine lv_iconst (v := 1) hx hb d_c_add_69 (by decide) ?_
    refine lv_iadd hx hb d_c_add_70 ?_
    refine lv_topi (fun v7 ev7 => ?_)
    have iv7 : v7.toInt = (F6 27 2).toInt + 1 := by rw [ev7]; exact rl_addk (by decide) (by omega) (by omega)
    refine va_put (D := D) (ci := 3) (v := .int v7) (ty := .int) (C := "RightsLimit$Licences") (T := fT_c) (N := 6) hx hb hG fi_c fy_c fo_c fn_c hown hK hP hD hS 3 rfl rfl 5 (by decide) (hG _ wd_97) (fun _ h9 => h9) rfl (by decide +kernel) rfl rfl (Nat.le_of_ble_eq_true rfl) d_c_add_71 (fun H locs hP hD hS => ?_)
    obtain ⟨F8, eF8⟩ : ∃ G, G = rl_st F6 27 2 v7 := ⟨_, rfl⟩
    have hP : va_P D rl_cl (rl_w a kI kZ F8) H := by rw [eF8]; exact hP
    have hD : va_D A (rl_w a kI kZ F8) := by rw [eF8]; exact hD
    obtain ⟨tF8, hRF8⟩ := rl_put2 eF8 hRF6
    refine lv_aload_n hx hb d_c_add_74 rfl (lv_at hl 0 rfl) ?_
    refine va_get (D := D) (ci := 3) (v := .int (F8 27 2)) (C := "RightsLimit$Licences") (T := fT_c) (N := 6) hx hb hG fi_c hown hK hP 3 rfl rfl 5 (by decide) (hG _ wd_97) (fun _ h9 => h9) rfl d_c_add_75 ?_
    refine lv_iconst (v := 1) hx hb d_c_add_78 (by decide) ?_
    refine lv_isub hx hb d_c_add_79 ?_
    refine lv_topi (fun v9 ev9 => ?_)
    have iv9 : v9.toInt = (F8 27 2).toInt - 1 := by rw [ev9]; exact rl_subk (by decide) (by omega) (by omega)
    exact W.iret (v := v9) hx hb hr (fun t ht hW => ⟨⟨v9, F8, rfl, ⟨hRF8, (show ((F 27 2).toInt < 50 ∧ v9.toInt = (F 27 2).toInt ∧ (F8 27 2).toInt = (F 27 2).toInt + 1 ∧ (F8 27 0).toInt = (F 27 0).toInt ∧ (F8 27 1).toInt = (F 27 1).toInt ∧ (F8 27 3).toInt = (F 27 3).toInt) ∨ (50 ≤ (F 27 2).toInt ∧ v9.toInt = -4 ∧ (F8 27 0).toInt = (F 27 0).toInt ∧ (F8 27 1).toInt = (F 27 1).toInt ∧ (F8 27 2).toInt = (F 27 2).toInt ∧ (F8 27 3).toInt = (F 27 3).toInt) by omega)⟩, ⟨by rw [ht]; exact hP, hD⟩⟩, hS.F ht⟩) hS.2.2 d_c_add_80
  · have ic1 := rl_inlt c1
    simp only [rl_n50] at ic1
    refine lv_bipush (v := (-4)) hx hb d_c_add_9 (by decide) ?_
    exact W.iret (v := (-4)) hx hb hr (fun t ht hW => ⟨⟨(-4), F, rfl, ⟨hR, (show ((F 27 2).toInt < 50 ∧ ((-4) : Int32).toInt = (F 27 2).toInt ∧ (F 27 2).toInt = (F 27 2).toInt + 1 ∧ (F 27 0).toInt = (F 27 0).toInt ∧ (F 27 1).toInt = (F 27 1).toInt ∧ (F 27 3).toInt = (F 27 3).toInt) ∨ (50 ≤ (F 27 2).toInt ∧ ((-4) : Int32).toInt = -4 ∧ (F 27 0).toInt = (F 27 0).toInt ∧ (F 27 1).toInt = (F 27 1).toInt ∧ (F 27 2).toInt = (F 27 2).toInt ∧ (F 27 3).toInt = (F 27 3).toInt) by have q9 := rl_nm4; omega)⟩, ⟨by rw [ht]; exact hP, hD⟩⟩, hS.F ht⟩) hS.2.2 d_c_add_11
set_option maxHeartbeats 4000000 in
set_option maxRecDepth 100000 in
theorem k_c_firstThatHolds (l : Launch) (D : va_G) (a : Nat → Nat) (kI kZ : ClassId) (F : Nat → Nat → Int32) (jp1 jp2 jp3 : Int32) (hI : rl_I F) (H0 : Heap) : rl_Ri l ⟨"RightsLimit$Licences", "firstThatHolds", "(III)I"⟩ (Cond.code ⟨"RightsLimit$Licences", "firstThatHolds", "(III)I"⟩ prog_2_method_4_code 5 (some .int) :: rl_G) { frames := 1, cells := 0, slots := 0, locals := 22 } D rl_cl (rl_tys kI kZ) rl_nw [.ref (a 3), .int jp1, .int jp2, .int jp3] (rl_w a kI kZ F) H0 (fun (r : Int32) => r.toInt = -1 ∨ (0 ≤ r.toInt ∧ r.toInt < (F 27 2).toInt)) := by
  refine rl_metr (cc := prog_2_method_4_code) (maxL := 5) (ret := (some .int)) (by decide) rfl (Nat.le_of_ble_eq_true rfl) ?_
  intro p e s m below meth c ls hx hb hr hml hown hts hlocks hP hK hS hN hl
  have hown : s.vm.findClass "RightsLimit$Licences" = some m.cls := hown
  have hG : ∀ x ∈ rl_G, x.before _ s = true := fun x h => hts x (List.mem_cons_of_mem _ h)
  have hl : lv_has ls 5 [(0, .ref (a 3)), (1, .int jp1), (2, .int jp2), (3, .int jp3)] := hl
  obtain ⟨hcnt, hR⟩ := id hI
  refine lv_iconst (v := 0) hx hb d_c_firstThatHolds_0 (by decide) ?_
  refine lv_istore (lv' := [(4, .int 0), (0, .ref (a 3)), (1, .int jp1), (2, .int jp2), (3, .int jp3)]) hx hb d_c_firstThatHolds_1 hl (by decide) rfl (fun ls hl => ?_)
  have loop : ∀ (n : Nat) (i : Int32), 0 ≤ i.toInt → i.toInt ≤ (F 27 2).toInt → (F 27 2).toInt - i.toInt < n → ∀ (locs : List Loc) (ls : Array Slot), va_S (fun _ => False) s.heap s.heap locs → lv_has ls 5 [(0, .ref (a 3)), (1, .int jp1), (2, .int jp2), (3, .int jp3), (4, .int i)] → W p l e ({ frames := 1, cells := 0, slots := 0, locals := 22 } : Room) s m ([.ref (a 3), .int jp1, .int jp2, .int jp3] : List Value).toArray below meth c s.heap locs 0 0 (MQ below (va_Qi (S := Unit) (fun (r : Int32) _ => r.toInt = -1 ∨ (0 ≤ r.toInt ∧ r.toInt < (F 27 2).toInt)) (fun _ t => t.heap = s.heap) (fun _ => False)) ([.ref (a 3), .int jp1, .int jp2, .int jp3] : List Value).toArray s 0 0 (fun _ => False)) (F0 m 3 ls []) := by
    intro n
    induction n with
    | zero => intro i h1 h2 h3; exact absurd h3 (by omega)
    | succ n ih =>
      intro i h1 h2 h3 locs ls hS hl
      refine lv_iload hx hb d_c_firstThatHolds_3 (lv_at hl 4 rfl) ?_
      refine lv_aload_n hx hb d_c_firstThatHolds_5 rfl (lv_at hl 0 rfl) ?_
      refine va_get (D := D) (ci := 3) (v := .int (F 27 2)) (C := "RightsLimit$Licences") (T := fT_c) (N := 6) hx hb hG fi_c hown hK hP 3 rfl rfl 5 (by decide) (hG _ wd_97) (fun _ h9 => h9) rfl d_c_firstThatHolds_6 ?_
      refine lv_icmp_ge (tgt := 74) hx hb d_c_firstThatHolds_9 (by decide) (fun c1 => ?_) (fun c1 => ?_)
      · have ic1 := rl_ile c1
        refine lv_iconst (v := (-1)) hx hb d_c_firstThatHolds_74 (by decide) ?_
        exact W.iret (v := (-1)) hx hb hr (fun t ht hW => ⟨⟨(-1), (), rfl, (show ((-1) : Int32).toInt = -1 ∨ (0 ≤ ((-1) : Int32).toInt ∧ ((-1) : Int32).toInt < (F 27 2).toInt) by have q9 := rl_nm1; omega), ht⟩, hS.F ht⟩) hS.2.2 d_c_firstThatHolds_75
      · have ic1 := rl_inle c1
        refine lv_aload_n hx hb d_c_firstThatHolds_12 rfl (lv_at hl 0 rfl) ?_
        refine va_get (D := D) (ci := 3) (v := .ref (a 13)) (C := "RightsLimit$Licences") (T := fT_c) (N := 6) hx hb hG fi_c hown hK hP 3 rfl rfl 0 (by decide) (hG _ wd_91) (fun _ h9 => h9) rfl d_c_firstThatHolds_13 ?_
        refine lv_iload hx hb d_c_firstThatHolds_16 (lv_at hl 4 rfl) ?_
        refine va_iald hx hb hK hP 13 0 rfl rfl (rl_in (n := 50) (by omega) (by omega)) d_c_firstThatHolds_18 ?_
        refine lv_topi (fun v2 ev2 => ?_)
        refine lv_iload_n hx hb d_c_firstThatHolds_19 rfl (lv_at hl 1 rfl) ?_
        refine lv_icmp_ne (tgt := 68) hx hb d_c_firstThatHolds_20 (by decide) (fun c3 => ?_) (fun c3 => ?_)
        · have ic3 := rl_ine c3
          obtain ⟨x4, ex4⟩ : ∃ y : Int32, y = i + 1 := ⟨_, rfl⟩
          refine lv_iinc (v := x4) (lv' := [(4, .int x4), (0, .ref (a 3)), (1, .int jp1), (2, .int jp2), (3, .int jp3)]) hx hb d_c_firstThatHolds_68 hl (k := 4) rfl (by rw [ex4]; rfl) (by decide) rfl (fun ls hl => ?_)
          have ix4 : x4.toInt = i.toInt + 1 := by rw [ex4]; exact rl_inc (by omega)
          refine lv_goto (tgt := 3) hx hb d_c_firstThatHolds_71 (by decide) ?_
          exact ih x4 (by omega) (by omega) (by omega) _ _ hS (lv_sub hl [1, 2, 3, 4, 0] rfl)
        · have ic3 := rl_ieq c3
          refine lv_aload_n hx hb d_c_firstThatHolds_23 rfl (lv_at hl 0 rfl) ?_
          refine va_get (D := D) (ci := 3) (v := .ref (a 14)) (C := "RightsLimit$Licences") (T := fT_c) (N := 6) hx hb hG fi_c hown hK hP 3 rfl rfl 1 (by decide) (hG _ wd_92) (fun _ h9 => h9) rfl d_c_firstThatHolds_24 ?_
          refine lv_iload hx hb d_c_firstThatHolds_27 (lv_at hl 4 rfl) ?_
          refine va_iald hx hb hK hP 14 0 rfl rfl (rl_in (n := 50) (by omega) (by omega)) d_c_firstThatHolds_29 ?_
          refine lv_topi (fun v5 ev5 => ?_)
          refine lv_iload_n hx hb d_c_firstThatHolds_30 rfl (lv_at hl 2 rfl) ?_
          refine lv_icmp_ne (tgt := 68) hx hb d_c_firstThatHolds_31 (by decide) (fun c6 => ?_) (fun c6 => ?_)
          · have ic6 := rl_ine c6
            obtain ⟨x7, ex7⟩ : ∃ y : Int32, y = i + 1 := ⟨_, rfl⟩
            refine lv_iinc (v := x7) (lv' := [(4, .int x7), (0, .ref (a 3)), (1, .int jp1), (2, .int jp2), (3, .int jp3)]) hx hb d_c_firstThatHolds_68 hl (k := 4) rfl (by rw [ex7]; rfl) (by decide) rfl (fun ls hl => ?_)
            have ix7 : x7.toInt = i.toInt + 1 := by rw [ex7]; exact rl_inc (by omega)
            refine lv_goto (tgt := 3) hx hb d_c_firstThatHolds_71 (by decide) ?_
            exact ih x7 (by omega) (by omega) (by omega) _ _ hS (lv_sub hl [1, 2, 3, 4, 0] rfl)
          · have ic6 := rl_ieq c6
            refine lv_iload_n hx hb d_c_firstThatHolds_34 rfl (lv_at hl 3 rfl) ?_
            refine lv_aload_n hx hb d_c_firstThatHolds_35 rfl (lv_at hl 0 rfl) ?_
            refine va_get (D := D) (ci := 3) (v := .ref (a 16)) (C := "RightsLimit$Licences") (T := fT_c) (N := 6) hx hb hG fi_c hown hK hP 3 rfl rfl 3 (by decide) (hG _ wd_95) (fun _ h9 => h9) rfl d_c_firstThatHolds_36 ?_
            refine lv_iload hx hb d_c_firstThatHolds_39 (lv_at hl 4 rfl) ?_
            refine va_iald hx hb hK hP 16 0 rfl rfl (rl_in (n := 50) (by omega) (by omega)) d_c_firstThatHolds_41 ?_
            refine lv_topi (fun v8 ev8 => ?_)
            refine lv_aload_n hx hb d_c_firstThatHolds_42 rfl (lv_at hl 0 rfl) ?_
            refine va_get (D := D) (ci := 3) (v := .ref (a 17)) (C := "RightsLimit$Licences") (T := fT_c) (N := 6) hx hb hG fi_c hown hK hP 3 rfl rfl 4 (by decide) (hG _ wd_96) (fun _ h9 => h9) rfl d_c_firstThatHolds_43 ?_
            refine lv_iload hx hb d_c_firstThatHolds_46 (lv_at hl 4 rfl) ?_
            refine va_iald hx hb hK hP 17 0 rfl rfl (rl_in (n := 50) (by omega) (by omega)) d_c_firstThatHolds_48 ?_
            refine lv_topi (fun v9 ev9 => ?_)
            refine rl_callr hS (va_runSN (As := [.int jp3, .int v8, .int v9]) (rest := []) ⟨hx, hb, hml, hown, hG⟩ (k_x_isBetween l D a kI kZ jp3 v8 v9 _) ⟨va_cnB 3 hG (rl_gI wd_202) rfl rfl rfl (hN _ (List.mem_of_getElem? (i := 4) rfl)) (hG _ wd_14) (by decide +kernel) ⟨Nat.le_of_ble_eq_true rfl, Nat.le_of_ble_eq_true rfl⟩, (hG _ wd_201), trivial⟩ (rl_BR.pre rl_nw_ok rl_P0 hK hN) rfl rfl hl.1 rfl (lv_room (Nat.le_of_ble_eq_true rfl)) d_c_firstThatHolds_49 ⟨Nat.le_of_ble_eq_true rfl, Nat.le_of_ble_eq_true rfl⟩) (fun r10 locs hw hS => ?_)
            rcases hw with ⟨rfl, h11⟩ | ⟨rfl, h11⟩
            · refine lv_if_eq (tgt := 68) hx hb d_c_firstThatHolds_52 (by decide) (fun c9 => absurd c9 (by decide)) (fun _ => ?_)
              refine lv_aload_n hx hb d_c_firstThatHolds_55 rfl (lv_at hl 0 rfl) ?_
              refine va_get (D := D) (ci := 3) (v := .ref (a 15)) (C := "RightsLimit$Licences") (T := fT_c) (N := 6) hx hb hG fi_c hown hK hP 3 rfl rfl 2 (by decide) (hG _ wd_93) (fun _ h9 => h9) rfl d_c_firstThatHolds_56 ?_
              refine lv_iload hx hb d_c_firstThatHolds_59 (lv_at hl 4 rfl) ?_
              refine va_iald hx hb hK hP 15 0 rfl rfl (rl_in (n := 50) (by omega) (by omega)) d_c_firstThatHolds_61 ?_
              refine lv_topi (fun v12 ev12 => ?_)
              refine lv_if_le (tgt := 68) hx hb d_c_firstThatHolds_62 (by decide) (fun c13 => ?_) (fun c13 => ?_)
              · have ic13 := rl_ile c13
                simp only [rl_n0] at ic13
                obtain ⟨x14, ex14⟩ : ∃ y : Int32, y = i + 1 := ⟨_, rfl⟩
                refine lv_iinc (v := x14) (lv' := [(4, .int x14), (0, .ref (a 3)), (1, .int jp1), (2, .int jp2), (3, .int jp3)]) hx hb d_c_firstThatHolds_68 hl (k := 4) rfl (by rw [ex14]; rfl) (by decide) rfl (fun ls hl => ?_)
                have ix14 : x14.toInt = i.toInt + 1 := by rw [ex14]; exact rl_inc (by omega)
                refine lv_goto (tgt := 3) hx hb d_c_firstThatHolds_71 (by decide) ?_
                exact ih x14 (by omega) (by omega) (by omega) _ _ hS (lv_sub hl [1, 2, 3, 4, 0] rfl)
              · have ic13 := rl_inle c13
                simp only [rl_n0] at ic13
                refine lv_iload hx hb d_c_firstThatHolds_65 (lv_at hl 4 rfl) ?_
                exact W.iret (v := i) hx hb hr (fun t ht hW => ⟨⟨i, (), rfl, (show i.toInt = -1 ∨ (0 ≤ i.toInt ∧ i.toInt < (F 27 2).toInt) by omega), ht⟩, hS.F ht⟩) hS.2.2 d_c_firstThatHolds_67
            · refine lv_if_eq (tgt := 68) hx hb d_c_firstThatHolds_52 (by decide) (fun _ => ?_) (fun c9 => absurd c9 (by decide))
              obtain ⟨x15, ex15⟩ : ∃ y : Int32, y = i + 1 := ⟨_, rfl⟩
              refine lv_iinc (v := x15) (lv' := [(4, .int x15), (0, .ref (a 3)), (1, .int jp1), (2, .int jp2), (3, .int jp3)]) hx hb d_c_firstThatHolds_68 hl (k := 4) rfl (by rw [ex15]; rfl) (by decide) rfl (fun ls hl => ?_)
              have ix15 : x15.toInt = i.toInt + 1 := by rw [ex15]; exact rl_inc (by omega)
              refine lv_goto (tgt := 3) hx hb d_c_firstThatHolds_71 (by decide) ?_
              exact ih x15 (by omega) (by omega) (by omega) _ _ hS (lv_sub hl [1, 2, 3, 4, 0] rfl)
  exact loop 400 0 (by decide) (by simp only [rl_n0]; omega) (by simp only [rl_n0]; omega) _ _ hS (lv_sub hl [1, 2, 3, 4, 0] rfl)
set_option maxHeartbeats 4000000 in
set_option maxRecDepth 100000 in
theorem k_q_has (l : Launch) (D : va_G) (a : Nat → Nat) (kI kZ : ClassId) (F : Nat → Nat → Int32) (jn : Int32) (hI : rl_I F) (H0 : Heap) : rl_Ri l ⟨"RightsLimit$Requests", "has", "(I)Z"⟩ (Cond.code ⟨"RightsLimit$Requests", "has", "(I)Z"⟩ prog_4_method_2_code 2 (some .boolean) :: rl_G) { frames := 0, cells := 0, slots := 0, locals := 0 } D rl_cl (rl_tys kI kZ) rl_nw [.ref (a 4), .int jn] (rl_w a kI kZ F) H0 (fun (r : Int32) => (r = 1 ∧ (0 ≤ jn.toInt ∧ jn.toInt < (F 27 3).toInt)) ∨ (r = 0 ∧ ¬ (0 ≤ jn.toInt ∧ jn.toInt < (F 27 3).toInt))) := by
  refine rl_metr (cc := prog_4_method_2_code) (maxL := 2) (ret := (some .boolean)) (by decide) rfl (Nat.le_of_ble_eq_true rfl) ?_
  intro p e s m below meth c ls hx hb hr hml hown hts hlocks hP hK hS hN hl
  have hown : s.vm.findClass "RightsLimit$Requests" = some m.cls := hown
  have hG : ∀ x ∈ rl_G, x.before _ s = true := fun x h => hts x (List.mem_cons_of_mem _ h)
  have hl : lv_has ls 2 [(0, .ref (a 4)), (1, .int jn)] := hl
  obtain ⟨hcnt, hR⟩ := id hI
  refine lv_iload_n hx hb d_q_has_0 rfl (lv_at hl 1 rfl) ?_
  refine lv_if_lt (tgt := 16) hx hb d_q_has_1 (by decide) (fun c1 => ?_) (fun c1 => ?_)
  · have ic1 := rl_ilt c1
    simp only [rl_n0] at ic1
    refine lv_iconst (v := 0) hx hb d_q_has_16 (by decide) ?_
    exact W.zret (v := 0) hx hb hr rfl (fun t ht hW => ⟨⟨0, (), rfl, Or.inr ⟨rfl, by omega⟩, ht⟩, hS.F ht⟩) hS.2.2 d_q_has_17
  · have ic1 := rl_inlt c1
    simp only [rl_n0] at ic1
    refine lv_iload_n hx hb d_q_has_4 rfl (lv_at hl 1 rfl) ?_
    refine lv_aload_n hx hb d_q_has_5 rfl (lv_at hl 0 rfl) ?_
    refine va_get (D := D) (ci := 4) (v := .int (F 27 3)) (C := "RightsLimit$Requests") (T := fT_q) (N := 13) hx hb hG fi_q hown hK hP 4 rfl rfl 12 (by decide) (hG _ wd_140) (fun _ h9 => h9) rfl d_q_has_6 ?_
    refine lv_icmp_ge (tgt := 16) hx hb d_q_has_9 (by decide) (fun c2 => ?_) (fun c2 => ?_)
    · have ic2 := rl_ile c2
      refine lv_iconst (v := 0) hx hb d_q_has_16 (by decide) ?_
      exact W.zret (v := 0) hx hb hr rfl (fun t ht hW => ⟨⟨0, (), rfl, Or.inr ⟨rfl, by omega⟩, ht⟩, hS.F ht⟩) hS.2.2 d_q_has_17
    · have ic2 := rl_inle c2
      refine lv_iconst (v := 1) hx hb d_q_has_12 (by decide) ?_
      refine lv_goto (tgt := 17) hx hb d_q_has_13 (by decide) ?_
      exact W.zret (v := 1) hx hb hr rfl (fun t ht hW => ⟨⟨1, (), rfl, Or.inl ⟨rfl, by omega⟩, ht⟩, hS.F ht⟩) hS.2.2 d_q_has_17
set_option maxHeartbeats 4000000 in
set_option maxRecDepth 100000 in
theorem k_q_add (l : Launch) (D : va_G) (a : Nat → Nat) (kI kZ : ClassId) (F : Nat → Nat → Int32) (jp1 jp2 jp3 jp4 jp5 : Int32) (hI : rl_I F) (sz : Nat) : rl_Ci (S := Nat → Nat → Int32) l ⟨"RightsLimit$Requests", "add", "(IIIII)I"⟩ (Cond.code ⟨"RightsLimit$Requests", "add", "(IIIII)I"⟩ prog_4_method_3_code 6 (some .int) :: rl_G) { frames := 0, cells := 0, slots := 0, locals := 0 } D rl_cl (rl_tys kI kZ) rl_nw [.ref (a 4), .int jp1, .int jp2, .int jp3, .int jp4, .int jp5] (rl_w a kI kZ F) sz (fun (r : Int32) (F' : Nat → Nat → Int32) => rl_R F' ∧ (((F 27 3).toInt < 300 ∧ r.toInt = (F 27 3).toInt ∧ (F' 27 3).toInt = (F 27 3).toInt + 1 ∧ (F' 27 0).toInt = (F 27 0).toInt ∧ (F' 27 1).toInt = (F 27 1).toInt ∧ (F' 27 2).toInt = (F 27 2).toInt) ∨ (300 ≤ (F 27 3).toInt ∧ r.toInt = -4 ∧ (F' 27 0).toInt = (F 27 0).toInt ∧ (F' 27 1).toInt = (F 27 1).toInt ∧ (F' 27 2).toInt = (F 27 2).toInt ∧ (F' 27 3).toInt = (F 27 3).toInt))) (fun F' => rl_w a kI kZ F') 0 0 := by
  refine rl_meti (cc := prog_4_method_3_code) (maxL := 6) (ret := (some .int)) (by decide) rfl (Nat.le_of_ble_eq_true rfl) ?_
  intro p e s m below meth c A ls hx hb hr hml hown hts hlocks hnm hP hK hD hS hA hN hl
  have hown : s.vm.findClass "RightsLimit$Requests" = some m.cls := hown
  have hG : ∀ x ∈ rl_G, x.before _ s = true := fun x h => hts x (List.mem_cons_of_mem _ h)
  have hl : lv_has ls 6 [(0, .ref (a 4)), (1, .int jp1), (2, .int jp2), (3, .int jp3), (4, .int jp4), (5, .int jp5)] := hl
  obtain ⟨hcnt, hR⟩ := id hI
  refine lv_aload_n hx hb d_q_add_0 rfl (lv_at hl 0 rfl) ?_
  refine va_get (D := D) (ci := 4) (v := .int (F 27 3)) (C := "RightsLimit$Requests") (T := fT_q) (N := 13) hx hb hG fi_q hown hK hP 4 rfl rfl 12 (by decide) (hG _ wd_140) (fun _ h9 => h9) rfl d_q_add_1 ?_
  refine lv_sipush (v := 300) hx hb d_q_add_4 (by decide) ?_
  refine lv_icmp_lt (tgt := 13) hx hb d_q_add_7 (by decide) (fun c1 => ?_) (fun c1 => ?_)
  · have ic1 := rl_ilt c1
    simp only [rl_n300] at ic1
    refine lv_aload_n hx hb d_q_add_13 rfl (lv_at hl 0 rfl) ?_
    refine va_get (D := D) (ci := 4) (v := .ref (a 18)) (C := "RightsLimit$Requests") (T := fT_q) (N := 13) hx hb hG fi_q hown hK hP 4 rfl rfl 0 (by decide) (hG _ wd_117) (fun _ h9 => h9) rfl d_q_add_14 ?_
    refine lv_aload_n hx hb d_q_add_17 rfl (lv_at hl 0 rfl) ?_
    refine va_get (D := D) (ci := 4) (v := .int (F 27 3)) (C := "RightsLimit$Requests") (T := fT_q) (N := 13) hx hb hG fi_q hown hK hP 4 rfl rfl 12 (by decide) (hG _ wd_140) (fun _ h9 => h9) rfl d_q_add_18 ?_
    refine lv_iload_n hx hb d_q_add_21 rfl (lv_at hl 1 rfl) ?_
    refine va_iast hx hb hK hP hD hS 18 0 rfl rfl (rl_in (n := 300) (by omega) (by omega)) d_q_add_22 (fun H locs hP hD hS => ?_)
    obtain ⟨F2, eF2⟩ : ∃ G, G = rl_st F 13 ((F 27 3).toNatClampNeg) jp1 := ⟨_, rfl⟩
    have hP : va_P D rl_cl (rl_w a kI kZ F2) H := by rw [eF2]; exact hP
    have hD : va_D A (rl_w a kI kZ F2) := by rw [eF2]; exact hD
    obtain ⟨tF2, hRF2⟩ := rl_keep eF2 (by decide) (by decide) hR
    refine lv_aload_n hx hb d_q_add_23 rfl (lv_at hl 0 rfl) ?_
    refine va_get (D := D) (ci := 4) (v := .ref (a 19)) (C := "RightsLimit$Requests") (T := fT_q) (N := 13) hx hb hG fi_q hown hK hP 4 rfl rfl 1 (by decide) (hG _ wd_119) (fun _ h9 => h9) rfl d_q_add_24 ?_
    refine lv_aload_n hx hb d_q_add_27 rfl (lv_at hl 0 rfl) ?_
    refine va_get (D := D) (ci := 4) (v := .int (F2 27 3)) (C := "RightsLimit$Requests") (T := fT_q) (N := 13) hx hb hG fi_q hown hK hP 4 rfl rfl 12 (by decide) (hG _ wd_140) (fun _ h9 => h9) rfl d_q_add_28 ?_
    refine lv_iload_n hx hb d_q_add_31 rfl (lv_at hl 2 rfl) ?_
    refine va_iast hx hb hK hP hD hS 19 0 rfl rfl (rl_in (n := 300) (by omega) (by omega)) d_q_add_32 (fun H locs hP hD hS => ?_)
    obtain ⟨F3, eF3⟩ : ∃ G, G = rl_st F2 14 ((F2 27 3).toNatClampNeg) jp2 := ⟨_, rfl⟩
    have hP : va_P D rl_cl (rl_w a kI kZ F3) H := by rw [eF3]; exact hP
    have hD : va_D A (rl_w a kI kZ F3) := by rw [eF3]; exact hD
    obtain ⟨tF3, hRF3⟩ := rl_keep eF3 (by decide) (by decide) hRF2
    refine lv_aload_n hx hb d_q_add_33 rfl (lv_at hl 0 rfl) ?_
    refine va_get (D := D) (ci := 4) (v := .ref (a 20)) (C := "RightsLimit$Requests") (T := fT_q) (N := 13) hx hb hG fi_q hown hK hP 4 rfl rfl 2 (by decide) (hG _ wd_121) (fun _ h9 => h9) rfl d_q_add_34 ?_
    refine lv_aload_n hx hb d_q_add_37 rfl (lv_at hl 0 rfl) ?_
    refine va_get (D := D) (ci := 4) (v := .int (F3 27 3)) (C := "RightsLimit$Requests") (T := fT_q) (N := 13) hx hb hG fi_q hown hK hP 4 rfl rfl 12 (by decide) (hG _ wd_140) (fun _ h9 => h9) rfl d_q_add_38 ?_
    refine lv_iload_n hx hb d_q_add_41 rfl (lv_at hl 3 rfl) ?_
    refine va_iast hx hb hK hP hD hS 20 0 rfl rfl (rl_in (n := 300) (by omega) (by omega)) d_q_add_42 (fun H locs hP hD hS => ?_)
    obtain ⟨F4, eF4⟩ : ∃ G, G = rl_st F3 15 ((F3 27 3).toNatClampNeg) jp3 := ⟨_, rfl⟩
    have hP : va_P D rl_cl (rl_w a kI kZ F4) H := by rw [eF4]; exact hP
    have hD : va_D A (rl_w a kI kZ F4) := by rw [eF4]; exact hD
    obtain ⟨tF4, hRF4⟩ := rl_keep eF4 (by decide) (by decide) hRF3
    refine lv_aload_n hx hb d_q_add_43 rfl (lv_at hl 0 rfl) ?_
    refine va_get (D := D) (ci := 4) (v := .ref (a 21)) (C := "RightsLimit$Requests") (T := fT_q) (N := 13) hx hb hG fi_q hown hK hP 4 rfl rfl 3 (by decide) (hG _ wd_123) (fun _ h9 => h9) rfl d_q_add_44 ?_
    refine lv_aload_n hx hb d_q_add_47 rfl (lv_at hl 0 rfl) ?_
    refine va_get (D := D) (ci := 4) (v := .int (F4 27 3)) (C := "RightsLimit$Requests") (T := fT_q) (N := 13) hx hb hG fi_q hown hK hP 4 rfl rfl 12 (by decide) (hG _ wd_140) (fun _ h9 => h9) rfl d_q_add_48 ?_
    refine lv_iload hx hb d_q_add_51 (lv_at hl 4 rfl) ?_
    refine va_iast hx hb hK hP hD hS 21 0 rfl rfl (rl_in (n := 300) (by omega) (by omega)) d_q_add_53 (fun H locs hP hD hS => ?_)
    obtain ⟨F5, eF5⟩ : ∃ G, G = rl_st F4 16 ((F4 27 3).toNatClampNeg) jp4 := ⟨_, rfl⟩
    have hP : va_P D rl_cl (rl_w a kI kZ F5) H := by rw [eF5]; exact hP
    have hD : va_D A (rl_w a kI kZ F5) := by rw [eF5]; exact hD
    obtain ⟨tF5, hRF5⟩ := rl_keep eF5 (by decide) (by decide) hRF4
    refine lv_aload_n hx hb d_q_add_54 rfl (lv_at hl 0 rfl) ?_
    refine va_get (D := D) (ci := 4) (v := .ref (a 22)) (C := "RightsLimit$Requests") (T := fT_q) (N := 13) hx hb hG fi_q hown hK hP 4 rfl rfl 4 (by decide) (hG _ wd_125) (fun _ h9 => h9) rfl d_q_add_55 ?_
    refine lv_aload_n hx hb d_q_add_58 rfl (lv_at hl 0 rfl) ?_
    refine va_get (D := D) (ci := 4) (v := .int (F5 27 3)) (C := "RightsLimit$Requests") (T := fT_q) (N := 13) hx hb hG fi_q hown hK hP 4 rfl rfl 12 (by decide) (hG _ wd_140) (fun _ h9 => h9) rfl d_q_add_59 ?_
    refine lv_iload hx hb d_q_add_62 (lv_at hl 5 rfl) ?_
    refine va_iast hx hb hK hP hD hS 22 0 rfl rfl (rl_in (n := 300) (by omega) (by omega)) d_q_add_64 (fun H locs hP hD hS => ?_)
    obtain ⟨F6, eF6⟩ : ∃ G, G = rl_st F5 17 ((F5 27 3).toNatClampNeg) jp5 := ⟨_, rfl⟩
    have hP : va_P D rl_cl (rl_w a kI kZ F6) H := by rw [eF6]; exact hP
    have hD : va_D A (rl_w a kI kZ F6) := by rw [eF6]; exact hD
    obtain ⟨tF6, hRF6⟩ := rl_keep eF6 (by decide) (by decide) hRF5
    refine lv_aload_n hx hb d_q_add_65 rfl (lv_at hl 0 rfl) ?_
    refine va_get (D := D) (ci := 4) (v := .ref (a 23)) (C := "RightsLimit$Requests") (T := fT_q) (N := 13) hx hb hG fi_q hown hK hP 4 rfl rfl 5 (by decide) (hG _ wd_127) (fun _ h9 => h9) rfl d_q_add_66 ?_
    refine lv_aload_n hx hb d_q_add_69 rfl (lv_at hl 0 rfl) ?_
    refine va_get (D := D) (ci := 4) (v := .int (F6 27 3)) (C := "RightsLimit$Requests") (T := fT_q) (N := 13) hx hb hG fi_q hown hK hP 4 rfl rfl 12 (by decide) (hG _ wd_140) (fun _ h9 => h9) rfl d_q_add_70 ?_
    refine lv_iconst (v := 0) hx hb d_q_add_73 (by decide) ?_
    refine va_iast hx hb hK hP hD hS 23 0 rfl rfl (rl_in (n := 300) (by omega) (by omega)) d_q_add_74 (fun H locs hP hD hS => ?_)
    obtain ⟨F7, eF7⟩ : ∃ G, G = rl_st F6 18 ((F6 27 3).toNatClampNeg) 0 := ⟨_, rfl⟩
    have hP : va_P D rl_cl (rl_w a kI kZ F7) H := by rw [eF7]; exact hP
    have hD : va_D A (rl_w a kI kZ F7) := by rw [eF7]; exact hD
    obtain ⟨tF7, hRF7⟩ := rl_keep eF7 (by decide) (by decide) hRF6
    refine lv_aload_n hx hb d_q_add_75 rfl (lv_at hl 0 rfl) ?_
    refine va_get (D := D) (ci := 4) (v := .ref (a 24)) (C := "RightsLimit$Requests") (T := fT_q) (N := 13) hx hb hG fi_q hown hK hP 4 rfl rfl 6 (by decide) (hG _ wd_129) (fun _ h9 => h9) rfl d_q_add_76 ?_
    refine lv_aload_n hx hb d_q_add_79 rfl (lv_at hl 0 rfl) ?_
    refine va_get (D := D) (ci := 4) (v := .int (F7 27 3)) (C := "RightsLimit$Requests") (T := fT_q) (N := 13) hx hb hG fi_q hown hK hP 4 rfl rfl 12 (by decide) (hG _ wd_140) (fun _ h9 => h9) rfl d_q_add_80 ?_
    refine lv_iconst (v := (-1)) hx hb d_q_add_83 (by decide) ?_
    refine va_iast hx hb hK hP hD hS 24 0 rfl rfl (rl_in (n := 300) (by omega) (by omega)) d_q_add_84 (fun H locs hP hD hS => ?_)
    obtain ⟨F8, eF8⟩ : ∃ G, G = rl_st F7 19 ((F7 27 3).toNatClampNeg) (-1) := ⟨_, rfl⟩
    have hP : va_P D rl_cl (rl_w a kI kZ F8) H := by rw [eF8]; exact hP
    have hD : va_D A (rl_w a kI kZ F8) := by rw [eF8]; exact hD
    obtain ⟨tF8, hRF8⟩ := rl_keep eF8 (by decide) (by decide) hRF7
    refine lv_aload_n hx hb d_q_add_85 rfl (lv_at hl 0 rfl) ?_
    refine va_get (D := D) (ci := 4) (v := .ref (a 27)) (C := "RightsLimit$Requests") (T := fT_q) (N := 13) hx hb hG fi_q hown hK hP 4 rfl rfl 9 (by decide) (hG _ wd_134) (fun _ h9 => h9) rfl d_q_add_86 ?_
    refine lv_aload_n hx hb d_q_add_89 rfl (lv_at hl 0 rfl) ?_
    refine va_get (D := D) (ci := 4) (v := .int (F8 27 3)) (C := "RightsLimit$Requests") (T := fT_q) (N := 13) hx hb hG fi_q hown hK hP 4 rfl rfl 12 (by decide) (hG _ wd_140) (fun _ h9 => h9) rfl d_q_add_90 ?_
    refine lv_iconst (v := (-1)) hx hb d_q_add_93 (by decide) ?_
    refine va_iast hx hb hK hP hD hS 27 0 rfl rfl (rl_in (n := 300) (by omega) (by omega)) d_q_add_94 (fun H locs hP hD hS => ?_)
    obtain ⟨F9, eF9⟩ : ∃ G, G = rl_st F8 22 ((F8 27 3).toNatClampNeg) (-1) := ⟨_, rfl⟩
    have hP : va_P D rl_cl (rl_w a kI kZ F9) H := by rw [eF9]; exact hP
    have hD : va_D A (rl_w a kI kZ F9) := by rw [eF9]; exact hD
    obtain ⟨tF9, hRF9⟩ := rl_keep eF9 (by decide) (by decide) hRF8
    refine lv_aload_n hx hb d_q_add_95 rfl (lv_at hl 0 rfl) ?_
    refine va_get (D := D) (ci := 4) (v := .ref (a 29)) (C := "RightsLimit$Requests") (T := fT_q) (N := 13) hx hb hG fi_q hown hK hP 4 rfl rfl 11 (by decide) (hG _ wd_138) (fun _ h9 => h9) rfl d_q_add_96 ?_
    refine lv_aload_n hx hb d_q_add_99 rfl (lv_at hl 0 rfl) ?_
    refine va_get (D := D) (ci := 4) (v := .int (F9 27 3)) (C := "RightsLimit$Requests") (T := fT_q) (N := 13) hx hb hG fi_q hown hK hP 4 rfl rfl 12 (by decide) (hG _ wd_140) (fun _ h9 => h9) rfl d_q_add_100 ?_
    refine lv_iconst (v := (-1)) hx hb d_q_add_103 (by decide) ?_
    refine va_iast hx hb hK hP hD hS 29 0 rfl rfl (rl_in (n := 300) (by omega) (by omega)) d_q_add_104 (fun H locs hP hD hS => ?_)
    obtain ⟨F10, eF10⟩ : ∃ G, G = rl_st F9 24 ((F9 27 3).toNatClampNeg) (-1) := ⟨_, rfl⟩
    have hP : va_P D rl_cl (rl_w a kI kZ F10) H := by rw [eF10]; exact hP
    have hD : va_D A (rl_w a kI kZ F10) := by rw [eF10]; exact hD
    obtain ⟨tF10, hRF10⟩ := rl_keep eF10 (by decide) (by decide) hRF9
    refine lv_aload_n hx hb d_q_add_105 rfl (lv_at hl 0 rfl) ?_
    refine lv_dup hx hb d_q_add_106 rfl ?_
    refine va_get (D := D) (ci := 4) (v := .int (F10 27 3)) (C := "RightsLimit$Requests") (T := fT_q) (N := 13) hx hb hG fi_q hown hK hP 4 rfl rfl 12 (by decide) (hG _ wd_140) (fun _ h9 => h9) rfl d_q_add_107 ?_
    refine lv_iconst (v := 1) hx hb d_q_add_110 (by decide) ?_
    refine lv_iadd hx hb d_q_add_111 ?_
    refine lv_topi (fun v11 ev11 => ?_)
    have iv11 : v11.toInt = (F10 27 3).toInt + 1 := by rw [ev11]; exact rl_addk (by decide) (by omega) (by omega)
    refine va_put (D := D) (ci := 4) (v := .int v11) (ty := .int) (C := "RightsLimit$Requests") (T := fT_q) (N := 13) hx hb hG fi_q fy_q fo_q fn_q hown hK hP hD hS 4 rfl rfl 12 (by decide) (hG _ wd_140) (fun _ h9 => h9) rfl (by decide +kernel) rfl rfl (Nat.le_of_ble_eq_true rfl) d_q_add_112 (fun H locs hP hD hS => ?_)
    obtain ⟨F12, eF12⟩ : ∃ G, G = rl_st F10 27 3 v11 := ⟨_, rfl⟩
    have hP : va_P D rl_cl (rl_w a kI kZ F12) H := by rw [eF12]; exact hP
    have hD : va_D A (rl_w a kI kZ F12) := by rw [eF12]; exact hD
    obtain ⟨tF12, hRF12⟩ := rl_put3 eF12 hRF10
    refine lv_aload_n hx hb d_q_add_115 rfl (lv_at hl 0 rfl) ?_
    refine va_get (D := D) (ci := 4) (v := .int (F12 27 3)) (C := "RightsLimit$Requests") (T := fT_q) (N := 13) hx hb hG fi_q hown hK hP 4 rfl rfl 12 (by decide) (hG _ wd_140) (fun _ h9 => h9) rfl d_q_add_116 ?_
    refine lv_iconst (v := 1) hx hb d_q_add_119 (by decide) ?_
    refine lv_isub hx hb d_q_add_120 ?_
    refine lv_topi (fun v13 ev13 => ?_)
    have iv13 : v13.toInt = (F12 27 3).toInt - 1 := by rw [ev13]; exact rl_subk (by decide) (by omega) (by omega)
    exact W.iret (v := v13) hx hb hr (fun t ht hW => ⟨⟨v13, F12, rfl, ⟨hRF12, (show ((F 27 3).toInt < 300 ∧ v13.toInt = (F 27 3).toInt ∧ (F12 27 3).toInt = (F 27 3).toInt + 1 ∧ (F12 27 0).toInt = (F 27 0).toInt ∧ (F12 27 1).toInt = (F 27 1).toInt ∧ (F12 27 2).toInt = (F 27 2).toInt) ∨ (300 ≤ (F 27 3).toInt ∧ v13.toInt = -4 ∧ (F12 27 0).toInt = (F 27 0).toInt ∧ (F12 27 1).toInt = (F 27 1).toInt ∧ (F12 27 2).toInt = (F 27 2).toInt ∧ (F12 27 3).toInt = (F 27 3).toInt) by omega)⟩, ⟨by rw [ht]; exact hP, hD⟩⟩, hS.F ht⟩) hS.2.2 d_q_add_121
  · have ic1 := rl_inlt c1
    simp only [rl_n300] at ic1
    refine lv_bipush (v := (-4)) hx hb d_q_add_10 (by decide) ?_
    exact W.iret (v := (-4)) hx hb hr (fun t ht hW => ⟨⟨(-4), F, rfl, ⟨hR, (show ((F 27 3).toInt < 300 ∧ ((-4) : Int32).toInt = (F 27 3).toInt ∧ (F 27 3).toInt = (F 27 3).toInt + 1 ∧ (F 27 0).toInt = (F 27 0).toInt ∧ (F 27 1).toInt = (F 27 1).toInt ∧ (F 27 2).toInt = (F 27 2).toInt) ∨ (300 ≤ (F 27 3).toInt ∧ ((-4) : Int32).toInt = -4 ∧ (F 27 0).toInt = (F 27 0).toInt ∧ (F 27 1).toInt = (F 27 1).toInt ∧ (F 27 2).toInt = (F 27 2).toInt ∧ (F 27 3).toInt = (F 27 3).toInt) by have q9 := rl_nm4; omega)⟩, ⟨by rw [ht]; exact hP, hD⟩⟩, hS.F ht⟩) hS.2.2 d_q_add_12
set_option maxHeartbeats 4000000 in
set_option maxRecDepth 100000 in
theorem k_q_allow (l : Launch) (D : va_G) (a : Nat → Nat) (kI kZ : ClassId) (F : Nat → Nat → Int32) (jn jb : Int32) (hI : rl_I F) (hn0 : 0 ≤ jn.toInt) (hn1 : jn.toInt < 300) (sz : Nat) : rl_Cv (S := Nat → Nat → Int32) l ⟨"RightsLimit$Requests", "allow", "(II)V"⟩ (Cond.code ⟨"RightsLimit$Requests", "allow", "(II)V"⟩ prog_4_method_4_code 3 none :: rl_G) { frames := 0, cells := 0, slots := 0, locals := 0 } D rl_cl (rl_tys kI kZ) rl_nw [.ref (a 4), .int jn, .int jb] (rl_w a kI kZ F) sz (fun (F' : Nat → Nat → Int32) => rl_R F' ∧ ((F' 27 0).toInt = (F 27 0).toInt ∧ (F' 27 1).toInt = (F 27 1).toInt ∧ (F' 27 2).toInt = (F 27 2).toInt ∧ (F' 27 3).toInt = (F 27 3).toInt)) (fun F' => rl_w a kI kZ F') 0 0 := by
  refine rl_metv (cc := prog_4_method_4_code) (maxL := 3) (ret := none) (by decide) rfl (Nat.le_of_ble_eq_true rfl) ?_
  intro p e s m below meth c A ls hx hb hr hml hown hts hlocks hnm hP hK hD hS hA hN hl
  have hown : s.vm.findClass "RightsLimit$Requests" = some m.cls := hown
  have hG : ∀ x ∈ rl_G, x.before _ s = true := fun x h => hts x (List.mem_cons_of_mem _ h)
  have hl : lv_has ls 3 [(0, .ref (a 4)), (1, .int jn), (2, .int jb)] := hl
  obtain ⟨hcnt, hR⟩ := id hI
  refine lv_aload_n hx hb d_q_allow_0 rfl (lv_at hl 0 rfl) ?_
  refine va_get (D := D) (ci := 4) (v := .ref (a 23)) (C := "RightsLimit$Requests") (T := fT_q) (N := 13) hx hb hG fi_q hown hK hP 4 rfl rfl 5 (by decide) (hG _ wd_127) (fun _ h9 => h9) rfl d_q_allow_1 ?_
  refine lv_iload_n hx hb d_q_allow_4 rfl (lv_at hl 1 rfl) ?_
  refine lv_iload_n hx hb d_q_allow_5 rfl (lv_at hl 2 rfl) ?_
  refine va_iast hx hb hK hP hD hS 23 0 rfl rfl (rl_in (n := 300) (by omega) (by omega)) d_q_allow_6 (fun H locs hP hD hS => ?_)
  obtain ⟨F1, eF1⟩ : ∃ G, G = rl_st F 18 jn.toNatClampNeg jb := ⟨_, rfl⟩
  have hP : va_P D rl_cl (rl_w a kI kZ F1) H := by rw [eF1]; exact hP
  have hD : va_D A (rl_w a kI kZ F1) := by rw [eF1]; exact hD
  obtain ⟨tF1, hRF1⟩ := rl_keep eF1 (by decide) (by decide) hR
  refine lv_aload_n hx hb d_q_allow_7 rfl (lv_at hl 0 rfl) ?_
  refine va_get (D := D) (ci := 4) (v := .ref (a 27)) (C := "RightsLimit$Requests") (T := fT_q) (N := 13) hx hb hG fi_q hown hK hP 4 rfl rfl 9 (by decide) (hG _ wd_134) (fun _ h9 => h9) rfl d_q_allow_8 ?_
  refine lv_iload_n hx hb d_q_allow_11 rfl (lv_at hl 1 rfl) ?_
  refine lv_aload_n hx hb d_q_allow_12 rfl (lv_at hl 0 rfl) ?_
  refine va_get (D := D) (ci := 4) (v := .ref (a 22)) (C := "RightsLimit$Requests") (T := fT_q) (N := 13) hx hb hG fi_q hown hK hP 4 rfl rfl 4 (by decide) (hG _ wd_125) (fun _ h9 => h9) rfl d_q_allow_13 ?_
  refine lv_iload_n hx hb d_q_allow_16 rfl (lv_at hl 1 rfl) ?_
  refine va_iald hx hb hK hP 22 0 rfl rfl (rl_in (n := 300) (by omega) (by omega)) d_q_allow_17 ?_
  refine lv_topi (fun v2 ev2 => ?_)
  refine lv_ldc (v := 2592000) hx hb hown (hG _ wd_271) d_q_allow_18 ?_
  refine lv_iadd hx hb d_q_allow_20 ?_
  refine lv_topi (fun v3 ev3 => ?_)
  refine va_iast hx hb hK hP hD hS 27 0 rfl rfl (rl_in (n := 300) (by omega) (by omega)) d_q_allow_21 (fun H locs hP hD hS => ?_)
  obtain ⟨F4, eF4⟩ : ∃ G, G = rl_st F1 22 jn.toNatClampNeg v3 := ⟨_, rfl⟩
  have hP : va_P D rl_cl (rl_w a kI kZ F4) H := by rw [eF4]; exact hP
  have hD : va_D A (rl_w a kI kZ F4) := by rw [eF4]; exact hD
  obtain ⟨tF4, hRF4⟩ := rl_keep eF4 (by decide) (by decide) hRF1
  exact W.vret hx hb hr (fun t ht hW => ⟨⟨F4, rfl, ⟨hRF4, (show (F4 27 0).toInt = (F 27 0).toInt ∧ (F4 27 1).toInt = (F 27 1).toInt ∧ (F4 27 2).toInt = (F 27 2).toInt ∧ (F4 27 3).toInt = (F 27 3).toInt by omega)⟩, ⟨by rw [ht]; exact hP, hD⟩⟩, hS.F ht⟩) hS.2.2 d_q_allow_22
set_option maxHeartbeats 4000000 in
set_option maxRecDepth 100000 in
theorem k_q_charge (l : Launch) (D : va_G) (a : Nat → Nat) (kI kZ : ClassId) (F : Nat → Nat → Int32) (jn jb : Int32) (hI : rl_I F) (hn0 : 0 ≤ jn.toInt) (hn1 : jn.toInt < 300) (sz : Nat) : rl_Cv (S := Nat → Nat → Int32) l ⟨"RightsLimit$Requests", "charge", "(II)V"⟩ (Cond.code ⟨"RightsLimit$Requests", "charge", "(II)V"⟩ prog_4_method_5_code 3 none :: rl_G) { frames := 0, cells := 0, slots := 0, locals := 0 } D rl_cl (rl_tys kI kZ) rl_nw [.ref (a 4), .int jn, .int jb] (rl_w a kI kZ F) sz (fun (F' : Nat → Nat → Int32) => rl_R F' ∧ ((F' 27 0).toInt = (F 27 0).toInt ∧ (F' 27 1).toInt = (F 27 1).toInt ∧ (F' 27 2).toInt = (F 27 2).toInt ∧ (F' 27 3).toInt = (F 27 3).toInt)) (fun F' => rl_w a kI kZ F') 0 0 := by
  refine rl_metv (cc := prog_4_method_5_code) (maxL := 3) (ret := none) (by decide) rfl (Nat.le_of_ble_eq_true rfl) ?_
  intro p e s m below meth c A ls hx hb hr hml hown hts hlocks hnm hP hK hD hS hA hN hl
  have hown : s.vm.findClass "RightsLimit$Requests" = some m.cls := hown
  have hG : ∀ x ∈ rl_G, x.before _ s = true := fun x h => hts x (List.mem_cons_of_mem _ h)
  have hl : lv_has ls 3 [(0, .ref (a 4)), (1, .int jn), (2, .int jb)] := hl
  obtain ⟨hcnt, hR⟩ := id hI
  refine lv_aload_n hx hb d_q_charge_0 rfl (lv_at hl 0 rfl) ?_
  refine va_get (D := D) (ci := 4) (v := .ref (a 25)) (C := "RightsLimit$Requests") (T := fT_q) (N := 13) hx hb hG fi_q hown hK hP 4 rfl rfl 7 (by decide) (hG _ wd_131) (fun _ h9 => h9) rfl d_q_charge_1 ?_
  refine lv_iload_n hx hb d_q_charge_4 rfl (lv_at hl 1 rfl) ?_
  refine lv_aload_n hx hb d_q_charge_5 rfl (lv_at hl 0 rfl) ?_
  refine va_get (D := D) (ci := 4) (v := .ref (a 21)) (C := "RightsLimit$Requests") (T := fT_q) (N := 13) hx hb hG fi_q hown hK hP 4 rfl rfl 3 (by decide) (hG _ wd_123) (fun _ h9 => h9) rfl d_q_charge_6 ?_
  refine lv_iload_n hx hb d_q_charge_9 rfl (lv_at hl 1 rfl) ?_
  refine va_iald hx hb hK hP 21 0 rfl rfl (rl_in (n := 300) (by omega) (by omega)) d_q_charge_10 ?_
  refine lv_topi (fun v1 ev1 => ?_)
  refine lv_iload_n hx hb d_q_charge_11 rfl (lv_at hl 2 rfl) ?_
  refine lv_imul hx hb d_q_charge_12 ?_
  refine lv_topi (fun v2 ev2 => ?_)
  refine va_iast hx hb hK hP hD hS 25 0 rfl rfl (rl_in (n := 300) (by omega) (by omega)) d_q_charge_13 (fun H locs hP hD hS => ?_)
  obtain ⟨F3, eF3⟩ : ∃ G, G = rl_st F 20 jn.toNatClampNeg v2 := ⟨_, rfl⟩
  have hP : va_P D rl_cl (rl_w a kI kZ F3) H := by rw [eF3]; exact hP
  have hD : va_D A (rl_w a kI kZ F3) := by rw [eF3]; exact hD
  obtain ⟨tF3, hRF3⟩ := rl_keep eF3 (by decide) (by decide) hR
  refine lv_aload_n hx hb d_q_charge_14 rfl (lv_at hl 0 rfl) ?_
  refine va_get (D := D) (ci := 4) (v := .ref (a 26)) (C := "RightsLimit$Requests") (T := fT_q) (N := 13) hx hb hG fi_q hown hK hP 4 rfl rfl 8 (by decide) (hG _ wd_132) (fun _ h9 => h9) rfl d_q_charge_15 ?_
  refine lv_iload_n hx hb d_q_charge_18 rfl (lv_at hl 1 rfl) ?_
  refine lv_aload_n hx hb d_q_charge_19 rfl (lv_at hl 0 rfl) ?_
  refine va_get (D := D) (ci := 4) (v := .ref (a 25)) (C := "RightsLimit$Requests") (T := fT_q) (N := 13) hx hb hG fi_q hown hK hP 4 rfl rfl 7 (by decide) (hG _ wd_131) (fun _ h9 => h9) rfl d_q_charge_20 ?_
  refine lv_iload_n hx hb d_q_charge_23 rfl (lv_at hl 1 rfl) ?_
  refine va_iald hx hb hK hP 25 0 rfl rfl (rl_in (n := 300) (by omega) (by omega)) d_q_charge_24 ?_
  refine lv_topi (fun v4 ev4 => ?_)
  refine va_iast hx hb hK hP hD hS 26 0 rfl rfl (rl_in (n := 300) (by omega) (by omega)) d_q_charge_25 (fun H locs hP hD hS => ?_)
  obtain ⟨F5, eF5⟩ : ∃ G, G = rl_st F3 21 jn.toNatClampNeg v4 := ⟨_, rfl⟩
  have hP : va_P D rl_cl (rl_w a kI kZ F5) H := by rw [eF5]; exact hP
  have hD : va_D A (rl_w a kI kZ F5) := by rw [eF5]; exact hD
  obtain ⟨tF5, hRF5⟩ := rl_keep eF5 (by decide) (by decide) hRF3
  exact W.vret hx hb hr (fun t ht hW => ⟨⟨F5, rfl, ⟨hRF5, (show (F5 27 0).toInt = (F 27 0).toInt ∧ (F5 27 1).toInt = (F 27 1).toInt ∧ (F5 27 2).toInt = (F 27 2).toInt ∧ (F5 27 3).toInt = (F 27 3).toInt by omega)⟩, ⟨by rw [ht]; exact hP, hD⟩⟩, hS.F ht⟩) hS.2.2 d_q_charge_26
set_option maxHeartbeats 4000000 in
set_option maxRecDepth 100000 in
theorem k_q_prolong (l : Launch) (D : va_G) (a : Nat → Nat) (kI kZ : ClassId) (F : Nat → Nat → Int32) (jn : Int32) (hI : rl_I F) (hn0 : 0 ≤ jn.toInt) (hn1 : jn.toInt < 300) (sz : Nat) : rl_Ci (S := Nat → Nat → Int32) l ⟨"RightsLimit$Requests", "prolong", "(I)I"⟩ (Cond.code ⟨"RightsLimit$Requests", "prolong", "(I)I"⟩ prog_4_method_6_code 2 (some .int) :: rl_G) { frames := 0, cells := 0, slots := 0, locals := 0 } D rl_cl (rl_tys kI kZ) rl_nw [.ref (a 4), .int jn] (rl_w a kI kZ F) sz (fun (r : Int32) (F' : Nat → Nat → Int32) => rl_R F' ∧ ((F' 27 0).toInt = (F 27 0).toInt ∧ (F' 27 1).toInt = (F 27 1).toInt ∧ (F' 27 2).toInt = (F 27 2).toInt ∧ (F' 27 3).toInt = (F 27 3).toInt)) (fun F' => rl_w a kI kZ F') 0 0 := by
  refine rl_meti (cc := prog_4_method_6_code) (maxL := 2) (ret := (some .int)) (by decide) rfl (Nat.le_of_ble_eq_true rfl) ?_
  intro p e s m below meth c A ls hx hb hr hml hown hts hlocks hnm hP hK hD hS hA hN hl
  have hown : s.vm.findClass "RightsLimit$Requests" = some m.cls := hown
  have hG : ∀ x ∈ rl_G, x.before _ s = true := fun x h => hts x (List.mem_cons_of_mem _ h)
  have hl : lv_has ls 2 [(0, .ref (a 4)), (1, .int jn)] := hl
  obtain ⟨hcnt, hR⟩ := id hI
  refine lv_aload_n hx hb d_q_prolong_0 rfl (lv_at hl 0 rfl) ?_
  refine va_get (D := D) (ci := 4) (v := .ref (a 28)) (C := "RightsLimit$Requests") (T := fT_q) (N := 13) hx hb hG fi_q hown hK hP 4 rfl rfl 10 (by decide) (hG _ wd_136) (fun _ h9 => h9) rfl d_q_prolong_1 ?_
  refine lv_iload_n hx hb d_q_prolong_4 rfl (lv_at hl 1 rfl) ?_
  refine lv_dup2_11 hx hb d_q_prolong_5 rfl rfl ?_
  refine va_iald hx hb hK hP 28 0 rfl rfl (rl_in (n := 300) (by omega) (by omega)) d_q_prolong_6 ?_
  refine lv_topi (fun v1 ev1 => ?_)
  refine lv_iconst (v := 1) hx hb d_q_prolong_7 (by decide) ?_
  refine lv_iadd hx hb d_q_prolong_8 ?_
  refine lv_topi (fun v2 ev2 => ?_)
  refine va_iast hx hb hK hP hD hS 28 0 rfl rfl (rl_in (n := 300) (by omega) (by omega)) d_q_prolong_9 (fun H locs hP hD hS => ?_)
  obtain ⟨F3, eF3⟩ : ∃ G, G = rl_st F 23 jn.toNatClampNeg v2 := ⟨_, rfl⟩
  have hP : va_P D rl_cl (rl_w a kI kZ F3) H := by rw [eF3]; exact hP
  have hD : va_D A (rl_w a kI kZ F3) := by rw [eF3]; exact hD
  obtain ⟨tF3, hRF3⟩ := rl_keep eF3 (by decide) (by decide) hR
  refine lv_aload_n hx hb d_q_prolong_10 rfl (lv_at hl 0 rfl) ?_
  refine va_get (D := D) (ci := 4) (v := .ref (a 26)) (C := "RightsLimit$Requests") (T := fT_q) (N := 13) hx hb hG fi_q hown hK hP 4 rfl rfl 8 (by decide) (hG _ wd_132) (fun _ h9 => h9) rfl d_q_prolong_11 ?_
  refine lv_iload_n hx hb d_q_prolong_14 rfl (lv_at hl 1 rfl) ?_
  refine lv_dup2_11 hx hb d_q_prolong_15 rfl rfl ?_
  refine va_iald hx hb hK hP 26 0 rfl rfl (rl_in (n := 300) (by omega) (by omega)) d_q_prolong_16 ?_
  refine lv_topi (fun v4 ev4 => ?_)
  refine lv_aload_n hx hb d_q_prolong_17 rfl (lv_at hl 0 rfl) ?_
  refine va_get (D := D) (ci := 4) (v := .ref (a 25)) (C := "RightsLimit$Requests") (T := fT_q) (N := 13) hx hb hG fi_q hown hK hP 4 rfl rfl 7 (by decide) (hG _ wd_131) (fun _ h9 => h9) rfl d_q_prolong_18 ?_
  refine lv_iload_n hx hb d_q_prolong_21 rfl (lv_at hl 1 rfl) ?_
  refine va_iald hx hb hK hP 25 0 rfl rfl (rl_in (n := 300) (by omega) (by omega)) d_q_prolong_22 ?_
  refine lv_topi (fun v5 ev5 => ?_)
  refine lv_iadd hx hb d_q_prolong_23 ?_
  refine lv_topi (fun v6 ev6 => ?_)
  refine va_iast hx hb hK hP hD hS 26 0 rfl rfl (rl_in (n := 300) (by omega) (by omega)) d_q_prolong_24 (fun H locs hP hD hS => ?_)
  obtain ⟨F7, eF7⟩ : ∃ G, G = rl_st F3 21 jn.toNatClampNeg v6 := ⟨_, rfl⟩
  have hP : va_P D rl_cl (rl_w a kI kZ F7) H := by rw [eF7]; exact hP
  have hD : va_D A (rl_w a kI kZ F7) := by rw [eF7]; exact hD
  obtain ⟨tF7, hRF7⟩ := rl_keep eF7 (by decide) (by decide) hRF3
  refine lv_aload_n hx hb d_q_prolong_25 rfl (lv_at hl 0 rfl) ?_
  refine va_get (D := D) (ci := 4) (v := .ref (a 27)) (C := "RightsLimit$Requests") (T := fT_q) (N := 13) hx hb hG fi_q hown hK hP 4 rfl rfl 9 (by decide) (hG _ wd_134) (fun _ h9 => h9) rfl d_q_prolong_26 ?_
  refine lv_iload_n hx hb d_q_prolong_29 rfl (lv_at hl 1 rfl) ?_
  refine lv_dup2_11 hx hb d_q_prolong_30 rfl rfl ?_
  refine va_iald hx hb hK hP 27 0 rfl rfl (rl_in (n := 300) (by omega) (by omega)) d_q_prolong_31 ?_
  refine lv_topi (fun v8 ev8 => ?_)
  refine lv_ldc (v := 2592000) hx hb hown (hG _ wd_271) d_q_prolong_32 ?_
  refine lv_iadd hx hb d_q_prolong_34 ?_
  refine lv_topi (fun v9 ev9 => ?_)
  refine va_iast hx hb hK hP hD hS 27 0 rfl rfl (rl_in (n := 300) (by omega) (by omega)) d_q_prolong_35 (fun H locs hP hD hS => ?_)
  obtain ⟨F10, eF10⟩ : ∃ G, G = rl_st F7 22 jn.toNatClampNeg v9 := ⟨_, rfl⟩
  have hP : va_P D rl_cl (rl_w a kI kZ F10) H := by rw [eF10]; exact hP
  have hD : va_D A (rl_w a kI kZ F10) := by rw [eF10]; exact hD
  obtain ⟨tF10, hRF10⟩ := rl_keep eF10 (by decide) (by decide) hRF7
  refine lv_aload_n hx hb d_q_prolong_36 rfl (lv_at hl 0 rfl) ?_
  refine va_get (D := D) (ci := 4) (v := .ref (a 27)) (C := "RightsLimit$Requests") (T := fT_q) (N := 13) hx hb hG fi_q hown hK hP 4 rfl rfl 9 (by decide) (hG _ wd_134) (fun _ h9 => h9) rfl d_q_prolong_37 ?_
  refine lv_iload_n hx hb d_q_prolong_40 rfl (lv_at hl 1 rfl) ?_
  refine va_iald hx hb hK hP 27 0 rfl rfl (rl_in (n := 300) (by omega) (by omega)) d_q_prolong_41 ?_
  refine lv_topi (fun v11 ev11 => ?_)
  exact W.iret (v := v11) hx hb hr (fun t ht hW => ⟨⟨v11, F10, rfl, ⟨hRF10, (show (F10 27 0).toInt = (F 27 0).toInt ∧ (F10 27 1).toInt = (F 27 1).toInt ∧ (F10 27 2).toInt = (F 27 2).toInt ∧ (F10 27 3).toInt = (F 27 3).toInt by omega)⟩, ⟨by rw [ht]; exact hP, hD⟩⟩, hS.F ht⟩) hS.2.2 d_q_prolong_42
set_option maxHeartbeats 4000000 in
set_option maxRecDepth 100000 in
theorem k_q_isCopy (l : Launch) (D : va_G) (a : Nat → Nat) (kI kZ : ClassId) (F : Nat → Nat → Int32) (jn : Int32) (hI : rl_I F) (hn0 : 0 ≤ jn.toInt) (hn1 : jn.toInt < 300) (H0 : Heap) : rl_Ri l ⟨"RightsLimit$Requests", "isCopy", "(I)Z"⟩ (Cond.code ⟨"RightsLimit$Requests", "isCopy", "(I)Z"⟩ prog_4_method_7_code 2 (some .boolean) :: rl_G) { frames := 0, cells := 0, slots := 0, locals := 0 } D rl_cl (rl_tys kI kZ) rl_nw [.ref (a 4), .int jn] (rl_w a kI kZ F) H0 (fun (r : Int32) => (r = 1 ∧ True) ∨ (r = 0 ∧ True)) := by
  refine rl_metr (cc := prog_4_method_7_code) (maxL := 2) (ret := (some .boolean)) (by decide) rfl (Nat.le_of_ble_eq_true rfl) ?_
  intro p e s m below meth c ls hx hb hr hml hown hts hlocks hP hK hS hN hl
  have hown : s.vm.findClass "RightsLimit$Requests" = some m.cls := hown
  have hG : ∀ x ∈ rl_G, x.before _ s = true := fun x h => hts x (List.mem_cons_of_mem _ h)
  have hl : lv_has ls 2 [(0, .ref (a 4)), (1, .int jn)] := hl
  obtain ⟨hcnt, hR⟩ := id hI
  refine lv_aload_n hx hb d_q_isCopy_0 rfl (lv_at hl 0 rfl) ?_
  refine va_get (D := D) (ci := 4) (v := .ref (a 23)) (C := "RightsLimit$Requests") (T := fT_q) (N := 13) hx hb hG fi_q hown hK hP 4 rfl rfl 5 (by decide) (hG _ wd_127) (fun _ h9 => h9) rfl d_q_isCopy_1 ?_
  refine lv_iload_n hx hb d_q_isCopy_4 rfl (lv_at hl 1 rfl) ?_
  refine va_iald hx hb hK hP 23 0 rfl rfl (rl_in (n := 300) (by omega) (by omega)) d_q_isCopy_5 ?_
  refine lv_topi (fun v1 ev1 => ?_)
  refine lv_if_eq (tgt := 13) hx hb d_q_isCopy_6 (by decide) (fun c2 => ?_) (fun c2 => ?_)
  · have ic2 := rl_ieq c2
    simp only [rl_n0] at ic2
    refine lv_iconst (v := 0) hx hb d_q_isCopy_13 (by decide) ?_
    exact W.zret (v := 0) hx hb hr rfl (fun t ht hW => ⟨⟨0, (), rfl, Or.inr ⟨rfl, trivial⟩, ht⟩, hS.F ht⟩) hS.2.2 d_q_isCopy_14
  · have ic2 := rl_ine c2
    simp only [rl_n0] at ic2
    refine lv_iconst (v := 1) hx hb d_q_isCopy_9 (by decide) ?_
    refine lv_goto (tgt := 14) hx hb d_q_isCopy_10 (by decide) ?_
    exact W.zret (v := 1) hx hb hr rfl (fun t ht hW => ⟨⟨1, (), rfl, Or.inl ⟨rfl, trivial⟩, ht⟩, hS.F ht⟩) hS.2.2 d_q_isCopy_14
set_option maxHeartbeats 4000000 in
set_option maxRecDepth 100000 in
theorem k_q_isKept (l : Launch) (D : va_G) (a : Nat → Nat) (kI kZ : ClassId) (F : Nat → Nat → Int32) (jn : Int32) (hI : rl_I F) (hn0 : 0 ≤ jn.toInt) (hn1 : jn.toInt < 300) (H0 : Heap) : rl_Ri l ⟨"RightsLimit$Requests", "isKept", "(I)Z"⟩ (Cond.code ⟨"RightsLimit$Requests", "isKept", "(I)Z"⟩ prog_4_method_8_code 2 (some .boolean) :: rl_G) { frames := 1, cells := 0, slots := 0, locals := 21 } D rl_cl (rl_tys kI kZ) rl_nw [.ref (a 4), .int jn] (rl_w a kI kZ F) H0 (fun (r : Int32) => (r = 1 ∧ True) ∨ (r = 0 ∧ True)) := by
  refine rl_metr (cc := prog_4_method_8_code) (maxL := 2) (ret := (some .boolean)) (by decide) rfl (Nat.le_of_ble_eq_true rfl) ?_
  intro p e s m below meth c ls hx hb hr hml hown hts hlocks hP hK hS hN hl
  have hown : s.vm.findClass "RightsLimit$Requests" = some m.cls := hown
  have hG : ∀ x ∈ rl_G, x.before _ s = true := fun x h => hts x (List.mem_cons_of_mem _ h)
  have hl : lv_has ls 2 [(0, .ref (a 4)), (1, .int jn)] := hl
  obtain ⟨hcnt, hR⟩ := id hI
  refine lv_aload_n hx hb d_q_isKept_0 rfl (lv_at hl 0 rfl) ?_
  refine lv_iload_n hx hb d_q_isKept_1 rfl (lv_at hl 1 rfl) ?_
  have hpre := rl_BR.pre (av := .ref (a 4) :: [.int jn]) rl_nw_ok hP hK hN
  refine rl_callr hS (va_runV (As := [.int jn]) (rest := []) ⟨hx, hb, hml, hown, hG⟩ (k_q_isCopy l D a kI kZ F jn ⟨by omega, hR⟩ (by omega) (by omega) _) (cwV 1 hG (rl_gV wd_343 wd_304 wd_305 wd_18 wd_306) rfl rfl rfl (by decide +kernel) ⟨Nat.le_of_ble_eq_true rfl, Nat.le_of_ble_eq_true rfl⟩) ⟨hpre.1, (va_recv hK hP (ci := 4) (q0 := 4) rfl rfl), hpre.2⟩ rfl rfl hl.1 rfl (lv_room (Nat.le_of_ble_eq_true rfl)) d_q_isKept_2 ⟨Nat.le_of_ble_eq_true rfl, Nat.le_of_ble_eq_true rfl⟩) (fun r1 locs hw hS => ?_)
  rcases hw with ⟨rfl, h2⟩ | ⟨rfl, h2⟩
  · refine lv_if_eq (tgt := 22) hx hb d_q_isKept_5 (by decide) (fun c9 => absurd c9 (by decide)) (fun _ => ?_)
    refine lv_aload_n hx hb d_q_isKept_8 rfl (lv_at hl 0 rfl) ?_
    refine va_get (D := D) (ci := 4) (v := .ref (a 29)) (C := "RightsLimit$Requests") (T := fT_q) (N := 13) hx hb hG fi_q hown hK hP 4 rfl rfl 11 (by decide) (hG _ wd_138) (fun _ h9 => h9) rfl d_q_isKept_9 ?_
    refine lv_iload_n hx hb d_q_isKept_12 rfl (lv_at hl 1 rfl) ?_
    refine va_iald hx hb hK hP 29 0 rfl rfl (rl_in (n := 300) (by omega) (by omega)) d_q_isKept_13 ?_
    refine lv_topi (fun v3 ev3 => ?_)
    refine lv_iconst (v := (-1)) hx hb d_q_isKept_14 (by decide) ?_
    refine lv_icmp_ne (tgt := 22) hx hb d_q_isKept_15 (by decide) (fun c4 => ?_) (fun c4 => ?_)
    · have ic4 := rl_ine c4
      simp only [rl_nm1] at ic4
      refine lv_iconst (v := 0) hx hb d_q_isKept_22 (by decide) ?_
      exact W.zret (v := 0) hx hb hr rfl (fun t ht hW => ⟨⟨0, (), rfl, Or.inr ⟨rfl, trivial⟩, ht⟩, hS.F ht⟩) hS.2.2 d_q_isKept_23
    · have ic4 := rl_ieq c4
      simp only [rl_nm1] at ic4
      refine lv_iconst (v := 1) hx hb d_q_isKept_18 (by decide) ?_
      refine lv_goto (tgt := 23) hx hb d_q_isKept_19 (by decide) ?_
      exact W.zret (v := 1) hx hb hr rfl (fun t ht hW => ⟨⟨1, (), rfl, Or.inl ⟨rfl, trivial⟩, ht⟩, hS.F ht⟩) hS.2.2 d_q_isKept_23
  · refine lv_if_eq (tgt := 22) hx hb d_q_isKept_5 (by decide) (fun _ => ?_) (fun c9 => absurd c9 (by decide))
    refine lv_iconst (v := 0) hx hb d_q_isKept_22 (by decide) ?_
    exact W.zret (v := 0) hx hb hr rfl (fun t ht hW => ⟨⟨0, (), rfl, Or.inr ⟨rfl, trivial⟩, ht⟩, hS.F ht⟩) hS.2.2 d_q_isKept_23
set_option maxHeartbeats 4000000 in
set_option maxRecDepth 100000 in
theorem k_q_hasEnded (l : Launch) (D : va_G) (a : Nat → Nat) (kI kZ : ClassId) (F : Nat → Nat → Int32) (jn jt : Int32) (hI : rl_I F) (hn0 : 0 ≤ jn.toInt) (hn1 : jn.toInt < 300) (H0 : Heap) : rl_Ri l ⟨"RightsLimit$Requests", "hasEnded", "(II)Z"⟩ (Cond.code ⟨"RightsLimit$Requests", "hasEnded", "(II)Z"⟩ prog_4_method_9_code 3 (some .boolean) :: rl_G) { frames := 0, cells := 0, slots := 0, locals := 0 } D rl_cl (rl_tys kI kZ) rl_nw [.ref (a 4), .int jn, .int jt] (rl_w a kI kZ F) H0 (fun (r : Int32) => (r = 1 ∧ True) ∨ (r = 0 ∧ True)) := by
  refine rl_metr (cc := prog_4_method_9_code) (maxL := 3) (ret := (some .boolean)) (by decide) rfl (Nat.le_of_ble_eq_true rfl) ?_
  intro p e s m below meth c ls hx hb hr hml hown hts hlocks hP hK hS hN hl
  have hown : s.vm.findClass "RightsLimit$Requests" = some m.cls := hown
  have hG : ∀ x ∈ rl_G, x.before _ s = true := fun x h => hts x (List.mem_cons_of_mem _ h)
  have hl : lv_has ls 3 [(0, .ref (a 4)), (1, .int jn), (2, .int jt)] := hl
  obtain ⟨hcnt, hR⟩ := id hI
  refine lv_iload_n hx hb d_q_hasEnded_0 rfl (lv_at hl 2 rfl) ?_
  refine lv_aload_n hx hb d_q_hasEnded_1 rfl (lv_at hl 0 rfl) ?_
  refine va_get (D := D) (ci := 4) (v := .ref (a 27)) (C := "RightsLimit$Requests") (T := fT_q) (N := 13) hx hb hG fi_q hown hK hP 4 rfl rfl 9 (by decide) (hG _ wd_134) (fun _ h9 => h9) rfl d_q_hasEnded_2 ?_
  refine lv_iload_n hx hb d_q_hasEnded_5 rfl (lv_at hl 1 rfl) ?_
  refine va_iald hx hb hK hP 27 0 rfl rfl (rl_in (n := 300) (by omega) (by omega)) d_q_hasEnded_6 ?_
  refine lv_topi (fun v1 ev1 => ?_)
  refine lv_icmp_lt (tgt := 14) hx hb d_q_hasEnded_7 (by decide) (fun c2 => ?_) (fun c2 => ?_)
  · have ic2 := rl_ilt c2
    refine lv_iconst (v := 0) hx hb d_q_hasEnded_14 (by decide) ?_
    exact W.zret (v := 0) hx hb hr rfl (fun t ht hW => ⟨⟨0, (), rfl, Or.inr ⟨rfl, trivial⟩, ht⟩, hS.F ht⟩) hS.2.2 d_q_hasEnded_15
  · have ic2 := rl_inlt c2
    refine lv_iconst (v := 1) hx hb d_q_hasEnded_10 (by decide) ?_
    refine lv_goto (tgt := 15) hx hb d_q_hasEnded_11 (by decide) ?_
    exact W.zret (v := 1) hx hb hr rfl (fun t ht hW => ⟨⟨1, (), rfl, Or.inl ⟨rfl, trivial⟩, ht⟩, hS.F ht⟩) hS.2.2 d_q_hasEnded_15
set_option maxHeartbeats 4000000 in
set_option maxRecDepth 100000 in
theorem k_q_isRenewable (l : Launch) (D : va_G) (a : Nat → Nat) (kI kZ : ClassId) (F : Nat → Nat → Int32) (jn jt : Int32) (hI : rl_I F) (hn0 : 0 ≤ jn.toInt) (hn1 : jn.toInt < 300) (H0 : Heap) : rl_Ri l ⟨"RightsLimit$Requests", "isRenewable", "(II)Z"⟩ (Cond.code ⟨"RightsLimit$Requests", "isRenewable", "(II)Z"⟩ prog_4_method_10_code 3 (some .boolean) :: rl_G) { frames := 2, cells := 0, slots := 0, locals := 42 } D rl_cl (rl_tys kI kZ) rl_nw [.ref (a 4), .int jn, .int jt] (rl_w a kI kZ F) H0 (fun (r : Int32) => (r = 1 ∧ True) ∨ (r = 0 ∧ True)) := by
  refine rl_metr (cc := prog_4_method_10_code) (maxL := 3) (ret := (some .boolean)) (by decide) rfl (Nat.le_of_ble_eq_true rfl) ?_
  intro p e s m below meth c ls hx hb hr hml hown hts hlocks hP hK hS hN hl
  have hown : s.vm.findClass "RightsLimit$Requests" = some m.cls := hown
  have hG : ∀ x ∈ rl_G, x.before _ s = true := fun x h => hts x (List.mem_cons_of_mem _ h)
  have hl : lv_has ls 3 [(0, .ref (a 4)), (1, .int jn), (2, .int jt)] := hl
  obtain ⟨hcnt, hR⟩ := id hI
  refine lv_aload_n hx hb d_q_isRenewable_0 rfl (lv_at hl 0 rfl) ?_
  refine lv_iload_n hx hb d_q_isRenewable_1 rfl (lv_at hl 1 rfl) ?_
  have hpre := rl_BR.pre (av := .ref (a 4) :: [.int jn]) rl_nw_ok hP hK hN
  refine rl_callr hS (va_runV (As := [.int jn]) (rest := []) ⟨hx, hb, hml, hown, hG⟩ (k_q_isKept l D a kI kZ F jn ⟨by omega, hR⟩ (by omega) (by omega) _) (cwV 1 hG (rl_gV wd_339 wd_340 wd_341 wd_18 wd_342) rfl rfl rfl (by decide +kernel) ⟨Nat.le_of_ble_eq_true rfl, Nat.le_of_ble_eq_true rfl⟩) ⟨hpre.1, (va_recv hK hP (ci := 4) (q0 := 4) rfl rfl), hpre.2⟩ rfl rfl hl.1 rfl (lv_room (Nat.le_of_ble_eq_true rfl)) d_q_isRenewable_2 ⟨Nat.le_of_ble_eq_true rfl, Nat.le_of_ble_eq_true rfl⟩) (fun r1 locs hw hS => ?_)
  rcases hw with ⟨rfl, h2⟩ | ⟨rfl, h2⟩
  · refine lv_if_eq (tgt := 31) hx hb d_q_isRenewable_5 (by decide) (fun c9 => absurd c9 (by decide)) (fun _ => ?_)
    refine lv_aload_n hx hb d_q_isRenewable_8 rfl (lv_at hl 0 rfl) ?_
    refine va_get (D := D) (ci := 4) (v := .ref (a 28)) (C := "RightsLimit$Requests") (T := fT_q) (N := 13) hx hb hG fi_q hown hK hP 4 rfl rfl 10 (by decide) (hG _ wd_136) (fun _ h9 => h9) rfl d_q_isRenewable_9 ?_
    refine lv_iload_n hx hb d_q_isRenewable_12 rfl (lv_at hl 1 rfl) ?_
    refine va_iald hx hb hK hP 28 0 rfl rfl (rl_in (n := 300) (by omega) (by omega)) d_q_isRenewable_13 ?_
    refine lv_topi (fun v3 ev3 => ?_)
    refine lv_iconst (v := 2) hx hb d_q_isRenewable_14 (by decide) ?_
    refine lv_icmp_ge (tgt := 31) hx hb d_q_isRenewable_15 (by decide) (fun c4 => ?_) (fun c4 => ?_)
    · have ic4 := rl_ile c4
      simp only [rl_n2] at ic4
      refine lv_iconst (v := 0) hx hb d_q_isRenewable_31 (by decide) ?_
      exact W.zret (v := 0) hx hb hr rfl (fun t ht hW => ⟨⟨0, (), rfl, Or.inr ⟨rfl, trivial⟩, ht⟩, hS.F ht⟩) hS.2.2 d_q_isRenewable_32
    · have ic4 := rl_inle c4
      simp only [rl_n2] at ic4
      refine lv_aload_n hx hb d_q_isRenewable_18 rfl (lv_at hl 0 rfl) ?_
      refine lv_iload_n hx hb d_q_isRenewable_19 rfl (lv_at hl 1 rfl) ?_
      refine lv_iload_n hx hb d_q_isRenewable_20 rfl (lv_at hl 2 rfl) ?_
      have hpre := rl_BR.pre (av := .ref (a 4) :: [.int jn, .int jt]) rl_nw_ok hP hK hN
      refine rl_callr hS (va_runV (As := [.int jn, .int jt]) (rest := []) ⟨hx, hb, hml, hown, hG⟩ (k_q_hasEnded l D a kI kZ F jn jt ⟨by omega, hR⟩ (by omega) (by omega) _) (cwV 2 hG (rl_gV wd_344 wd_345 wd_346 wd_18 wd_347) rfl rfl rfl (by decide +kernel) ⟨Nat.le_of_ble_eq_true rfl, Nat.le_of_ble_eq_true rfl⟩) ⟨hpre.1, (va_recv hK hP (ci := 4) (q0 := 4) rfl rfl), hpre.2⟩ rfl rfl hl.1 rfl (lv_room (Nat.le_of_ble_eq_true rfl)) d_q_isRenewable_21 ⟨Nat.le_of_ble_eq_true rfl, Nat.le_of_ble_eq_true rfl⟩) (fun r5 locs hw hS => ?_)
      rcases hw with ⟨rfl, h6⟩ | ⟨rfl, h6⟩
      · refine lv_if_ne (tgt := 31) hx hb d_q_isRenewable_24 (by decide) (fun _ => ?_) (fun c9 => absurd c9 (by decide))
        refine lv_iconst (v := 0) hx hb d_q_isRenewable_31 (by decide) ?_
        exact W.zret (v := 0) hx hb hr rfl (fun t ht hW => ⟨⟨0, (), rfl, Or.inr ⟨rfl, trivial⟩, ht⟩, hS.F ht⟩) hS.2.2 d_q_isRenewable_32
      · refine lv_if_ne (tgt := 31) hx hb d_q_isRenewable_24 (by decide) (fun c9 => absurd c9 (by decide)) (fun _ => ?_)
        refine lv_iconst (v := 1) hx hb d_q_isRenewable_27 (by decide) ?_
        refine lv_goto (tgt := 32) hx hb d_q_isRenewable_28 (by decide) ?_
        exact W.zret (v := 1) hx hb hr rfl (fun t ht hW => ⟨⟨1, (), rfl, Or.inl ⟨rfl, trivial⟩, ht⟩, hS.F ht⟩) hS.2.2 d_q_isRenewable_32
  · refine lv_if_eq (tgt := 31) hx hb d_q_isRenewable_5 (by decide) (fun _ => ?_) (fun c9 => absurd c9 (by decide))
    refine lv_iconst (v := 0) hx hb d_q_isRenewable_31 (by decide) ?_
    exact W.zret (v := 0) hx hb hr rfl (fun t ht hW => ⟨⟨0, (), rfl, Or.inr ⟨rfl, trivial⟩, ht⟩, hS.F ht⟩) hS.2.2 d_q_isRenewable_32
set_option maxHeartbeats 4000000 in
set_option maxRecDepth 100000 in
theorem k_q_countsForLimits (l : Launch) (D : va_G) (a : Nat → Nat) (kI kZ : ClassId) (F : Nat → Nat → Int32) (jn : Int32) (hI : rl_I F) (hn0 : 0 ≤ jn.toInt) (hn1 : jn.toInt < 300) (H0 : Heap) : rl_Ri l ⟨"RightsLimit$Requests", "countsForLimits", "(I)Z"⟩ (Cond.code ⟨"RightsLimit$Requests", "countsForLimits", "(I)Z"⟩ prog_4_method_11_code 3 (some .boolean) :: rl_G) { frames := 0, cells := 0, slots := 0, locals := 0 } D rl_cl (rl_tys kI kZ) rl_nw [.ref (a 4), .int jn] (rl_w a kI kZ F) H0 (fun (r : Int32) => (r = 1 ∧ True) ∨ (r = 0 ∧ True)) := by
  refine rl_metr (cc := prog_4_method_11_code) (maxL := 3) (ret := (some .boolean)) (by decide) rfl (Nat.le_of_ble_eq_true rfl) ?_
  intro p e s m below meth c ls hx hb hr hml hown hts hlocks hP hK hS hN hl
  have hown : s.vm.findClass "RightsLimit$Requests" = some m.cls := hown
  have hG : ∀ x ∈ rl_G, x.before _ s = true := fun x h => hts x (List.mem_cons_of_mem _ h)
  have hl : lv_has ls 3 [(0, .ref (a 4)), (1, .int jn)] := hl
  obtain ⟨hcnt, hR⟩ := id hI
  refine lv_aload_n hx hb d_q_countsForLimits_0 rfl (lv_at hl 0 rfl) ?_
  refine va_get (D := D) (ci := 4) (v := .ref (a 23)) (C := "RightsLimit$Requests") (T := fT_q) (N := 13) hx hb hG fi_q hown hK hP 4 rfl rfl 5 (by decide) (hG _ wd_127) (fun _ h9 => h9) rfl d_q_countsForLimits_1 ?_
  refine lv_iload_n hx hb d_q_countsForLimits_4 rfl (lv_at hl 1 rfl) ?_
  refine va_iald hx hb hK hP 23 0 rfl rfl (rl_in (n := 300) (by omega) (by omega)) d_q_countsForLimits_5 ?_
  refine lv_topi (fun v1 ev1 => ?_)
  refine lv_istore_n (lv' := [(2, .int v1), (0, .ref (a 4)), (1, .int jn)]) hx hb d_q_countsForLimits_6 rfl hl (by decide) rfl (fun ls hl => ?_)
  refine lv_iload_n hx hb d_q_countsForLimits_7 rfl (lv_at hl 0 rfl) ?_
  refine lv_iconst (v := 3) hx hb d_q_countsForLimits_8 (by decide) ?_
  refine lv_icmp_eq (tgt := 22) hx hb d_q_countsForLimits_9 (by decide) (fun c2 => ?_) (fun c2 => ?_)
  · have ic2 := rl_ieq c2
    simp only [rl_n3] at ic2
    refine lv_iconst (v := 1) hx hb d_q_countsForLimits_22 (by decide) ?_
    refine lv_goto (tgt := 27) hx hb d_q_countsForLimits_23 (by decide) ?_
    exact W.zret (v := 1) hx hb hr rfl (fun t ht hW => ⟨⟨1, (), rfl, Or.inl ⟨rfl, trivial⟩, ht⟩, hS.F ht⟩) hS.2.2 d_q_countsForLimits_27
  · have ic2 := rl_ine c2
    simp only [rl_n3] at ic2
    refine lv_iload_n hx hb d_q_countsForLimits_12 rfl (lv_at hl 0 rfl) ?_
    refine lv_iconst (v := 4) hx hb d_q_countsForLimits_13 (by decide) ?_
    refine lv_icmp_eq (tgt := 22) hx hb d_q_countsForLimits_14 (by decide) (fun c3 => ?_) (fun c3 => ?_)
    · have ic3 := rl_ieq c3
      simp only [rl_n4] at ic3
      refine lv_iconst (v := 1) hx hb d_q_countsForLimits_22 (by decide) ?_
      refine lv_goto (tgt := 27) hx hb d_q_countsForLimits_23 (by decide) ?_
      exact W.zret (v := 1) hx hb hr rfl (fun t ht hW => ⟨⟨1, (), rfl, Or.inl ⟨rfl, trivial⟩, ht⟩, hS.F ht⟩) hS.2.2 d_q_countsForLimits_27
    · have ic3 := rl_ine c3
      simp only [rl_n4] at ic3
      refine lv_iload_n hx hb d_q_countsForLimits_17 rfl (lv_at hl 0 rfl) ?_
      refine lv_iconst (v := 5) hx hb d_q_countsForLimits_18 (by decide) ?_
      refine lv_icmp_ne (tgt := 26) hx hb d_q_countsForLimits_19 (by decide) (fun c4 => ?_) (fun c4 => ?_)
      · have ic4 := rl_ine c4
        simp only [rl_n5] at ic4
        refine lv_iconst (v := 0) hx hb d_q_countsForLimits_26 (by decide) ?_
        exact W.zret (v := 0) hx hb hr rfl (fun t ht hW => ⟨⟨0, (), rfl, Or.inr ⟨rfl, trivial⟩, ht⟩, hS.F ht⟩) hS.2.2 d_q_countsForLimits_27
      · have ic4 := rl_ieq c4
        simp only [rl_n5] at ic4
        refine lv_iconst (v := 1) hx hb d_q_countsForLimits_22 (by decide) ?_
        refine lv_goto (tgt := 27) hx hb d_q_countsForLimits_23 (by decide) ?_
        exact W.zret (v := 1) hx hb hr rfl (fun t ht hW => ⟨⟨1, (), rfl, Or.inl ⟨rfl, trivial⟩, ht⟩, hS.F ht⟩) hS.2.2 d_q_countsForLimits_27
set_option maxHeartbeats 4000000 in
set_option maxRecDepth 100000 in
theorem k_q_countInSpan (l : Launch) (D : va_G) (a : Nat → Nat) (kI kZ : ClassId) (F : Nat → Nat → Int32) (jp1 jp2 jp3 jp4 : Int32) (hI : rl_I F) (H0 : Heap) : rl_Ri l ⟨"RightsLimit$Requests", "countInSpan", "(IIII)I"⟩ (Cond.code ⟨"RightsLimit$Requests", "countInSpan", "(IIII)I"⟩ prog_4_method_12_code 8 (some .int) :: rl_G) { frames := 1, cells := 0, slots := 0, locals := 22 } D rl_cl (rl_tys kI kZ) rl_nw [.ref (a 4), .int jp1, .int jp2, .int jp3, .int jp4] (rl_w a kI kZ F) H0 (fun (r : Int32) => True) := by
  refine rl_metr (cc := prog_4_method_12_code) (maxL := 8) (ret := (some .int)) (by decide) rfl (Nat.le_of_ble_eq_true rfl) ?_
  intro p e s m below meth c ls hx hb hr hml hown hts hlocks hP hK hS hN hl
  have hown : s.vm.findClass "RightsLimit$Requests" = some m.cls := hown
  have hG : ∀ x ∈ rl_G, x.before _ s = true := fun x h => hts x (List.mem_cons_of_mem _ h)
  have hl : lv_has ls 8 [(0, .ref (a 4)), (1, .int jp1), (2, .int jp2), (3, .int jp3), (4, .int jp4)] := hl
  obtain ⟨hcnt, hR⟩ := id hI
  refine lv_iload hx hb d_q_countInSpan_0 (lv_at hl 4 rfl) ?_
  refine lv_iload_n hx hb d_q_countInSpan_2 rfl (lv_at hl 3 rfl) ?_
  refine lv_ldc (v := 86400) hx hb hown (hG _ wd_289) d_q_countInSpan_3 ?_
  refine lv_imul hx hb d_q_countInSpan_5 ?_
  refine lv_topi (fun v1 ev1 => ?_)
  refine lv_isub hx hb d_q_countInSpan_6 ?_
  refine lv_topi (fun v2 ev2 => ?_)
  refine lv_istore (lv' := [(5, .int v2), (0, .ref (a 4)), (1, .int jp1), (2, .int jp2), (3, .int jp3), (4, .int jp4)]) hx hb d_q_countInSpan_7 hl (by decide) rfl (fun ls hl => ?_)
  refine lv_iconst (v := 0) hx hb d_q_countInSpan_9 (by decide) ?_
  refine lv_istore (lv' := [(6, .int 0), (5, .int v2), (0, .ref (a 4)), (1, .int jp1), (2, .int jp2), (3, .int jp3), (4, .int jp4)]) hx hb d_q_countInSpan_10 hl (by decide) rfl (fun ls hl => ?_)
  refine lv_iconst (v := 0) hx hb d_q_countInSpan_12 (by decide) ?_
  refine lv_istore (lv' := [(7, .int 0), (6, .int 0), (5, .int v2), (0, .ref (a 4)), (1, .int jp1), (2, .int jp2), (3, .int jp3), (4, .int jp4)]) hx hb d_q_countInSpan_13 hl (by decide) rfl (fun ls hl => ?_)
  have loop : ∀ (n : Nat) (fo i : Int32), 0 ≤ i.toInt → i.toInt ≤ (F 27 3).toInt → (F 27 3).toInt - i.toInt < n → ∀ (locs : List Loc) (ls : Array Slot), va_S (fun _ => False) s.heap s.heap locs → lv_has ls 8 [(0, .ref (a 4)), (1, .int jp1), (2, .int jp2), (3, .int jp3), (4, .int jp4), (5, .int v2), (6, .int fo), (7, .int i)] → W p l e ({ frames := 1, cells := 0, slots := 0, locals := 22 } : Room) s m ([.ref (a 4), .int jp1, .int jp2, .int jp3, .int jp4] : List Value).toArray below meth c s.heap locs 0 0 (MQ below (va_Qi (S := Unit) (fun (r : Int32) _ => True) (fun _ t => t.heap = s.heap) (fun _ => False)) ([.ref (a 4), .int jp1, .int jp2, .int jp3, .int jp4] : List Value).toArray s 0 0 (fun _ => False)) (F0 m 15 ls []) := by
    intro n
    induction n with
    | zero => intro fo i h1 h2 h3; exact absurd h3 (by omega)
    | succ n ih =>
      intro fo i h1 h2 h3 locs ls hS hl
      refine lv_iload hx hb d_q_countInSpan_15 (lv_at hl 7 rfl) ?_
      refine lv_aload_n hx hb d_q_countInSpan_17 rfl (lv_at hl 0 rfl) ?_
      refine va_get (D := D) (ci := 4) (v := .int (F 27 3)) (C := "RightsLimit$Requests") (T := fT_q) (N := 13) hx hb hG fi_q hown hK hP 4 rfl rfl 12 (by decide) (hG _ wd_140) (fun _ h9 => h9) rfl d_q_countInSpan_18 ?_
      refine lv_icmp_ge (tgt := 81) hx hb d_q_countInSpan_21 (by decide) (fun c3 => ?_) (fun c3 => ?_)
      · have ic3 := rl_ile c3
        refine lv_iload hx hb d_q_countInSpan_81 (lv_at hl 6 rfl) ?_
        exact W.iret (v := fo) hx hb hr (fun t ht hW => ⟨⟨fo, (), rfl, trivial, ht⟩, hS.F ht⟩) hS.2.2 d_q_countInSpan_83
      · have ic3 := rl_inle c3
        refine lv_aload_n hx hb d_q_countInSpan_24 rfl (lv_at hl 0 rfl) ?_
        refine va_get (D := D) (ci := 4) (v := .ref (a 19)) (C := "RightsLimit$Requests") (T := fT_q) (N := 13) hx hb hG fi_q hown hK hP 4 rfl rfl 1 (by decide) (hG _ wd_119) (fun _ h9 => h9) rfl d_q_countInSpan_25 ?_
        refine lv_iload hx hb d_q_countInSpan_28 (lv_at hl 7 rfl) ?_
        refine va_iald hx hb hK hP 19 0 rfl rfl (rl_in (n := 300) (by omega) (by omega)) d_q_countInSpan_30 ?_
        refine lv_topi (fun v4 ev4 => ?_)
        refine lv_iload_n hx hb d_q_countInSpan_31 rfl (lv_at hl 1 rfl) ?_
        refine lv_icmp_ne (tgt := 75) hx hb d_q_countInSpan_32 (by decide) (fun c5 => ?_) (fun c5 => ?_)
        · have ic5 := rl_ine c5
          obtain ⟨x6, ex6⟩ : ∃ y : Int32, y = i + 1 := ⟨_, rfl⟩
          refine lv_iinc (v := x6) (lv' := [(7, .int x6), (0, .ref (a 4)), (1, .int jp1), (2, .int jp2), (3, .int jp3), (4, .int jp4), (5, .int v2), (6, .int fo)]) hx hb d_q_countInSpan_75 hl (k := 7) rfl (by rw [ex6]; rfl) (by decide) rfl (fun ls hl => ?_)
          have ix6 : x6.toInt = i.toInt + 1 := by rw [ex6]; exact rl_inc (by omega)
          refine lv_goto (tgt := 15) hx hb d_q_countInSpan_78 (by decide) ?_
          exact ih fo x6 (by omega) (by omega) (by omega) _ _ hS (lv_sub hl [1, 2, 3, 4, 5, 6, 7, 0] rfl)
        · have ic5 := rl_ieq c5
          refine lv_aload_n hx hb d_q_countInSpan_35 rfl (lv_at hl 0 rfl) ?_
          refine va_get (D := D) (ci := 4) (v := .ref (a 20)) (C := "RightsLimit$Requests") (T := fT_q) (N := 13) hx hb hG fi_q hown hK hP 4 rfl rfl 2 (by decide) (hG _ wd_121) (fun _ h9 => h9) rfl d_q_countInSpan_36 ?_
          refine lv_iload hx hb d_q_countInSpan_39 (lv_at hl 7 rfl) ?_
          refine va_iald hx hb hK hP 20 0 rfl rfl (rl_in (n := 300) (by omega) (by omega)) d_q_countInSpan_41 ?_
          refine lv_topi (fun v7 ev7 => ?_)
          refine lv_iload_n hx hb d_q_countInSpan_42 rfl (lv_at hl 2 rfl) ?_
          refine lv_icmp_ne (tgt := 75) hx hb d_q_countInSpan_43 (by decide) (fun c8 => ?_) (fun c8 => ?_)
          · have ic8 := rl_ine c8
            obtain ⟨x9, ex9⟩ : ∃ y : Int32, y = i + 1 := ⟨_, rfl⟩
            refine lv_iinc (v := x9) (lv' := [(7, .int x9), (0, .ref (a 4)), (1, .int jp1), (2, .int jp2), (3, .int jp3), (4, .int jp4), (5, .int v2), (6, .int fo)]) hx hb d_q_countInSpan_75 hl (k := 7) rfl (by rw [ex9]; rfl) (by decide) rfl (fun ls hl => ?_)
            have ix9 : x9.toInt = i.toInt + 1 := by rw [ex9]; exact rl_inc (by omega)
            refine lv_goto (tgt := 15) hx hb d_q_countInSpan_78 (by decide) ?_
            exact ih fo x9 (by omega) (by omega) (by omega) _ _ hS (lv_sub hl [1, 2, 3, 4, 5, 6, 7, 0] rfl)
          · have ic8 := rl_ieq c8
            refine lv_aload_n hx hb d_q_countInSpan_46 rfl (lv_at hl 0 rfl) ?_
            refine lv_iload hx hb d_q_countInSpan_47 (lv_at hl 7 rfl) ?_
            have hpre := rl_BR.pre (av := .ref (a 4) :: [.int i]) rl_nw_ok hP hK hN
            refine rl_callr hS (va_runV (As := [.int i]) (rest := []) ⟨hx, hb, hml, hown, hG⟩ (k_q_countsForLimits l D a kI kZ F i ⟨by omega, hR⟩ (by omega) (by omega) _) (cwV 1 hG (rl_gV wd_290 wd_291 wd_292 wd_18 wd_293) rfl rfl rfl (by decide +kernel) ⟨Nat.le_of_ble_eq_true rfl, Nat.le_of_ble_eq_true rfl⟩) ⟨hpre.1, (va_recv hK hP (ci := 4) (q0 := 4) rfl rfl), hpre.2⟩ rfl rfl hl.1 rfl (lv_room (Nat.le_of_ble_eq_true rfl)) d_q_countInSpan_49 ⟨Nat.le_of_ble_eq_true rfl, Nat.le_of_ble_eq_true rfl⟩) (fun r10 locs hw hS => ?_)
            rcases hw with ⟨rfl, h11⟩ | ⟨rfl, h11⟩
            · refine lv_if_eq (tgt := 75) hx hb d_q_countInSpan_52 (by decide) (fun c9 => absurd c9 (by decide)) (fun _ => ?_)
              refine lv_aload_n hx hb d_q_countInSpan_55 rfl (lv_at hl 0 rfl) ?_
              refine va_get (D := D) (ci := 4) (v := .ref (a 22)) (C := "RightsLimit$Requests") (T := fT_q) (N := 13) hx hb hG fi_q hown hK hP 4 rfl rfl 4 (by decide) (hG _ wd_125) (fun _ h9 => h9) rfl d_q_countInSpan_56 ?_
              refine lv_iload hx hb d_q_countInSpan_59 (lv_at hl 7 rfl) ?_
              refine va_iald hx hb hK hP 22 0 rfl rfl (rl_in (n := 300) (by omega) (by omega)) d_q_countInSpan_61 ?_
              refine lv_topi (fun v12 ev12 => ?_)
              refine lv_iload hx hb d_q_countInSpan_62 (lv_at hl 5 rfl) ?_
              refine lv_iload hx hb d_q_countInSpan_64 (lv_at hl 4 rfl) ?_
              refine rl_callr hS (va_runSN (As := [.int v12, .int v2, .int jp4]) (rest := []) ⟨hx, hb, hml, hown, hG⟩ (k_x_isBetween l D a kI kZ v12 v2 jp4 _) ⟨va_cnB 3 hG (rl_gI wd_202) rfl rfl rfl (hN _ (List.mem_of_getElem? (i := 5) rfl)) (hG _ wd_14) (by decide +kernel) ⟨Nat.le_of_ble_eq_true rfl, Nat.le_of_ble_eq_true rfl⟩, (hG _ wd_201), trivial⟩ (rl_BR.pre rl_nw_ok rl_P0 hK hN) rfl rfl hl.1 rfl (lv_room (Nat.le_of_ble_eq_true rfl)) d_q_countInSpan_66 ⟨Nat.le_of_ble_eq_true rfl, Nat.le_of_ble_eq_true rfl⟩) (fun r13 locs hw hS => ?_)
              rcases hw with ⟨rfl, h14⟩ | ⟨rfl, h14⟩
              · refine lv_if_eq (tgt := 75) hx hb d_q_countInSpan_69 (by decide) (fun c9 => absurd c9 (by decide)) (fun _ => ?_)
                obtain ⟨x15, ex15⟩ : ∃ y : Int32, y = fo + 1 := ⟨_, rfl⟩
                refine lv_iinc (v := x15) (lv' := [(6, .int x15), (0, .ref (a 4)), (1, .int jp1), (2, .int jp2), (3, .int jp3), (4, .int jp4), (5, .int v2), (7, .int i)]) hx hb d_q_countInSpan_72 hl (k := 6) rfl (by rw [ex15]; rfl) (by decide) rfl (fun ls hl => ?_)
                obtain ⟨x16, ex16⟩ : ∃ y : Int32, y = i + 1 := ⟨_, rfl⟩
                refine lv_iinc (v := x16) (lv' := [(7, .int x16), (6, .int x15), (0, .ref (a 4)), (1, .int jp1), (2, .int jp2), (3, .int jp3), (4, .int jp4), (5, .int v2)]) hx hb d_q_countInSpan_75 hl (k := 7) rfl (by rw [ex16]; rfl) (by decide) rfl (fun ls hl => ?_)
                have ix16 : x16.toInt = i.toInt + 1 := by rw [ex16]; exact rl_inc (by omega)
                refine lv_goto (tgt := 15) hx hb d_q_countInSpan_78 (by decide) ?_
                exact ih x15 x16 (by omega) (by omega) (by omega) _ _ hS (lv_sub hl [2, 3, 4, 5, 6, 7, 1, 0] rfl)
              · refine lv_if_eq (tgt := 75) hx hb d_q_countInSpan_69 (by decide) (fun _ => ?_) (fun c9 => absurd c9 (by decide))
                obtain ⟨x17, ex17⟩ : ∃ y : Int32, y = i + 1 := ⟨_, rfl⟩
                refine lv_iinc (v := x17) (lv' := [(7, .int x17), (0, .ref (a 4)), (1, .int jp1), (2, .int jp2), (3, .int jp3), (4, .int jp4), (5, .int v2), (6, .int fo)]) hx hb d_q_countInSpan_75 hl (k := 7) rfl (by rw [ex17]; rfl) (by decide) rfl (fun ls hl => ?_)
                have ix17 : x17.toInt = i.toInt + 1 := by rw [ex17]; exact rl_inc (by omega)
                refine lv_goto (tgt := 15) hx hb d_q_countInSpan_78 (by decide) ?_
                exact ih fo x17 (by omega) (by omega) (by omega) _ _ hS (lv_sub hl [1, 2, 3, 4, 5, 6, 7, 0] rfl)
            · refine lv_if_eq (tgt := 75) hx hb d_q_countInSpan_52 (by decide) (fun _ => ?_) (fun c9 => absurd c9 (by decide))
              obtain ⟨x18, ex18⟩ : ∃ y : Int32, y = i + 1 := ⟨_, rfl⟩
              refine lv_iinc (v := x18) (lv' := [(7, .int x18), (0, .ref (a 4)), (1, .int jp1), (2, .int jp2), (3, .int jp3), (4, .int jp4), (5, .int v2), (6, .int fo)]) hx hb d_q_countInSpan_75 hl (k := 7) rfl (by rw [ex18]; rfl) (by decide) rfl (fun ls hl => ?_)
              have ix18 : x18.toInt = i.toInt + 1 := by rw [ex18]; exact rl_inc (by omega)
              refine lv_goto (tgt := 15) hx hb d_q_countInSpan_78 (by decide) ?_
              exact ih fo x18 (by omega) (by omega) (by omega) _ _ hS (lv_sub hl [1, 2, 3, 4, 5, 6, 7, 0] rfl)
  exact loop 400 0 0 (by decide) (by simp only [rl_n0]; omega) (by simp only [rl_n0]; omega) _ _ hS (lv_sub hl [3, 4, 5, 6, 7, 2, 1, 0] rfl)
set_option maxHeartbeats 4000000 in
set_option maxRecDepth 100000 in
theorem k_q_endedAt (l : Launch) (D : va_G) (a : Nat → Nat) (kI kZ : ClassId) (F : Nat → Nat → Int32) (jp1 jp2 : Int32) (hI : rl_I F) (H0 : Heap) : rl_Ri l ⟨"RightsLimit$Requests", "endedAt", "(II)I"⟩ (Cond.code ⟨"RightsLimit$Requests", "endedAt", "(II)I"⟩ prog_4_method_13_code 5 (some .int) :: rl_G) { frames := 2, cells := 0, slots := 0, locals := 42 } D rl_cl (rl_tys kI kZ) rl_nw [.ref (a 4), .int jp1, .int jp2] (rl_w a kI kZ F) H0 (fun (r : Int32) => r.toInt = -1 ∨ (0 ≤ r.toInt ∧ r.toInt < (F 27 3).toInt)) := by
  refine rl_metr (cc := prog_4_method_13_code) (maxL := 5) (ret := (some .int)) (by decide) rfl (Nat.le_of_ble_eq_true rfl) ?_
  intro p e s m below meth c ls hx hb hr hml hown hts hlocks hP hK hS hN hl
  have hown : s.vm.findClass "RightsLimit$Requests" = some m.cls := hown
  have hG : ∀ x ∈ rl_G, x.before _ s = true := fun x h => hts x (List.mem_cons_of_mem _ h)
  have hl : lv_has ls 5 [(0, .ref (a 4)), (1, .int jp1), (2, .int jp2)] := hl
  obtain ⟨hcnt, hR⟩ := id hI
  refine lv_iconst (v := 0) hx hb d_q_endedAt_0 (by decide) ?_
  refine lv_istore_n (lv' := [(3, .int 0), (0, .ref (a 4)), (1, .int jp1), (2, .int jp2)]) hx hb d_q_endedAt_1 rfl hl (by decide) rfl (fun ls hl => ?_)
  refine lv_iconst (v := 0) hx hb d_q_endedAt_2 (by decide) ?_
  refine lv_istore (lv' := [(4, .int 0), (3, .int 0), (0, .ref (a 4)), (1, .int jp1), (2, .int jp2)]) hx hb d_q_endedAt_3 hl (by decide) rfl (fun ls hl => ?_)
  have loop : ∀ (n : Nat) (fo i : Int32), 0 ≤ i.toInt → i.toInt ≤ (F 27 3).toInt → (F 27 3).toInt - i.toInt < n → ∀ (locs : List Loc) (ls : Array Slot), va_S (fun _ => False) s.heap s.heap locs → lv_has ls 5 [(0, .ref (a 4)), (1, .int jp1), (2, .int jp2), (3, .int fo), (4, .int i)] → W p l e ({ frames := 2, cells := 0, slots := 0, locals := 42 } : Room) s m ([.ref (a 4), .int jp1, .int jp2] : List Value).toArray below meth c s.heap locs 0 0 (MQ below (va_Qi (S := Unit) (fun (r : Int32) _ => r.toInt = -1 ∨ (0 ≤ r.toInt ∧ r.toInt < (F 27 3).toInt)) (fun _ t => t.heap = s.heap) (fun _ => False)) ([.ref (a 4), .int jp1, .int jp2] : List Value).toArray s 0 0 (fun _ => False)) (F0 m 5 ls []) := by
    intro n
    induction n with
    | zero => intro fo i h1 h2 h3; exact absurd h3 (by omega)
    | succ n ih =>
      intro fo i h1 h2 h3 locs ls hS hl
      refine lv_iload hx hb d_q_endedAt_5 (lv_at hl 4 rfl) ?_
      refine lv_aload_n hx hb d_q_endedAt_7 rfl (lv_at hl 0 rfl) ?_
      refine va_get (D := D) (ci := 4) (v := .int (F 27 3)) (C := "RightsLimit$Requests") (T := fT_q) (N := 13) hx hb hG fi_q hown hK hP 4 rfl rfl 12 (by decide) (hG _ wd_140) (fun _ h9 => h9) rfl d_q_endedAt_8 ?_
      refine lv_icmp_ge (tgt := 50) hx hb d_q_endedAt_11 (by decide) (fun c1 => ?_) (fun c1 => ?_)
      · have ic1 := rl_ile c1
        refine lv_iconst (v := (-1)) hx hb d_q_endedAt_50 (by decide) ?_
        exact W.iret (v := (-1)) hx hb hr (fun t ht hW => ⟨⟨(-1), (), rfl, (show ((-1) : Int32).toInt = -1 ∨ (0 ≤ ((-1) : Int32).toInt ∧ ((-1) : Int32).toInt < (F 27 3).toInt) by have q9 := rl_nm1; omega), ht⟩, hS.F ht⟩) hS.2.2 d_q_endedAt_51
      · have ic1 := rl_inle c1
        refine lv_aload_n hx hb d_q_endedAt_14 rfl (lv_at hl 0 rfl) ?_
        refine lv_iload hx hb d_q_endedAt_15 (lv_at hl 4 rfl) ?_
        have hpre := rl_BR.pre (av := .ref (a 4) :: [.int i]) rl_nw_ok hP hK hN
        refine rl_callr hS (va_runV (As := [.int i]) (rest := []) ⟨hx, hb, hml, hown, hG⟩ (k_q_isKept l D a kI kZ F i ⟨by omega, hR⟩ (by omega) (by omega) _) (cwV 1 hG (rl_gV wd_339 wd_340 wd_341 wd_18 wd_342) rfl rfl rfl (by decide +kernel) ⟨Nat.le_of_ble_eq_true rfl, Nat.le_of_ble_eq_true rfl⟩) ⟨hpre.1, (va_recv hK hP (ci := 4) (q0 := 4) rfl rfl), hpre.2⟩ rfl rfl hl.1 rfl (lv_room (Nat.le_of_ble_eq_true rfl)) d_q_endedAt_17 ⟨Nat.le_of_ble_eq_true rfl, Nat.le_of_ble_eq_true rfl⟩) (fun r2 locs hw hS => ?_)
        rcases hw with ⟨rfl, h3⟩ | ⟨rfl, h3⟩
        · refine lv_if_eq (tgt := 44) hx hb d_q_endedAt_20 (by decide) (fun c9 => absurd c9 (by decide)) (fun _ => ?_)
          refine lv_aload_n hx hb d_q_endedAt_23 rfl (lv_at hl 0 rfl) ?_
          refine lv_iload hx hb d_q_endedAt_24 (lv_at hl 4 rfl) ?_
          refine lv_iload_n hx hb d_q_endedAt_26 rfl (lv_at hl 1 rfl) ?_
          have hpre := rl_BR.pre (av := .ref (a 4) :: [.int i, .int jp1]) rl_nw_ok hP hK hN
          refine rl_callr hS (va_runV (As := [.int i, .int jp1]) (rest := []) ⟨hx, hb, hml, hown, hG⟩ (k_q_hasEnded l D a kI kZ F i jp1 ⟨by omega, hR⟩ (by omega) (by omega) _) (cwV 2 hG (rl_gV wd_344 wd_345 wd_346 wd_18 wd_347) rfl rfl rfl (by decide +kernel) ⟨Nat.le_of_ble_eq_true rfl, Nat.le_of_ble_eq_true rfl⟩) ⟨hpre.1, (va_recv hK hP (ci := 4) (q0 := 4) rfl rfl), hpre.2⟩ rfl rfl hl.1 rfl (lv_room (Nat.le_of_ble_eq_true rfl)) d_q_endedAt_27 ⟨Nat.le_of_ble_eq_true rfl, Nat.le_of_ble_eq_true rfl⟩) (fun r4 locs hw hS => ?_)
          rcases hw with ⟨rfl, h5⟩ | ⟨rfl, h5⟩
          · refine lv_if_eq (tgt := 44) hx hb d_q_endedAt_30 (by decide) (fun c9 => absurd c9 (by decide)) (fun _ => ?_)
            refine lv_iload_n hx hb d_q_endedAt_33 rfl (lv_at hl 3 rfl) ?_
            refine lv_iload_n hx hb d_q_endedAt_34 rfl (lv_at hl 2 rfl) ?_
            refine lv_icmp_ne (tgt := 41) hx hb d_q_endedAt_35 (by decide) (fun c6 => ?_) (fun c6 => ?_)
            · have ic6 := rl_ine c6
              obtain ⟨x7, ex7⟩ : ∃ y : Int32, y = fo + 1 := ⟨_, rfl⟩
              refine lv_iinc (v := x7) (lv' := [(3, .int x7), (0, .ref (a 4)), (1, .int jp1), (2, .int jp2), (4, .int i)]) hx hb d_q_endedAt_41 hl (k := 3) rfl (by rw [ex7]; rfl) (by decide) rfl (fun ls hl => ?_)
              obtain ⟨x8, ex8⟩ : ∃ y : Int32, y = i + 1 := ⟨_, rfl⟩
              refine lv_iinc (v := x8) (lv' := [(4, .int x8), (3, .int x7), (0, .ref (a 4)), (1, .int jp1), (2, .int jp2)]) hx hb d_q_endedAt_44 hl (k := 4) rfl (by rw [ex8]; rfl) (by decide) rfl (fun ls hl => ?_)
              have ix8 : x8.toInt = i.toInt + 1 := by rw [ex8]; exact rl_inc (by omega)
              refine lv_goto (tgt := 5) hx hb d_q_endedAt_47 (by decide) ?_
              exact ih x7 x8 (by omega) (by omega) (by omega) _ _ hS (lv_sub hl [2, 3, 4, 1, 0] rfl)
            · have ic6 := rl_ieq c6
              refine lv_iload hx hb d_q_endedAt_38 (lv_at hl 4 rfl) ?_
              exact W.iret (v := i) hx hb hr (fun t ht hW => ⟨⟨i, (), rfl, (show i.toInt = -1 ∨ (0 ≤ i.toInt ∧ i.toInt < (F 27 3).toInt) by omega), ht⟩, hS.F ht⟩) hS.2.2 d_q_endedAt_40
          · refine lv_if_eq (tgt := 44) hx hb d_q_endedAt_30 (by decide) (fun _ => ?_) (fun c9 => absurd c9 (by decide))
            obtain ⟨x9, ex9⟩ : ∃ y : Int32, y = i + 1 := ⟨_, rfl⟩
            refine lv_iinc (v := x9) (lv' := [(4, .int x9), (0, .ref (a 4)), (1, .int jp1), (2, .int jp2), (3, .int fo)]) hx hb d_q_endedAt_44 hl (k := 4) rfl (by rw [ex9]; rfl) (by decide) rfl (fun ls hl => ?_)
            have ix9 : x9.toInt = i.toInt + 1 := by rw [ex9]; exact rl_inc (by omega)
            refine lv_goto (tgt := 5) hx hb d_q_endedAt_47 (by decide) ?_
            exact ih fo x9 (by omega) (by omega) (by omega) _ _ hS (lv_sub hl [1, 2, 3, 4, 0] rfl)
        · refine lv_if_eq (tgt := 44) hx hb d_q_endedAt_20 (by decide) (fun _ => ?_) (fun c9 => absurd c9 (by decide))
          obtain ⟨x10, ex10⟩ : ∃ y : Int32, y = i + 1 := ⟨_, rfl⟩
          refine lv_iinc (v := x10) (lv' := [(4, .int x10), (0, .ref (a 4)), (1, .int jp1), (2, .int jp2), (3, .int fo)]) hx hb d_q_endedAt_44 hl (k := 4) rfl (by rw [ex10]; rfl) (by decide) rfl (fun ls hl => ?_)
          have ix10 : x10.toInt = i.toInt + 1 := by rw [ex10]; exact rl_inc (by omega)
          refine lv_goto (tgt := 5) hx hb d_q_endedAt_47 (by decide) ?_
          exact ih fo x10 (by omega) (by omega) (by omega) _ _ hS (lv_sub hl [1, 2, 3, 4, 0] rfl)
  exact loop 400 0 0 (by decide) (by simp only [rl_n0]; omega) (by simp only [rl_n0]; omega) _ _ hS (lv_sub hl [2, 3, 4, 1, 0] rfl)
set_option maxHeartbeats 4000000 in
set_option maxRecDepth 100000 in
theorem k_q_countOf (l : Launch) (D : va_G) (a : Nat → Nat) (kI kZ : ClassId) (F : Nat → Nat → Int32) (jp1 : Int32) (hI : rl_I F) (H0 : Heap) : rl_Ri l ⟨"RightsLimit$Requests", "countOf", "(I)I"⟩ (Cond.code ⟨"RightsLimit$Requests", "countOf", "(I)I"⟩ prog_4_method_14_code 4 (some .int) :: rl_G) { frames := 0, cells := 0, slots := 0, locals := 0 } D rl_cl (rl_tys kI kZ) rl_nw [.ref (a 4), .int jp1] (rl_w a kI kZ F) H0 (fun (r : Int32) => True) := by
  refine rl_metr (cc := prog_4_method_14_code) (maxL := 4) (ret := (some .int)) (by decide) rfl (Nat.le_of_ble_eq_true rfl) ?_
  intro p e s m below meth c ls hx hb hr hml hown hts hlocks hP hK hS hN hl
  have hown : s.vm.findClass "RightsLimit$Requests" = some m.cls := hown
  have hG : ∀ x ∈ rl_G, x.before _ s = true := fun x h => hts x (List.mem_cons_of_mem _ h)
  have hl : lv_has ls 4 [(0, .ref (a 4)), (1, .int jp1)] := hl
  obtain ⟨hcnt, hR⟩ := id hI
  refine lv_iconst (v := 0) hx hb d_q_countOf_0 (by decide) ?_
  refine lv_istore_n (lv' := [(2, .int 0), (0, .ref (a 4)), (1, .int jp1)]) hx hb d_q_countOf_1 rfl hl (by decide) rfl (fun ls hl => ?_)
  refine lv_iconst (v := 0) hx hb d_q_countOf_2 (by decide) ?_
  refine lv_istore_n (lv' := [(3, .int 0), (2, .int 0), (0, .ref (a 4)), (1, .int jp1)]) hx hb d_q_countOf_3 rfl hl (by decide) rfl (fun ls hl => ?_)
  have loop : ∀ (n : Nat) (fo i : Int32), 0 ≤ i.toInt → i.toInt ≤ (F 27 3).toInt → (F 27 3).toInt - i.toInt < n → ∀ (locs : List Loc) (ls : Array Slot), va_S (fun _ => False) s.heap s.heap locs → lv_has ls 4 [(0, .ref (a 4)), (1, .int jp1), (2, .int fo), (3, .int i)] → W p l e ({ frames := 0, cells := 0, slots := 0, locals := 0 } : Room) s m ([.ref (a 4), .int jp1] : List Value).toArray below meth c s.heap locs 0 0 (MQ below (va_Qi (S := Unit) (fun (r : Int32) _ => True) (fun _ t => t.heap = s.heap) (fun _ => False)) ([.ref (a 4), .int jp1] : List Value).toArray s 0 0 (fun _ => False)) (F0 m 4 ls []) := by
    intro n
    induction n with
    | zero => intro fo i h1 h2 h3; exact absurd h3 (by omega)
    | succ n ih =>
      intro fo i h1 h2 h3 locs ls hS hl
      refine lv_iload_n hx hb d_q_countOf_4 rfl (lv_at hl 3 rfl) ?_
      refine lv_aload_n hx hb d_q_countOf_5 rfl (lv_at hl 0 rfl) ?_
      refine va_get (D := D) (ci := 4) (v := .int (F 27 3)) (C := "RightsLimit$Requests") (T := fT_q) (N := 13) hx hb hG fi_q hown hK hP 4 rfl rfl 12 (by decide) (hG _ wd_140) (fun _ h9 => h9) rfl d_q_countOf_6 ?_
      refine lv_icmp_ge (tgt := 31) hx hb d_q_countOf_9 (by decide) (fun c1 => ?_) (fun c1 => ?_)
      · have ic1 := rl_ile c1
        refine lv_iload_n hx hb d_q_countOf_31 rfl (lv_at hl 2 rfl) ?_
        exact W.iret (v := fo) hx hb hr (fun t ht hW => ⟨⟨fo, (), rfl, trivial, ht⟩, hS.F ht⟩) hS.2.2 d_q_countOf_32
      · have ic1 := rl_inle c1
        refine lv_aload_n hx hb d_q_countOf_12 rfl (lv_at hl 0 rfl) ?_
        refine va_get (D := D) (ci := 4) (v := .ref (a 18)) (C := "RightsLimit$Requests") (T := fT_q) (N := 13) hx hb hG fi_q hown hK hP 4 rfl rfl 0 (by decide) (hG _ wd_117) (fun _ h9 => h9) rfl d_q_countOf_13 ?_
        refine lv_iload_n hx hb d_q_countOf_16 rfl (lv_at hl 3 rfl) ?_
        refine va_iald hx hb hK hP 18 0 rfl rfl (rl_in (n := 300) (by omega) (by omega)) d_q_countOf_17 ?_
        refine lv_topi (fun v2 ev2 => ?_)
        refine lv_iload_n hx hb d_q_countOf_18 rfl (lv_at hl 1 rfl) ?_
        refine lv_icmp_ne (tgt := 25) hx hb d_q_countOf_19 (by decide) (fun c3 => ?_) (fun c3 => ?_)
        · have ic3 := rl_ine c3
          obtain ⟨x4, ex4⟩ : ∃ y : Int32, y = i + 1 := ⟨_, rfl⟩
          refine lv_iinc (v := x4) (lv' := [(3, .int x4), (0, .ref (a 4)), (1, .int jp1), (2, .int fo)]) hx hb d_q_countOf_25 hl (k := 3) rfl (by rw [ex4]; rfl) (by decide) rfl (fun ls hl => ?_)
          have ix4 : x4.toInt = i.toInt + 1 := by rw [ex4]; exact rl_inc (by omega)
          refine lv_goto (tgt := 4) hx hb d_q_countOf_28 (by decide) ?_
          exact ih fo x4 (by omega) (by omega) (by omega) _ _ hS (lv_sub hl [1, 2, 3, 0] rfl)
        · have ic3 := rl_ieq c3
          obtain ⟨x5, ex5⟩ : ∃ y : Int32, y = fo + 1 := ⟨_, rfl⟩
          refine lv_iinc (v := x5) (lv' := [(2, .int x5), (0, .ref (a 4)), (1, .int jp1), (3, .int i)]) hx hb d_q_countOf_22 hl (k := 2) rfl (by rw [ex5]; rfl) (by decide) rfl (fun ls hl => ?_)
          obtain ⟨x6, ex6⟩ : ∃ y : Int32, y = i + 1 := ⟨_, rfl⟩
          refine lv_iinc (v := x6) (lv' := [(3, .int x6), (2, .int x5), (0, .ref (a 4)), (1, .int jp1)]) hx hb d_q_countOf_25 hl (k := 3) rfl (by rw [ex6]; rfl) (by decide) rfl (fun ls hl => ?_)
          have ix6 : x6.toInt = i.toInt + 1 := by rw [ex6]; exact rl_inc (by omega)
          refine lv_goto (tgt := 4) hx hb d_q_countOf_28 (by decide) ?_
          exact ih x5 x6 (by omega) (by omega) (by omega) _ _ hS (lv_sub hl [2, 3, 1, 0] rfl)
  exact loop 400 0 0 (by decide) (by simp only [rl_n0]; omega) (by simp only [rl_n0]; omega) _ _ hS (lv_sub hl [2, 3, 1, 0] rfl)
set_option maxHeartbeats 4000000 in
set_option maxRecDepth 100000 in
theorem k_q_countRefusedOf (l : Launch) (D : va_G) (a : Nat → Nat) (kI kZ : ClassId) (F : Nat → Nat → Int32) (jp1 : Int32) (hI : rl_I F) (H0 : Heap) : rl_Ri l ⟨"RightsLimit$Requests", "countRefusedOf", "(I)I"⟩ (Cond.code ⟨"RightsLimit$Requests", "countRefusedOf", "(I)I"⟩ prog_4_method_15_code 4 (some .int) :: rl_G) { frames := 1, cells := 0, slots := 0, locals := 21 } D rl_cl (rl_tys kI kZ) rl_nw [.ref (a 4), .int jp1] (rl_w a kI kZ F) H0 (fun (r : Int32) => True) := by
  refine rl_metr (cc := prog_4_method_15_code) (maxL := 4) (ret := (some .int)) (by decide) rfl (Nat.le_of_ble_eq_true rfl) ?_
  intro p e s m below meth c ls hx hb hr hml hown hts hlocks hP hK hS hN hl
  have hown : s.vm.findClass "RightsLimit$Requests" = some m.cls := hown
  have hG : ∀ x ∈ rl_G, x.before _ s = true := fun x h => hts x (List.mem_cons_of_mem _ h)
  have hl : lv_has ls 4 [(0, .ref (a 4)), (1, .int jp1)] := hl
  obtain ⟨hcnt, hR⟩ := id hI
  refine lv_iconst (v := 0) hx hb d_q_countRefusedOf_0 (by decide) ?_
  refine lv_istore_n (lv' := [(2, .int 0), (0, .ref (a 4)), (1, .int jp1)]) hx hb d_q_countRefusedOf_1 rfl hl (by decide) rfl (fun ls hl => ?_)
  refine lv_iconst (v := 0) hx hb d_q_countRefusedOf_2 (by decide) ?_
  refine lv_istore_n (lv' := [(3, .int 0), (2, .int 0), (0, .ref (a 4)), (1, .int jp1)]) hx hb d_q_countRefusedOf_3 rfl hl (by decide) rfl (fun ls hl => ?_)
  have loop : ∀ (n : Nat) (fo i : Int32), 0 ≤ i.toInt → i.toInt ≤ (F 27 3).toInt → (F 27 3).toInt - i.toInt < n → ∀ (locs : List Loc) (ls : Array Slot), va_S (fun _ => False) s.heap s.heap locs → lv_has ls 4 [(0, .ref (a 4)), (1, .int jp1), (2, .int fo), (3, .int i)] → W p l e ({ frames := 1, cells := 0, slots := 0, locals := 21 } : Room) s m ([.ref (a 4), .int jp1] : List Value).toArray below meth c s.heap locs 0 0 (MQ below (va_Qi (S := Unit) (fun (r : Int32) _ => True) (fun _ t => t.heap = s.heap) (fun _ => False)) ([.ref (a 4), .int jp1] : List Value).toArray s 0 0 (fun _ => False)) (F0 m 4 ls []) := by
    intro n
    induction n with
    | zero => intro fo i h1 h2 h3; exact absurd h3 (by omega)
    | succ n ih =>
      intro fo i h1 h2 h3 locs ls hS hl
      refine lv_iload_n hx hb d_q_countRefusedOf_4 rfl (lv_at hl 3 rfl) ?_
      refine lv_aload_n hx hb d_q_countRefusedOf_5 rfl (lv_at hl 0 rfl) ?_
      refine va_get (D := D) (ci := 4) (v := .int (F 27 3)) (C := "RightsLimit$Requests") (T := fT_q) (N := 13) hx hb hG fi_q hown hK hP 4 rfl rfl 12 (by decide) (hG _ wd_140) (fun _ h9 => h9) rfl d_q_countRefusedOf_6 ?_
      refine lv_icmp_ge (tgt := 39) hx hb d_q_countRefusedOf_9 (by decide) (fun c1 => ?_) (fun c1 => ?_)
      · have ic1 := rl_ile c1
        refine lv_iload_n hx hb d_q_countRefusedOf_39 rfl (lv_at hl 2 rfl) ?_
        exact W.iret (v := fo) hx hb hr (fun t ht hW => ⟨⟨fo, (), rfl, trivial, ht⟩, hS.F ht⟩) hS.2.2 d_q_countRefusedOf_40
      · have ic1 := rl_inle c1
        refine lv_aload_n hx hb d_q_countRefusedOf_12 rfl (lv_at hl 0 rfl) ?_
        refine va_get (D := D) (ci := 4) (v := .ref (a 18)) (C := "RightsLimit$Requests") (T := fT_q) (N := 13) hx hb hG fi_q hown hK hP 4 rfl rfl 0 (by decide) (hG _ wd_117) (fun _ h9 => h9) rfl d_q_countRefusedOf_13 ?_
        refine lv_iload_n hx hb d_q_countRefusedOf_16 rfl (lv_at hl 3 rfl) ?_
        refine va_iald hx hb hK hP 18 0 rfl rfl (rl_in (n := 300) (by omega) (by omega)) d_q_countRefusedOf_17 ?_
        refine lv_topi (fun v2 ev2 => ?_)
        refine lv_iload_n hx hb d_q_countRefusedOf_18 rfl (lv_at hl 1 rfl) ?_
        refine lv_icmp_ne (tgt := 33) hx hb d_q_countRefusedOf_19 (by decide) (fun c3 => ?_) (fun c3 => ?_)
        · have ic3 := rl_ine c3
          obtain ⟨x4, ex4⟩ : ∃ y : Int32, y = i + 1 := ⟨_, rfl⟩
          refine lv_iinc (v := x4) (lv' := [(3, .int x4), (0, .ref (a 4)), (1, .int jp1), (2, .int fo)]) hx hb d_q_countRefusedOf_33 hl (k := 3) rfl (by rw [ex4]; rfl) (by decide) rfl (fun ls hl => ?_)
          have ix4 : x4.toInt = i.toInt + 1 := by rw [ex4]; exact rl_inc (by omega)
          refine lv_goto (tgt := 4) hx hb d_q_countRefusedOf_36 (by decide) ?_
          exact ih fo x4 (by omega) (by omega) (by omega) _ _ hS (lv_sub hl [1, 2, 3, 0] rfl)
        · have ic3 := rl_ieq c3
          refine lv_aload_n hx hb d_q_countRefusedOf_22 rfl (lv_at hl 0 rfl) ?_
          refine lv_iload_n hx hb d_q_countRefusedOf_23 rfl (lv_at hl 3 rfl) ?_
          have hpre := rl_BR.pre (av := .ref (a 4) :: [.int i]) rl_nw_ok hP hK hN
          refine rl_callr hS (va_runV (As := [.int i]) (rest := []) ⟨hx, hb, hml, hown, hG⟩ (k_q_isCopy l D a kI kZ F i ⟨by omega, hR⟩ (by omega) (by omega) _) (cwV 1 hG (rl_gV wd_343 wd_304 wd_305 wd_18 wd_306) rfl rfl rfl (by decide +kernel) ⟨Nat.le_of_ble_eq_true rfl, Nat.le_of_ble_eq_true rfl⟩) ⟨hpre.1, (va_recv hK hP (ci := 4) (q0 := 4) rfl rfl), hpre.2⟩ rfl rfl hl.1 rfl (lv_room (Nat.le_of_ble_eq_true rfl)) d_q_countRefusedOf_24 ⟨Nat.le_of_ble_eq_true rfl, Nat.le_of_ble_eq_true rfl⟩) (fun r5 locs hw hS => ?_)
          rcases hw with ⟨rfl, h6⟩ | ⟨rfl, h6⟩
          · refine lv_if_ne (tgt := 33) hx hb d_q_countRefusedOf_27 (by decide) (fun _ => ?_) (fun c9 => absurd c9 (by decide))
            obtain ⟨x7, ex7⟩ : ∃ y : Int32, y = i + 1 := ⟨_, rfl⟩
            refine lv_iinc (v := x7) (lv' := [(3, .int x7), (0, .ref (a 4)), (1, .int jp1), (2, .int fo)]) hx hb d_q_countRefusedOf_33 hl (k := 3) rfl (by rw [ex7]; rfl) (by decide) rfl (fun ls hl => ?_)
            have ix7 : x7.toInt = i.toInt + 1 := by rw [ex7]; exact rl_inc (by omega)
            refine lv_goto (tgt := 4) hx hb d_q_countRefusedOf_36 (by decide) ?_
            exact ih fo x7 (by omega) (by omega) (by omega) _ _ hS (lv_sub hl [1, 2, 3, 0] rfl)
          · refine lv_if_ne (tgt := 33) hx hb d_q_countRefusedOf_27 (by decide) (fun c9 => absurd c9 (by decide)) (fun _ => ?_)
            obtain ⟨x8, ex8⟩ : ∃ y : Int32, y = fo + 1 := ⟨_, rfl⟩
            refine lv_iinc (v := x8) (lv' := [(2, .int x8), (0, .ref (a 4)), (1, .int jp1), (3, .int i)]) hx hb d_q_countRefusedOf_30 hl (k := 2) rfl (by rw [ex8]; rfl) (by decide) rfl (fun ls hl => ?_)
            obtain ⟨x9, ex9⟩ : ∃ y : Int32, y = i + 1 := ⟨_, rfl⟩
            refine lv_iinc (v := x9) (lv' := [(3, .int x9), (2, .int x8), (0, .ref (a 4)), (1, .int jp1)]) hx hb d_q_countRefusedOf_33 hl (k := 3) rfl (by rw [ex9]; rfl) (by decide) rfl (fun ls hl => ?_)
            have ix9 : x9.toInt = i.toInt + 1 := by rw [ex9]; exact rl_inc (by omega)
            refine lv_goto (tgt := 4) hx hb d_q_countRefusedOf_36 (by decide) ?_
            exact ih x8 x9 (by omega) (by omega) (by omega) _ _ hS (lv_sub hl [2, 3, 1, 0] rfl)
  exact loop 400 0 0 (by decide) (by simp only [rl_n0]; omega) (by simp only [rl_n0]; omega) _ _ hS (lv_sub hl [2, 3, 1, 0] rfl)
set_option maxHeartbeats 4000000 in
set_option maxRecDepth 100000 in
theorem k_q_pagesAllowedTo (l : Launch) (D : va_G) (a : Nat → Nat) (kI kZ : ClassId) (F : Nat → Nat → Int32) (jp1 : Int32) (hI : rl_I F) (H0 : Heap) : rl_Ri l ⟨"RightsLimit$Requests", "pagesAllowedTo", "(I)I"⟩ (Cond.code ⟨"RightsLimit$Requests", "pagesAllowedTo", "(I)I"⟩ prog_4_method_16_code 4 (some .int) :: rl_G) { frames := 1, cells := 0, slots := 0, locals := 21 } D rl_cl (rl_tys kI kZ) rl_nw [.ref (a 4), .int jp1] (rl_w a kI kZ F) H0 (fun (r : Int32) => True) := by
  refine rl_metr (cc := prog_4_method_16_code) (maxL := 4) (ret := (some .int)) (by decide) rfl (Nat.le_of_ble_eq_true rfl) ?_
  intro p e s m below meth c ls hx hb hr hml hown hts hlocks hP hK hS hN hl
  have hown : s.vm.findClass "RightsLimit$Requests" = some m.cls := hown
  have hG : ∀ x ∈ rl_G, x.before _ s = true := fun x h => hts x (List.mem_cons_of_mem _ h)
  have hl : lv_has ls 4 [(0, .ref (a 4)), (1, .int jp1)] := hl
  obtain ⟨hcnt, hR⟩ := id hI
  refine lv_iconst (v := 0) hx hb d_q_pagesAllowedTo_0 (by decide) ?_
  refine lv_istore_n (lv' := [(2, .int 0), (0, .ref (a 4)), (1, .int jp1)]) hx hb d_q_pagesAllowedTo_1 rfl hl (by decide) rfl (fun ls hl => ?_)
  refine lv_iconst (v := 0) hx hb d_q_pagesAllowedTo_2 (by decide) ?_
  refine lv_istore_n (lv' := [(3, .int 0), (2, .int 0), (0, .ref (a 4)), (1, .int jp1)]) hx hb d_q_pagesAllowedTo_3 rfl hl (by decide) rfl (fun ls hl => ?_)
  have loop : ∀ (n : Nat) (fo i : Int32), 0 ≤ i.toInt → i.toInt ≤ (F 27 3).toInt → (F 27 3).toInt - i.toInt < n → ∀ (locs : List Loc) (ls : Array Slot), va_S (fun _ => False) s.heap s.heap locs → lv_has ls 4 [(0, .ref (a 4)), (1, .int jp1), (2, .int fo), (3, .int i)] → W p l e ({ frames := 1, cells := 0, slots := 0, locals := 21 } : Room) s m ([.ref (a 4), .int jp1] : List Value).toArray below meth c s.heap locs 0 0 (MQ below (va_Qi (S := Unit) (fun (r : Int32) _ => True) (fun _ t => t.heap = s.heap) (fun _ => False)) ([.ref (a 4), .int jp1] : List Value).toArray s 0 0 (fun _ => False)) (F0 m 4 ls []) := by
    intro n
    induction n with
    | zero => intro fo i h1 h2 h3; exact absurd h3 (by omega)
    | succ n ih =>
      intro fo i h1 h2 h3 locs ls hS hl
      refine lv_iload_n hx hb d_q_pagesAllowedTo_4 rfl (lv_at hl 3 rfl) ?_
      refine lv_aload_n hx hb d_q_pagesAllowedTo_5 rfl (lv_at hl 0 rfl) ?_
      refine va_get (D := D) (ci := 4) (v := .int (F 27 3)) (C := "RightsLimit$Requests") (T := fT_q) (N := 13) hx hb hG fi_q hown hK hP 4 rfl rfl 12 (by decide) (hG _ wd_140) (fun _ h9 => h9) rfl d_q_pagesAllowedTo_6 ?_
      refine lv_icmp_ge (tgt := 45) hx hb d_q_pagesAllowedTo_9 (by decide) (fun c1 => ?_) (fun c1 => ?_)
      · have ic1 := rl_ile c1
        refine lv_iload_n hx hb d_q_pagesAllowedTo_45 rfl (lv_at hl 2 rfl) ?_
        exact W.iret (v := fo) hx hb hr (fun t ht hW => ⟨⟨fo, (), rfl, trivial, ht⟩, hS.F ht⟩) hS.2.2 d_q_pagesAllowedTo_46
      · have ic1 := rl_inle c1
        refine lv_aload_n hx hb d_q_pagesAllowedTo_12 rfl (lv_at hl 0 rfl) ?_
        refine va_get (D := D) (ci := 4) (v := .ref (a 18)) (C := "RightsLimit$Requests") (T := fT_q) (N := 13) hx hb hG fi_q hown hK hP 4 rfl rfl 0 (by decide) (hG _ wd_117) (fun _ h9 => h9) rfl d_q_pagesAllowedTo_13 ?_
        refine lv_iload_n hx hb d_q_pagesAllowedTo_16 rfl (lv_at hl 3 rfl) ?_
        refine va_iald hx hb hK hP 18 0 rfl rfl (rl_in (n := 300) (by omega) (by omega)) d_q_pagesAllowedTo_17 ?_
        refine lv_topi (fun v2 ev2 => ?_)
        refine lv_iload_n hx hb d_q_pagesAllowedTo_18 rfl (lv_at hl 1 rfl) ?_
        refine lv_icmp_ne (tgt := 39) hx hb d_q_pagesAllowedTo_19 (by decide) (fun c3 => ?_) (fun c3 => ?_)
        · have ic3 := rl_ine c3
          obtain ⟨x4, ex4⟩ : ∃ y : Int32, y = i + 1 := ⟨_, rfl⟩
          refine lv_iinc (v := x4) (lv' := [(3, .int x4), (0, .ref (a 4)), (1, .int jp1), (2, .int fo)]) hx hb d_q_pagesAllowedTo_39 hl (k := 3) rfl (by rw [ex4]; rfl) (by decide) rfl (fun ls hl => ?_)
          have ix4 : x4.toInt = i.toInt + 1 := by rw [ex4]; exact rl_inc (by omega)
          refine lv_goto (tgt := 4) hx hb d_q_pagesAllowedTo_42 (by decide) ?_
          exact ih fo x4 (by omega) (by omega) (by omega) _ _ hS (lv_sub hl [1, 2, 3, 0] rfl)
        · have ic3 := rl_ieq c3
          refine lv_aload_n hx hb d_q_pagesAllowedTo_22 rfl (lv_at hl 0 rfl) ?_
          refine lv_iload_n hx hb d_q_pagesAllowedTo_23 rfl (lv_at hl 3 rfl) ?_
          have hpre := rl_BR.pre (av := .ref (a 4) :: [.int i]) rl_nw_ok hP hK hN
          refine rl_callr hS (va_runV (As := [.int i]) (rest := []) ⟨hx, hb, hml, hown, hG⟩ (k_q_isCopy l D a kI kZ F i ⟨by omega, hR⟩ (by omega) (by omega) _) (cwV 1 hG (rl_gV wd_343 wd_304 wd_305 wd_18 wd_306) rfl rfl rfl (by decide +kernel) ⟨Nat.le_of_ble_eq_true rfl, Nat.le_of_ble_eq_true rfl⟩) ⟨hpre.1, (va_recv hK hP (ci := 4) (q0 := 4) rfl rfl), hpre.2⟩ rfl rfl hl.1 rfl (lv_room (Nat.le_of_ble_eq_true rfl)) d_q_pagesAllowedTo_24 ⟨Nat.le_of_ble_eq_true rfl, Nat.le_of_ble_eq_true rfl⟩) (fun r5 locs hw hS => ?_)
          rcases hw with ⟨rfl, h6⟩ | ⟨rfl, h6⟩
          · refine lv_if_eq (tgt := 39) hx hb d_q_pagesAllowedTo_27 (by decide) (fun c9 => absurd c9 (by decide)) (fun _ => ?_)
            refine lv_iload_n hx hb d_q_pagesAllowedTo_30 rfl (lv_at hl 2 rfl) ?_
            refine lv_aload_n hx hb d_q_pagesAllowedTo_31 rfl (lv_at hl 0 rfl) ?_
            refine va_get (D := D) (ci := 4) (v := .ref (a 21)) (C := "RightsLimit$Requests") (T := fT_q) (N := 13) hx hb hG fi_q hown hK hP 4 rfl rfl 3 (by decide) (hG _ wd_123) (fun _ h9 => h9) rfl d_q_pagesAllowedTo_32 ?_
            refine lv_iload_n hx hb d_q_pagesAllowedTo_35 rfl (lv_at hl 3 rfl) ?_
            refine va_iald hx hb hK hP 21 0 rfl rfl (rl_in (n := 300) (by omega) (by omega)) d_q_pagesAllowedTo_36 ?_
            refine lv_topi (fun v7 ev7 => ?_)
            refine lv_iadd hx hb d_q_pagesAllowedTo_37 ?_
            refine lv_topi (fun v8 ev8 => ?_)
            refine lv_istore_n (lv' := [(2, .int v8), (0, .ref (a 4)), (1, .int jp1), (3, .int i)]) hx hb d_q_pagesAllowedTo_38 rfl hl (by decide) rfl (fun ls hl => ?_)
            obtain ⟨x9, ex9⟩ : ∃ y : Int32, y = i + 1 := ⟨_, rfl⟩
            refine lv_iinc (v := x9) (lv' := [(3, .int x9), (2, .int v8), (0, .ref (a 4)), (1, .int jp1)]) hx hb d_q_pagesAllowedTo_39 hl (k := 3) rfl (by rw [ex9]; rfl) (by decide) rfl (fun ls hl => ?_)
            have ix9 : x9.toInt = i.toInt + 1 := by rw [ex9]; exact rl_inc (by omega)
            refine lv_goto (tgt := 4) hx hb d_q_pagesAllowedTo_42 (by decide) ?_
            exact ih v8 x9 (by omega) (by omega) (by omega) _ _ hS (lv_sub hl [2, 3, 1, 0] rfl)
          · refine lv_if_eq (tgt := 39) hx hb d_q_pagesAllowedTo_27 (by decide) (fun _ => ?_) (fun c9 => absurd c9 (by decide))
            obtain ⟨x10, ex10⟩ : ∃ y : Int32, y = i + 1 := ⟨_, rfl⟩
            refine lv_iinc (v := x10) (lv' := [(3, .int x10), (0, .ref (a 4)), (1, .int jp1), (2, .int fo)]) hx hb d_q_pagesAllowedTo_39 hl (k := 3) rfl (by rw [ex10]; rfl) (by decide) rfl (fun ls hl => ?_)
            have ix10 : x10.toInt = i.toInt + 1 := by rw [ex10]; exact rl_inc (by omega)
            refine lv_goto (tgt := 4) hx hb d_q_pagesAllowedTo_42 (by decide) ?_
            exact ih fo x10 (by omega) (by omega) (by omega) _ _ hS (lv_sub hl [1, 2, 3, 0] rfl)
  exact loop 400 0 0 (by decide) (by simp only [rl_n0]; omega) (by simp only [rl_n0]; omega) _ _ hS (lv_sub hl [2, 3, 1, 0] rfl)
set_option maxHeartbeats 4000000 in
set_option maxRecDepth 100000 in
theorem k_q_centsOf (l : Launch) (D : va_G) (a : Nat → Nat) (kI kZ : ClassId) (F : Nat → Nat → Int32) (jp1 : Int32) (hI : rl_I F) (H0 : Heap) : rl_Ri l ⟨"RightsLimit$Requests", "centsOf", "(I)I"⟩ (Cond.code ⟨"RightsLimit$Requests", "centsOf", "(I)I"⟩ prog_4_method_17_code 4 (some .int) :: rl_G) { frames := 0, cells := 0, slots := 0, locals := 0 } D rl_cl (rl_tys kI kZ) rl_nw [.ref (a 4), .int jp1] (rl_w a kI kZ F) H0 (fun (r : Int32) => True) := by
  refine rl_metr (cc := prog_4_method_17_code) (maxL := 4) (ret := (some .int)) (by decide) rfl (Nat.le_of_ble_eq_true rfl) ?_
  intro p e s m below meth c ls hx hb hr hml hown hts hlocks hP hK hS hN hl
  have hown : s.vm.findClass "RightsLimit$Requests" = some m.cls := hown
  have hG : ∀ x ∈ rl_G, x.before _ s = true := fun x h => hts x (List.mem_cons_of_mem _ h)
  have hl : lv_has ls 4 [(0, .ref (a 4)), (1, .int jp1)] := hl
  obtain ⟨hcnt, hR⟩ := id hI
  refine lv_iconst (v := 0) hx hb d_q_centsOf_0 (by decide) ?_
  refine lv_istore_n (lv' := [(2, .int 0), (0, .ref (a 4)), (1, .int jp1)]) hx hb d_q_centsOf_1 rfl hl (by decide) rfl (fun ls hl => ?_)
  refine lv_iconst (v := 0) hx hb d_q_centsOf_2 (by decide) ?_
  refine lv_istore_n (lv' := [(3, .int 0), (2, .int 0), (0, .ref (a 4)), (1, .int jp1)]) hx hb d_q_centsOf_3 rfl hl (by decide) rfl (fun ls hl => ?_)
  have loop : ∀ (n : Nat) (fo i : Int32), 0 ≤ i.toInt → i.toInt ≤ (F 27 3).toInt → (F 27 3).toInt - i.toInt < n → ∀ (locs : List Loc) (ls : Array Slot), va_S (fun _ => False) s.heap s.heap locs → lv_has ls 4 [(0, .ref (a 4)), (1, .int jp1), (2, .int fo), (3, .int i)] → W p l e ({ frames := 0, cells := 0, slots := 0, locals := 0 } : Room) s m ([.ref (a 4), .int jp1] : List Value).toArray below meth c s.heap locs 0 0 (MQ below (va_Qi (S := Unit) (fun (r : Int32) _ => True) (fun _ t => t.heap = s.heap) (fun _ => False)) ([.ref (a 4), .int jp1] : List Value).toArray s 0 0 (fun _ => False)) (F0 m 4 ls []) := by
    intro n
    induction n with
    | zero => intro fo i h1 h2 h3; exact absurd h3 (by omega)
    | succ n ih =>
      intro fo i h1 h2 h3 locs ls hS hl
      refine lv_iload_n hx hb d_q_centsOf_4 rfl (lv_at hl 3 rfl) ?_
      refine lv_aload_n hx hb d_q_centsOf_5 rfl (lv_at hl 0 rfl) ?_
      refine va_get (D := D) (ci := 4) (v := .int (F 27 3)) (C := "RightsLimit$Requests") (T := fT_q) (N := 13) hx hb hG fi_q hown hK hP 4 rfl rfl 12 (by decide) (hG _ wd_140) (fun _ h9 => h9) rfl d_q_centsOf_6 ?_
      refine lv_icmp_ge (tgt := 37) hx hb d_q_centsOf_9 (by decide) (fun c1 => ?_) (fun c1 => ?_)
      · have ic1 := rl_ile c1
        refine lv_iload_n hx hb d_q_centsOf_37 rfl (lv_at hl 2 rfl) ?_
        exact W.iret (v := fo) hx hb hr (fun t ht hW => ⟨⟨fo, (), rfl, trivial, ht⟩, hS.F ht⟩) hS.2.2 d_q_centsOf_38
      · have ic1 := rl_inle c1
        refine lv_aload_n hx hb d_q_centsOf_12 rfl (lv_at hl 0 rfl) ?_
        refine va_get (D := D) (ci := 4) (v := .ref (a 18)) (C := "RightsLimit$Requests") (T := fT_q) (N := 13) hx hb hG fi_q hown hK hP 4 rfl rfl 0 (by decide) (hG _ wd_117) (fun _ h9 => h9) rfl d_q_centsOf_13 ?_
        refine lv_iload_n hx hb d_q_centsOf_16 rfl (lv_at hl 3 rfl) ?_
        refine va_iald hx hb hK hP 18 0 rfl rfl (rl_in (n := 300) (by omega) (by omega)) d_q_centsOf_17 ?_
        refine lv_topi (fun v2 ev2 => ?_)
        refine lv_iload_n hx hb d_q_centsOf_18 rfl (lv_at hl 1 rfl) ?_
        refine lv_icmp_ne (tgt := 31) hx hb d_q_centsOf_19 (by decide) (fun c3 => ?_) (fun c3 => ?_)
        · have ic3 := rl_ine c3
          obtain ⟨x4, ex4⟩ : ∃ y : Int32, y = i + 1 := ⟨_, rfl⟩
          refine lv_iinc (v := x4) (lv' := [(3, .int x4), (0, .ref (a 4)), (1, .int jp1), (2, .int fo)]) hx hb d_q_centsOf_31 hl (k := 3) rfl (by rw [ex4]; rfl) (by decide) rfl (fun ls hl => ?_)
          have ix4 : x4.toInt = i.toInt + 1 := by rw [ex4]; exact rl_inc (by omega)
          refine lv_goto (tgt := 4) hx hb d_q_centsOf_34 (by decide) ?_
          exact ih fo x4 (by omega) (by omega) (by omega) _ _ hS (lv_sub hl [1, 2, 3, 0] rfl)
        · have ic3 := rl_ieq c3
          refine lv_iload_n hx hb d_q_centsOf_22 rfl (lv_at hl 2 rfl) ?_
          refine lv_aload_n hx hb d_q_centsOf_23 rfl (lv_at hl 0 rfl) ?_
          refine va_get (D := D) (ci := 4) (v := .ref (a 26)) (C := "RightsLimit$Requests") (T := fT_q) (N := 13) hx hb hG fi_q hown hK hP 4 rfl rfl 8 (by decide) (hG _ wd_132) (fun _ h9 => h9) rfl d_q_centsOf_24 ?_
          refine lv_iload_n hx hb d_q_centsOf_27 rfl (lv_at hl 3 rfl) ?_
          refine va_iald hx hb hK hP 26 0 rfl rfl (rl_in (n := 300) (by omega) (by omega)) d_q_centsOf_28 ?_
          refine lv_topi (fun v5 ev5 => ?_)
          refine lv_iadd hx hb d_q_centsOf_29 ?_
          refine lv_topi (fun v6 ev6 => ?_)
          refine lv_istore_n (lv' := [(2, .int v6), (0, .ref (a 4)), (1, .int jp1), (3, .int i)]) hx hb d_q_centsOf_30 rfl hl (by decide) rfl (fun ls hl => ?_)
          obtain ⟨x7, ex7⟩ : ∃ y : Int32, y = i + 1 := ⟨_, rfl⟩
          refine lv_iinc (v := x7) (lv' := [(3, .int x7), (2, .int v6), (0, .ref (a 4)), (1, .int jp1)]) hx hb d_q_centsOf_31 hl (k := 3) rfl (by rw [ex7]; rfl) (by decide) rfl (fun ls hl => ?_)
          have ix7 : x7.toInt = i.toInt + 1 := by rw [ex7]; exact rl_inc (by omega)
          refine lv_goto (tgt := 4) hx hb d_q_centsOf_34 (by decide) ?_
          exact ih v6 x7 (by omega) (by omega) (by omega) _ _ hS (lv_sub hl [2, 3, 1, 0] rfl)
  exact loop 400 0 0 (by decide) (by simp only [rl_n0]; omega) (by simp only [rl_n0]; omega) _ _ hS (lv_sub hl [2, 3, 1, 0] rfl)
end
section
set_option maxHeartbeats 4000000 in
set_option maxRecDepth 100000 in
theorem k_x_mayWaive (l : Launch) (D : va_G) (a : Nat → Nat) (kI kZ : ClassId) (F : Nat → Nat → Int32) (jt jn : Int32) (hI : rl_I F) (ht0 : 0 ≤ jt.toInt) (ht1 : jt.toInt < 50) (hn0 : 0 ≤ jn.toInt) (hn1 : jn.toInt < 100) (H0 : Heap) : rl_Ri l ⟨"RightsLimit", "mayWaive", "(II)Z"⟩ (Cond.code ⟨"RightsLimit", "mayWaive", "(II)Z"⟩ prog_1_method_22_code 4 (some .boolean) :: rl_G) { frames := 0, cells := 0, slots := 0, locals := 0 } D rl_cl (rl_tys kI kZ) rl_nw [.ref (a 0), .int jt, .int jn] (rl_w a kI kZ F) H0 (fun (r : Int32) => (r = 1 ∧ True) ∨ (r = 0 ∧ True)) := by
  refine rl_metr (cc := prog_1_method_22_code) (maxL := 4) (ret := (some .boolean)) (by decide) rfl (Nat.le_of_ble_eq_true rfl) ?_
  intro p e s m below meth c ls hx hb hr hml hown hts hlocks hP hK hS hN hl
  have hown : s.vm.findClass "RightsLimit" = some m.cls := hown
  have hG : ∀ x ∈ rl_G, x.before _ s = true := fun x h => hts x (List.mem_cons_of_mem _ h)
  have hl : lv_has ls 4 [(0, .ref (a 0)), (1, .int jt), (2, .int jn)] := hl
  obtain ⟨hcnt, hR⟩ := id hI
  refine lv_aload_n hx hb d_x_mayWaive_0 rfl (lv_at hl 0 rfl) ?_
  refine va_get (D := D) (ci := 0) (v := .ref (a 1)) (C := "RightsLimit") (T := fT_x) (N := 8) hx hb hG fi_x hown hK hP 0 rfl rfl 0 (by decide) (hG _ wd_168) (fun _ h9 => h9) rfl d_x_mayWaive_1 ?_
  refine va_get (D := D) (ci := 1) (v := .ref (a 7)) (C := "RightsLimit$Titles") (T := fT_t) (N := 5) hx hb hG fi_t hown hK hP 1 rfl rfl 2 (by decide) (hG _ wd_43) (fun _ h9 => h9) rfl d_x_mayWaive_4 ?_
  refine lv_iload_n hx hb d_x_mayWaive_7 rfl (lv_at hl 1 rfl) ?_
  refine va_iald hx hb hK hP 7 0 rfl rfl (rl_in (n := 50) (by omega) (by omega)) d_x_mayWaive_8 ?_
  refine lv_topi (fun v1 ev1 => ?_)
  refine lv_istore_n (lv' := [(3, .int v1), (0, .ref (a 0)), (1, .int jt), (2, .int jn)]) hx hb d_x_mayWaive_9 rfl hl (by decide) rfl (fun ls hl => ?_)
  refine lv_iload_n hx hb d_x_mayWaive_10 rfl (lv_at hl 0 rfl) ?_
  refine lv_if_eq (tgt := 31) hx hb d_x_mayWaive_11 (by decide) (fun c2 => ?_) (fun c2 => ?_)
  · have ic2 := rl_ieq c2
    simp only [rl_n0] at ic2
    refine lv_iconst (v := 0) hx hb d_x_mayWaive_31 (by decide) ?_
    exact W.zret (v := 0) hx hb hr rfl (fun t ht hW => ⟨⟨0, (), rfl, Or.inr ⟨rfl, trivial⟩, ht⟩, hS.F ht⟩) hS.2.2 d_x_mayWaive_32
  · have ic2 := rl_ine c2
    simp only [rl_n0] at ic2
    refine lv_aload_n hx hb d_x_mayWaive_14 rfl (lv_at hl 1 rfl) ?_
    refine va_get (D := D) (ci := 0) (v := .ref (a 31)) (C := "RightsLimit") (T := fT_x) (N := 8) hx hb hG fi_x hown hK hP 0 rfl rfl 5 (by decide) (hG _ wd_173) (fun _ h9 => h9) rfl d_x_mayWaive_15 ?_
    refine lv_iload_n hx hb d_x_mayWaive_18 rfl (lv_at hl 3 rfl) ?_
    refine va_iald hx hb hK hP 31 0 rfl rfl (rl_in (n := 100) (by omega) (by omega)) d_x_mayWaive_19 ?_
    refine lv_topi (fun v3 ev3 => ?_)
    refine lv_iconst (v := 1) hx hb d_x_mayWaive_20 (by decide) ?_
    refine lv_iload_n hx hb d_x_mayWaive_21 rfl (lv_at hl 0 rfl) ?_
    refine lv_ishl hx hb d_x_mayWaive_22 ?_
    refine lv_topi (fun v4 ev4 => ?_)
    refine lv_iand hx hb d_x_mayWaive_23 ?_
    refine lv_topi (fun v5 ev5 => ?_)
    refine lv_if_eq (tgt := 31) hx hb d_x_mayWaive_24 (by decide) (fun c6 => ?_) (fun c6 => ?_)
    · have ic6 := rl_ieq c6
      simp only [rl_n0] at ic6
      refine lv_iconst (v := 0) hx hb d_x_mayWaive_31 (by decide) ?_
      exact W.zret (v := 0) hx hb hr rfl (fun t ht hW => ⟨⟨0, (), rfl, Or.inr ⟨rfl, trivial⟩, ht⟩, hS.F ht⟩) hS.2.2 d_x_mayWaive_32
    · have ic6 := rl_ine c6
      simp only [rl_n0] at ic6
      refine lv_iconst (v := 1) hx hb d_x_mayWaive_27 (by decide) ?_
      refine lv_goto (tgt := 32) hx hb d_x_mayWaive_28 (by decide) ?_
      exact W.zret (v := 1) hx hb hr rfl (fun t ht hW => ⟨⟨1, (), rfl, Or.inl ⟨rfl, trivial⟩, ht⟩, hS.F ht⟩) hS.2.2 d_x_mayWaive_32
set_option maxHeartbeats 4000000 in
set_option maxRecDepth 100000 in
theorem k_x_goOnTo (l : Launch) (D : va_G) (a : Nat → Nat) (kI kZ : ClassId) (F : Nat → Nat → Int32) (jt : Int32) (hI : rl_I F) (sz : Nat) : rl_Ci (S := Nat → Nat → Int32) l ⟨"RightsLimit", "goOnTo", "(I)Z"⟩ (Cond.code ⟨"RightsLimit", "goOnTo", "(I)Z"⟩ prog_1_method_23_code 2 (some .boolean) :: rl_G) { frames := 1, cells := 0, slots := 0, locals := 22 } D rl_cl (rl_tys kI kZ) rl_nw [.ref (a 0), .int jt] (rl_w a kI kZ F) sz (fun (r : Int32) (F' : Nat → Nat → Int32) => rl_R F' ∧ ((r = 1 ∧ (F' 27 0).toInt = (F 27 0).toInt ∧ (F' 27 1).toInt = (F 27 1).toInt ∧ (F' 27 2).toInt = (F 27 2).toInt ∧ (F' 27 3).toInt = (F 27 3).toInt) ∨ (r = 0 ∧ (F' 27 0).toInt = (F 27 0).toInt ∧ (F' 27 1).toInt = (F 27 1).toInt ∧ (F' 27 2).toInt = (F 27 2).toInt ∧ (F' 27 3).toInt = (F 27 3).toInt))) (fun F' => rl_w a kI kZ F') 0 0 := by
  refine rl_meti (cc := prog_1_method_23_code) (maxL := 2) (ret := (some .boolean)) (by decide) rfl (Nat.le_of_ble_eq_true rfl) ?_
  intro p e s m below meth c A ls hx hb hr hml hown hts hlocks hnm hP hK hD hS hA hN hl
  have hown : s.vm.findClass "RightsLimit" = some m.cls := hown
  have hG : ∀ x ∈ rl_G, x.before _ s = true := fun x h => hts x (List.mem_cons_of_mem _ h)
  have hl : lv_has ls 2 [(0, .ref (a 0)), (1, .int jt)] := hl
  obtain ⟨hcnt, hR⟩ := id hI
  refine lv_iload_n hx hb d_x_goOnTo_0 rfl (lv_at hl 1 rfl) ?_
  refine lv_aload_n hx hb d_x_goOnTo_1 rfl (lv_at hl 0 rfl) ?_
  refine va_get (D := D) (ci := 0) (v := .int (F 27 4)) (C := "RightsLimit") (T := fT_x) (N := 8) hx hb hG fi_x hown hK hP 0 rfl rfl 6 (by decide) (hG _ wd_174) (fun _ h9 => h9) rfl d_x_goOnTo_2 ?_
  refine lv_ldc (v := 1000000000) hx hb hown (hG _ wd_239) d_x_goOnTo_5 ?_
  refine rl_callr hS (va_runS (As := [.int jt, .int (F 27 4), .int 1000000000]) (rest := []) ⟨hx, hb, hml, hown, hG⟩ (k_x_isBetween l D a kI kZ jt (F 27 4) 1000000000 _) (cwS 3 hG (rl_gS wd_200 wd_201 wd_14 wd_202) rfl rfl rfl (by decide +kernel) ⟨Nat.le_of_ble_eq_true rfl, Nat.le_of_ble_eq_true rfl⟩) (rl_BR.pre rl_nw_ok rl_P0 hK hN) rfl rfl hl.1 rfl (lv_room (Nat.le_of_ble_eq_true rfl)) d_x_goOnTo_7 ⟨Nat.le_of_ble_eq_true rfl, Nat.le_of_ble_eq_true rfl⟩) (fun r1 locs hw hS => ?_)
  try simp only [rl_n1000000000] at hw
  rcases hw with ⟨rfl, h2⟩ | ⟨rfl, h2⟩
  · refine lv_if_ne (tgt := 15) hx hb d_x_goOnTo_10 (by decide) (fun _ => ?_) (fun c9 => absurd c9 (by decide))
    refine lv_aload_n hx hb d_x_goOnTo_15 rfl (lv_at hl 0 rfl) ?_
    refine lv_iload_n hx hb d_x_goOnTo_16 rfl (lv_at hl 1 rfl) ?_
    refine va_put (D := D) (ci := 0) (v := .int jt) (ty := .int) (C := "RightsLimit") (T := fT_x) (N := 8) hx hb hG fi_x fy_x fo_x fn_x hown hK hP hD hS 0 rfl rfl 6 (by decide) (hG _ wd_174) (fun _ h9 => h9) rfl (by decide +kernel) rfl rfl (Nat.le_of_ble_eq_true rfl) d_x_goOnTo_17 (fun H locs hP hD hS => ?_)
    obtain ⟨F3, eF3⟩ : ∃ G, G = rl_st F 27 4 jt := ⟨_, rfl⟩
    have hP : va_P D rl_cl (rl_w a kI kZ F3) H := by rw [eF3]; exact hP
    have hD : va_D A (rl_w a kI kZ F3) := by rw [eF3]; exact hD
    obtain ⟨tF3, hRF3⟩ := rl_putS eF3 (by decide) (by decide) (by decide) (by decide) hR
    refine lv_iconst (v := 1) hx hb d_x_goOnTo_20 (by decide) ?_
    exact W.zret (v := 1) hx hb hr rfl (fun t ht hW => ⟨⟨1, F3, rfl, ⟨hRF3, Or.inl ⟨rfl, by omega⟩⟩, ⟨by rw [ht]; exact hP, hD⟩⟩, hS.F ht⟩) hS.2.2 d_x_goOnTo_21
  · refine lv_if_ne (tgt := 15) hx hb d_x_goOnTo_10 (by decide) (fun c9 => absurd c9 (by decide)) (fun _ => ?_)
    refine lv_iconst (v := 0) hx hb d_x_goOnTo_13 (by decide) ?_
    exact W.zret (v := 0) hx hb hr rfl (fun t ht hW => ⟨⟨0, F, rfl, ⟨hR, Or.inr ⟨rfl, by omega⟩⟩, ⟨by rw [ht]; exact hP, hD⟩⟩, hS.F ht⟩) hS.2.2 d_x_goOnTo_14
set_option maxHeartbeats 4000000 in
set_option maxRecDepth 100000 in
theorem k_x_firstLimitReached (l : Launch) (D : va_G) (a : Nat → Nat) (kI kZ : ClassId) (F : Nat → Nat → Int32) (jp1 jp2 jp3 : Int32) (hI : rl_I F) (H0 : Heap) : rl_Ri l ⟨"RightsLimit", "firstLimitReached", "(III)I"⟩ (Cond.code ⟨"RightsLimit", "firstLimitReached", "(III)I"⟩ prog_1_method_21_code 5 (some .int) :: rl_G) { frames := 2, cells := 0, slots := 0, locals := 49 } D rl_cl (rl_tys kI kZ) rl_nw [.ref (a 0), .int jp1, .int jp2, .int jp3] (rl_w a kI kZ F) H0 (fun (r : Int32) => True) := by
  refine rl_metr (cc := prog_1_method_21_code) (maxL := 5) (ret := (some .int)) (by decide) rfl (Nat.le_of_ble_eq_true rfl) ?_
  intro p e s m below meth c ls hx hb hr hml hown hts hlocks hP hK hS hN hl
  have hown : s.vm.findClass "RightsLimit" = some m.cls := hown
  have hG : ∀ x ∈ rl_G, x.before _ s = true := fun x h => hts x (List.mem_cons_of_mem _ h)
  have hl : lv_has ls 5 [(0, .ref (a 0)), (1, .int jp1), (2, .int jp2), (3, .int jp3)] := hl
  obtain ⟨hcnt, hR⟩ := id hI
  refine lv_iconst (v := 0) hx hb d_x_firstLimitReached_0 (by decide) ?_
  refine lv_istore (lv' := [(4, .int 0), (0, .ref (a 0)), (1, .int jp1), (2, .int jp2), (3, .int jp3)]) hx hb d_x_firstLimitReached_1 hl (by decide) rfl (fun ls hl => ?_)
  have loop : ∀ (n : Nat) (i : Int32), 0 ≤ i.toInt → i.toInt ≤ (F 27 1).toInt → (F 27 1).toInt - i.toInt < n → ∀ (locs : List Loc) (ls : Array Slot), va_S (fun _ => False) s.heap s.heap locs → lv_has ls 5 [(0, .ref (a 0)), (1, .int jp1), (2, .int jp2), (3, .int jp3), (4, .int i)] → W p l e ({ frames := 2, cells := 0, slots := 0, locals := 49 } : Room) s m ([.ref (a 0), .int jp1, .int jp2, .int jp3] : List Value).toArray below meth c s.heap locs 0 0 (MQ below (va_Qi (S := Unit) (fun (r : Int32) _ => True) (fun _ t => t.heap = s.heap) (fun _ => False)) ([.ref (a 0), .int jp1, .int jp2, .int jp3] : List Value).toArray s 0 0 (fun _ => False)) (F0 m 3 ls []) := by
    intro n
    induction n with
    | zero => intro i h1 h2 h3; exact absurd h3 (by omega)
    | succ n ih =>
      intro i h1 h2 h3 locs ls hS hl
      refine lv_iload hx hb d_x_firstLimitReached_3 (lv_at hl 4 rfl) ?_
      refine lv_aload_n hx hb d_x_firstLimitReached_5 rfl (lv_at hl 0 rfl) ?_
      refine va_get (D := D) (ci := 0) (v := .ref (a 2)) (C := "RightsLimit") (T := fT_x) (N := 8) hx hb hG fi_x hown hK hP 0 rfl rfl 1 (by decide) (hG _ wd_169) (fun _ h9 => h9) rfl d_x_firstLimitReached_6 ?_
      refine va_get (D := D) (ci := 2) (v := .int (F 27 1)) (C := "RightsLimit$Limits") (T := fT_l) (N := 5) hx hb hG fi_l hown hK hP 2 rfl rfl 4 (by decide) (hG _ wd_73) (fun _ h9 => h9) rfl d_x_firstLimitReached_9 ?_
      refine lv_icmp_ge (tgt := 71) hx hb d_x_firstLimitReached_12 (by decide) (fun c1 => ?_) (fun c1 => ?_)
      · have ic1 := rl_ile c1
        refine lv_iconst (v := (-1)) hx hb d_x_firstLimitReached_71 (by decide) ?_
        exact W.iret (v := (-1)) hx hb hr (fun t ht hW => ⟨⟨(-1), (), rfl, trivial, ht⟩, hS.F ht⟩) hS.2.2 d_x_firstLimitReached_72
      · have ic1 := rl_inle c1
        refine lv_aload_n hx hb d_x_firstLimitReached_15 rfl (lv_at hl 0 rfl) ?_
        refine va_get (D := D) (ci := 0) (v := .ref (a 2)) (C := "RightsLimit") (T := fT_x) (N := 8) hx hb hG fi_x hown hK hP 0 rfl rfl 1 (by decide) (hG _ wd_169) (fun _ h9 => h9) rfl d_x_firstLimitReached_16 ?_
        refine lv_iload hx hb d_x_firstLimitReached_19 (lv_at hl 4 rfl) ?_
        refine lv_iload_n hx hb d_x_firstLimitReached_21 rfl (lv_at hl 1 rfl) ?_
        refine lv_iload_n hx hb d_x_firstLimitReached_22 rfl (lv_at hl 2 rfl) ?_
        have hpre := rl_BR.pre (av := .ref (a 2) :: [.int i, .int jp1, .int jp2]) rl_nw_ok hP hK hN
        refine rl_callr hS (va_runV (As := [.int i, .int jp1, .int jp2]) (rest := []) ⟨hx, hb, hml, hown, hG⟩ (k_l_isOf l D a kI kZ F i jp1 jp2 ⟨by omega, hR⟩ (by omega) (by omega) _) (cwV 3 hG (rl_gV wd_281 wd_282 wd_283 wd_16 wd_284) rfl rfl rfl (by decide +kernel) ⟨Nat.le_of_ble_eq_true rfl, Nat.le_of_ble_eq_true rfl⟩) ⟨hpre.1, (va_recv hK hP (ci := 2) (q0 := 2) rfl rfl), hpre.2⟩ rfl rfl hl.1 rfl (lv_room (Nat.le_of_ble_eq_true rfl)) d_x_firstLimitReached_23 ⟨Nat.le_of_ble_eq_true rfl, Nat.le_of_ble_eq_true rfl⟩) (fun r2 locs hw hS => ?_)
        rcases hw with ⟨rfl, h3⟩ | ⟨rfl, h3⟩
        · refine lv_if_eq (tgt := 65) hx hb d_x_firstLimitReached_26 (by decide) (fun c9 => absurd c9 (by decide)) (fun _ => ?_)
          refine lv_aload_n hx hb d_x_firstLimitReached_29 rfl (lv_at hl 0 rfl) ?_
          refine va_get (D := D) (ci := 0) (v := .ref (a 4)) (C := "RightsLimit") (T := fT_x) (N := 8) hx hb hG fi_x hown hK hP 0 rfl rfl 3 (by decide) (hG _ wd_171) (fun _ h9 => h9) rfl d_x_firstLimitReached_30 ?_
          refine lv_iload_n hx hb d_x_firstLimitReached_33 rfl (lv_at hl 1 rfl) ?_
          refine lv_iload_n hx hb d_x_firstLimitReached_34 rfl (lv_at hl 2 rfl) ?_
          refine lv_aload_n hx hb d_x_firstLimitReached_35 rfl (lv_at hl 0 rfl) ?_
          refine va_get (D := D) (ci := 0) (v := .ref (a 2)) (C := "RightsLimit") (T := fT_x) (N := 8) hx hb hG fi_x hown hK hP 0 rfl rfl 1 (by decide) (hG _ wd_169) (fun _ h9 => h9) rfl d_x_firstLimitReached_36 ?_
          refine va_get (D := D) (ci := 2) (v := .ref (a 11)) (C := "RightsLimit$Limits") (T := fT_l) (N := 5) hx hb hG fi_l hown hK hP 2 rfl rfl 2 (by decide) (hG _ wd_69) (fun _ h9 => h9) rfl d_x_firstLimitReached_39 ?_
          refine lv_iload hx hb d_x_firstLimitReached_42 (lv_at hl 4 rfl) ?_
          refine va_iald hx hb hK hP 11 0 rfl rfl (rl_in (n := 100) (by omega) (by omega)) d_x_firstLimitReached_44 ?_
          refine lv_topi (fun v4 ev4 => ?_)
          refine lv_iload_n hx hb d_x_firstLimitReached_45 rfl (lv_at hl 3 rfl) ?_
          have hpre := rl_BR.pre (av := .ref (a 4) :: [.int jp1, .int jp2, .int v4, .int jp3]) rl_nw_ok hP hK hN
          refine rl_callr hS (va_runV (As := [.int jp1, .int jp2, .int v4, .int jp3]) (rest := []) ⟨hx, hb, hml, hown, hG⟩ (k_q_countInSpan l D a kI kZ F jp1 jp2 v4 jp3 ⟨by omega, hR⟩ _) (cwV 4 hG (rl_gV wd_285 wd_286 wd_287 wd_18 wd_288) rfl rfl rfl (by decide +kernel) ⟨Nat.le_of_ble_eq_true rfl, Nat.le_of_ble_eq_true rfl⟩) ⟨hpre.1, (va_recv hK hP (ci := 4) (q0 := 4) rfl rfl), hpre.2⟩ rfl rfl hl.1 rfl (lv_room (Nat.le_of_ble_eq_true rfl)) d_x_firstLimitReached_46 ⟨Nat.le_of_ble_eq_true rfl, Nat.le_of_ble_eq_true rfl⟩) (fun r5 locs hw hS => ?_)
          have hwr5 := hw
          refine lv_aload_n hx hb d_x_firstLimitReached_49 rfl (lv_at hl 0 rfl) ?_
          refine va_get (D := D) (ci := 0) (v := .ref (a 2)) (C := "RightsLimit") (T := fT_x) (N := 8) hx hb hG fi_x hown hK hP 0 rfl rfl 1 (by decide) (hG _ wd_169) (fun _ h9 => h9) rfl d_x_firstLimitReached_50 ?_
          refine va_get (D := D) (ci := 2) (v := .ref (a 12)) (C := "RightsLimit$Limits") (T := fT_l) (N := 5) hx hb hG fi_l hown hK hP 2 rfl rfl 3 (by decide) (hG _ wd_71) (fun _ h9 => h9) rfl d_x_firstLimitReached_53 ?_
          refine lv_iload hx hb d_x_firstLimitReached_56 (lv_at hl 4 rfl) ?_
          refine va_iald hx hb hK hP 12 0 rfl rfl (rl_in (n := 100) (by omega) (by omega)) d_x_firstLimitReached_58 ?_
          refine lv_topi (fun v6 ev6 => ?_)
          refine lv_icmp_lt (tgt := 65) hx hb d_x_firstLimitReached_59 (by decide) (fun c7 => ?_) (fun c7 => ?_)
          · have ic7 := rl_ilt c7
            obtain ⟨x8, ex8⟩ : ∃ y : Int32, y = i + 1 := ⟨_, rfl⟩
            refine lv_iinc (v := x8) (lv' := [(4, .int x8), (0, .ref (a 0)), (1, .int jp1), (2, .int jp2), (3, .int jp3)]) hx hb d_x_firstLimitReached_65 hl (k := 4) rfl (by rw [ex8]; rfl) (by decide) rfl (fun ls hl => ?_)
            have ix8 : x8.toInt = i.toInt + 1 := by rw [ex8]; exact rl_inc (by omega)
            refine lv_goto (tgt := 3) hx hb d_x_firstLimitReached_68 (by decide) ?_
            exact ih x8 (by omega) (by omega) (by omega) _ _ hS (lv_sub hl [1, 2, 3, 4, 0] rfl)
          · have ic7 := rl_inlt c7
            refine lv_iload hx hb d_x_firstLimitReached_62 (lv_at hl 4 rfl) ?_
            exact W.iret (v := i) hx hb hr (fun t ht hW => ⟨⟨i, (), rfl, trivial, ht⟩, hS.F ht⟩) hS.2.2 d_x_firstLimitReached_64
        · refine lv_if_eq (tgt := 65) hx hb d_x_firstLimitReached_26 (by decide) (fun _ => ?_) (fun c9 => absurd c9 (by decide))
          obtain ⟨x9, ex9⟩ : ∃ y : Int32, y = i + 1 := ⟨_, rfl⟩
          refine lv_iinc (v := x9) (lv' := [(4, .int x9), (0, .ref (a 0)), (1, .int jp1), (2, .int jp2), (3, .int jp3)]) hx hb d_x_firstLimitReached_65 hl (k := 4) rfl (by rw [ex9]; rfl) (by decide) rfl (fun ls hl => ?_)
          have ix9 : x9.toInt = i.toInt + 1 := by rw [ex9]; exact rl_inc (by omega)
          refine lv_goto (tgt := 3) hx hb d_x_firstLimitReached_68 (by decide) ?_
          exact ih x9 (by omega) (by omega) (by omega) _ _ hS (lv_sub hl [1, 2, 3, 4, 0] rfl)
  exact loop 400 0 (by decide) (by simp only [rl_n0]; omega) (by simp only [rl_n0]; omega) _ _ hS (lv_sub hl [1, 2, 3, 4, 0] rfl)
set_option maxHeartbeats 4000000 in
set_option maxRecDepth 100000 in
theorem k_x_decideBeyondLimits (l : Launch) (D : va_G) (a : Nat → Nat) (kI kZ : ClassId) (F : Nat → Nat → Int32) (jn jt ju : Int32) (hI : rl_I F) (hn0 : 0 ≤ jn.toInt) (hn1 : jn.toInt < 300) (ht0 : 0 ≤ jt.toInt) (ht1 : jt.toInt < 50) (sz : Nat) : rl_Cv (S := Nat → Nat → Int32) l ⟨"RightsLimit", "decideBeyondLimits", "(III)V"⟩ (Cond.code ⟨"RightsLimit", "decideBeyondLimits", "(III)V"⟩ prog_1_method_20_code 5 none :: rl_G) { frames := 1, cells := 0, slots := 0, locals := 22 } D rl_cl (rl_tys kI kZ) rl_nw [.ref (a 0), .int jn, .int jt, .int ju] (rl_w a kI kZ F) sz (fun (F' : Nat → Nat → Int32) => rl_R F' ∧ ((F' 27 0).toInt = (F 27 0).toInt ∧ (F' 27 1).toInt = (F 27 1).toInt ∧ (F' 27 2).toInt = (F 27 2).toInt ∧ (F' 27 3).toInt = (F 27 3).toInt)) (fun F' => rl_w a kI kZ F') 0 0 := by
  refine rl_metv (cc := prog_1_method_20_code) (maxL := 5) (ret := none) (by decide) rfl (Nat.le_of_ble_eq_true rfl) ?_
  intro p e s m below meth c A ls hx hb hr hml hown hts hlocks hnm hP hK hD hS hA hN hl
  have hown : s.vm.findClass "RightsLimit" = some m.cls := hown
  have hG : ∀ x ∈ rl_G, x.before _ s = true := fun x h => hts x (List.mem_cons_of_mem _ h)
  have hl : lv_has ls 5 [(0, .ref (a 0)), (1, .int jn), (2, .int jt), (3, .int ju)] := hl
  obtain ⟨hcnt, hR⟩ := id hI
  refine lv_aload_n hx hb d_x_decideBeyondLimits_0 rfl (lv_at hl 0 rfl) ?_
  refine va_get (D := D) (ci := 0) (v := .ref (a 30)) (C := "RightsLimit") (T := fT_x) (N := 8) hx hb hG fi_x hown hK hP 0 rfl rfl 4 (by decide) (hG _ wd_172) (fun _ h9 => h9) rfl d_x_decideBeyondLimits_1 ?_
  refine lv_aload_n hx hb d_x_decideBeyondLimits_4 rfl (lv_at hl 0 rfl) ?_
  refine va_get (D := D) (ci := 0) (v := .ref (a 1)) (C := "RightsLimit") (T := fT_x) (N := 8) hx hb hG fi_x hown hK hP 0 rfl rfl 0 (by decide) (hG _ wd_168) (fun _ h9 => h9) rfl d_x_decideBeyondLimits_5 ?_
  refine va_get (D := D) (ci := 1) (v := .ref (a 5)) (C := "RightsLimit$Titles") (T := fT_t) (N := 5) hx hb hG fi_t hown hK hP 1 rfl rfl 0 (by decide) (hG _ wd_39) (fun _ h9 => h9) rfl d_x_decideBeyondLimits_8 ?_
  refine lv_iload_n hx hb d_x_decideBeyondLimits_11 rfl (lv_at hl 2 rfl) ?_
  refine va_iald hx hb hK hP 5 0 rfl rfl (rl_in (n := 50) (by omega) (by omega)) d_x_decideBeyondLimits_12 ?_
  refine lv_topi (fun v1 ev1 => ?_)
  have iv1 : 0 ≤ v1.toInt ∧ v1.toInt < 100 := by rw [ev1]; exact hR _
  refine va_iald hx hb hK hP 30 0 rfl rfl (rl_in (n := 100) (by omega) (by omega)) d_x_decideBeyondLimits_13 ?_
  refine lv_topi (fun v2 ev2 => ?_)
  refine lv_istore (lv' := [(4, .int v2), (0, .ref (a 0)), (1, .int jn), (2, .int jt), (3, .int ju)]) hx hb d_x_decideBeyondLimits_14 hl (by decide) rfl (fun ls hl => ?_)
  refine lv_aload_n hx hb d_x_decideBeyondLimits_16 rfl (lv_at hl 1 rfl) ?_
  refine va_get (D := D) (ci := 0) (v := .ref (a 1)) (C := "RightsLimit") (T := fT_x) (N := 8) hx hb hG fi_x hown hK hP 0 rfl rfl 0 (by decide) (hG _ wd_168) (fun _ h9 => h9) rfl d_x_decideBeyondLimits_17 ?_
  refine va_get (D := D) (ci := 1) (v := .ref (a 8)) (C := "RightsLimit$Titles") (T := fT_t) (N := 5) hx hb hG fi_t hown hK hP 1 rfl rfl 3 (by decide) (hG _ wd_45) (fun _ h9 => h9) rfl d_x_decideBeyondLimits_20 ?_
  refine lv_iload_n hx hb d_x_decideBeyondLimits_23 rfl (lv_at hl 3 rfl) ?_
  refine va_iald hx hb hK hP 8 0 rfl rfl (rl_in (n := 50) (by omega) (by omega)) d_x_decideBeyondLimits_24 ?_
  refine lv_topi (fun v3 ev3 => ?_)
  refine lv_if_le (tgt := 53) hx hb d_x_decideBeyondLimits_25 (by decide) (fun c4 => ?_) (fun c4 => ?_)
  · have ic4 := rl_ile c4
    simp only [rl_n0] at ic4
    refine lv_iload hx hb d_x_decideBeyondLimits_53 (lv_at hl 0 rfl) ?_
    refine lv_if_le (tgt := 80) hx hb d_x_decideBeyondLimits_55 (by decide) (fun c5 => ?_) (fun c5 => ?_)
    · have ic5 := rl_ile c5
      simp only [rl_n0] at ic5
      refine lv_aload_n hx hb d_x_decideBeyondLimits_80 rfl (lv_at hl 1 rfl) ?_
      refine lv_iload_n hx hb d_x_decideBeyondLimits_81 rfl (lv_at hl 4 rfl) ?_
      refine va_put (D := D) (ci := 0) (v := .int ju) (ty := .int) (C := "RightsLimit") (T := fT_x) (N := 8) hx hb hG fi_x fy_x fo_x fn_x hown hK hP hD hS 0 rfl rfl 7 (by decide) (hG _ wd_175) (fun _ h9 => h9) rfl (by decide +kernel) rfl rfl (Nat.le_of_ble_eq_true rfl) d_x_decideBeyondLimits_82 (fun H locs hP hD hS => ?_)
      obtain ⟨F6, eF6⟩ : ∃ G, G = rl_st F 27 5 ju := ⟨_, rfl⟩
      have hP : va_P D rl_cl (rl_w a kI kZ F6) H := by rw [eF6]; exact hP
      have hD : va_D A (rl_w a kI kZ F6) := by rw [eF6]; exact hD
      obtain ⟨tF6, hRF6⟩ := rl_putS eF6 (by decide) (by decide) (by decide) (by decide) hR
      exact W.vret hx hb hr (fun t ht hW => ⟨⟨F6, rfl, ⟨hRF6, (show (F6 27 0).toInt = (F 27 0).toInt ∧ (F6 27 1).toInt = (F 27 1).toInt ∧ (F6 27 2).toInt = (F 27 2).toInt ∧ (F6 27 3).toInt = (F 27 3).toInt by omega)⟩, ⟨by rw [ht]; exact hP, hD⟩⟩, hS.F ht⟩) hS.2.2 d_x_decideBeyondLimits_85
    · have ic5 := rl_inle c5
      simp only [rl_n0] at ic5
      refine lv_aload_n hx hb d_x_decideBeyondLimits_58 rfl (lv_at hl 1 rfl) ?_
      refine va_get (D := D) (ci := 0) (v := .ref (a 4)) (C := "RightsLimit") (T := fT_x) (N := 8) hx hb hG fi_x hown hK hP 0 rfl rfl 3 (by decide) (hG _ wd_171) (fun _ h9 => h9) rfl d_x_decideBeyondLimits_59 ?_
      refine lv_iload_n hx hb d_x_decideBeyondLimits_62 rfl (lv_at hl 2 rfl) ?_
      refine lv_iload hx hb d_x_decideBeyondLimits_63 (lv_at hl 0 rfl) ?_
      have hpre := rl_B.pre (av := .ref (a 4) :: [.int jn, .int v2]) rl_nw_ok hP hK hD hN
      refine rl_callv0 hP hD hS hA (va_runV (As := [.int jn, .int v2]) (rest := []) ⟨hx, hb, hml, hown, hG⟩ (k_q_charge l D a kI kZ F jn v2 ⟨by omega, hR⟩ (by omega) (by omega) _) (cwV 2 hG (rl_gV wd_299 wd_300 wd_301 wd_18 wd_302) rfl rfl rfl (by decide +kernel) ⟨Nat.le_of_ble_eq_true rfl, Nat.le_of_ble_eq_true rfl⟩) ⟨hpre.1, (va_recv hK hP (ci := 4) (q0 := 4) rfl rfl), hpre.2⟩ rfl rfl hl.1 rfl (lv_room (Nat.le_of_ble_eq_true rfl)) d_x_decideBeyondLimits_65 ⟨Nat.le_of_ble_eq_true rfl, Nat.le_of_ble_eq_true rfl⟩) (fun F8 H locs hw hP hD hS => ?_)
      have hP : va_P D rl_cl (rl_w a kI kZ F8) H := hP
      have hD : va_D A (rl_w a kI kZ F8) := hD
      obtain ⟨hRF8, hw⟩ := hw
      have g9 := hw
      refine lv_aload_n hx hb d_x_decideBeyondLimits_68 rfl (lv_at hl 1 rfl) ?_
      refine va_get (D := D) (ci := 0) (v := .ref (a 4)) (C := "RightsLimit") (T := fT_x) (N := 8) hx hb hG fi_x hown hK hP 0 rfl rfl 3 (by decide) (hG _ wd_171) (fun _ h9 => h9) rfl d_x_decideBeyondLimits_69 ?_
      refine lv_iload_n hx hb d_x_decideBeyondLimits_72 rfl (lv_at hl 2 rfl) ?_
      refine lv_iconst (v := 5) hx hb d_x_decideBeyondLimits_73 (by decide) ?_
      have hpre := rl_B.pre (av := .ref (a 4) :: [.int jn, .int 5]) rl_nw_ok hP hK hD hN
      refine rl_callv0 hP hD hS hA (va_runV (As := [.int jn, .int 5]) (rest := []) ⟨hx, hb, hml, hown, hG⟩ (k_q_allow l D a kI kZ F8 jn 5 ⟨by omega, hRF8⟩ (by omega) (by omega) _) (cwV 2 hG (rl_gV wd_267 wd_268 wd_269 wd_18 wd_270) rfl rfl rfl (by decide +kernel) ⟨Nat.le_of_ble_eq_true rfl, Nat.le_of_ble_eq_true rfl⟩) ⟨hpre.1, (va_recv hK hP (ci := 4) (q0 := 4) rfl rfl), hpre.2⟩ rfl rfl hl.1 rfl (lv_room (Nat.le_of_ble_eq_true rfl)) d_x_decideBeyondLimits_74 ⟨Nat.le_of_ble_eq_true rfl, Nat.le_of_ble_eq_true rfl⟩) (fun F11 H locs hw hP hD hS => ?_)
      have hP : va_P D rl_cl (rl_w a kI kZ F11) H := hP
      have hD : va_D A (rl_w a kI kZ F11) := hD
      obtain ⟨hRF11, hw⟩ := hw
      try simp only [rl_n5] at hw
      have g12 := hw
      refine lv_goto (tgt := 85) hx hb d_x_decideBeyondLimits_77 (by decide) ?_
      exact W.vret hx hb hr (fun t ht hW => ⟨⟨F11, rfl, ⟨hRF11, (show (F11 27 0).toInt = (F 27 0).toInt ∧ (F11 27 1).toInt = (F 27 1).toInt ∧ (F11 27 2).toInt = (F 27 2).toInt ∧ (F11 27 3).toInt = (F 27 3).toInt by omega)⟩, ⟨by rw [ht]; exact hP, hD⟩⟩, hS.F ht⟩) hS.2.2 d_x_decideBeyondLimits_85
  · have ic4 := rl_inle c4
    simp only [rl_n0] at ic4
    refine lv_aload_n hx hb d_x_decideBeyondLimits_28 rfl (lv_at hl 1 rfl) ?_
    refine va_get (D := D) (ci := 0) (v := .ref (a 1)) (C := "RightsLimit") (T := fT_x) (N := 8) hx hb hG fi_x hown hK hP 0 rfl rfl 0 (by decide) (hG _ wd_168) (fun _ h9 => h9) rfl d_x_decideBeyondLimits_29 ?_
    refine va_get (D := D) (ci := 1) (v := .ref (a 8)) (C := "RightsLimit$Titles") (T := fT_t) (N := 5) hx hb hG fi_t hown hK hP 1 rfl rfl 3 (by decide) (hG _ wd_45) (fun _ h9 => h9) rfl d_x_decideBeyondLimits_32 ?_
    refine lv_iload_n hx hb d_x_decideBeyondLimits_35 rfl (lv_at hl 3 rfl) ?_
    refine lv_dup2_11 hx hb d_x_decideBeyondLimits_36 rfl rfl ?_
    refine va_iald hx hb hK hP 8 0 rfl rfl (rl_in (n := 50) (by omega) (by omega)) d_x_decideBeyondLimits_37 ?_
    refine lv_topi (fun v13 ev13 => ?_)
    refine lv_iconst (v := 1) hx hb d_x_decideBeyondLimits_38 (by decide) ?_
    refine lv_isub hx hb d_x_decideBeyondLimits_39 ?_
    refine lv_topi (fun v14 ev14 => ?_)
    refine va_iast hx hb hK hP hD hS 8 0 rfl rfl (rl_in (n := 50) (by omega) (by omega)) d_x_decideBeyondLimits_40 (fun H locs hP hD hS => ?_)
    obtain ⟨F15, eF15⟩ : ∃ G, G = rl_st F 3 jt.toNatClampNeg v14 := ⟨_, rfl⟩
    have hP : va_P D rl_cl (rl_w a kI kZ F15) H := by rw [eF15]; exact hP
    have hD : va_D A (rl_w a kI kZ F15) := by rw [eF15]; exact hD
    obtain ⟨tF15, hRF15⟩ := rl_keep eF15 (by decide) (by decide) hR
    refine lv_aload_n hx hb d_x_decideBeyondLimits_41 rfl (lv_at hl 1 rfl) ?_
    refine va_get (D := D) (ci := 0) (v := .ref (a 4)) (C := "RightsLimit") (T := fT_x) (N := 8) hx hb hG fi_x hown hK hP 0 rfl rfl 3 (by decide) (hG _ wd_171) (fun _ h9 => h9) rfl d_x_decideBeyondLimits_42 ?_
    refine lv_iload_n hx hb d_x_decideBeyondLimits_45 rfl (lv_at hl 2 rfl) ?_
    refine lv_iconst (v := 4) hx hb d_x_decideBeyondLimits_46 (by decide) ?_
    have hpre := rl_B.pre (av := .ref (a 4) :: [.int jn, .int 4]) rl_nw_ok hP hK hD hN
    refine rl_callv0 hP hD hS hA (va_runV (As := [.int jn, .int 4]) (rest := []) ⟨hx, hb, hml, hown, hG⟩ (k_q_allow l D a kI kZ F15 jn 4 ⟨by omega, hRF15⟩ (by omega) (by omega) _) (cwV 2 hG (rl_gV wd_267 wd_268 wd_269 wd_18 wd_270) rfl rfl rfl (by decide +kernel) ⟨Nat.le_of_ble_eq_true rfl, Nat.le_of_ble_eq_true rfl⟩) ⟨hpre.1, (va_recv hK hP (ci := 4) (q0 := 4) rfl rfl), hpre.2⟩ rfl rfl hl.1 rfl (lv_room (Nat.le_of_ble_eq_true rfl)) d_x_decideBeyondLimits_47 ⟨Nat.le_of_ble_eq_true rfl, Nat.le_of_ble_eq_true rfl⟩) (fun F17 H locs hw hP hD hS => ?_)
    have hP : va_P D rl_cl (rl_w a kI kZ F17) H := hP
    have hD : va_D A (rl_w a kI kZ F17) := hD
    obtain ⟨hRF17, hw⟩ := hw
    try simp only [rl_n4] at hw
    have g18 := hw
    refine lv_goto (tgt := 85) hx hb d_x_decideBeyondLimits_50 (by decide) ?_
    exact W.vret hx hb hr (fun t ht hW => ⟨⟨F17, rfl, ⟨hRF17, (show (F17 27 0).toInt = (F 27 0).toInt ∧ (F17 27 1).toInt = (F 27 1).toInt ∧ (F17 27 2).toInt = (F 27 2).toInt ∧ (F17 27 3).toInt = (F 27 3).toInt by omega)⟩, ⟨by rw [ht]; exact hP, hD⟩⟩, hS.F ht⟩) hS.2.2 d_x_decideBeyondLimits_85
set_option maxHeartbeats 4000000 in
set_option maxRecDepth 100000 in
theorem k_x_decide (l : Launch) (D : va_G) (a : Nat → Nat) (kI kZ : ClassId) (F : Nat → Nat → Int32) (jn jt jk ju : Int32) (hI : rl_I F) (hn0 : 0 ≤ jn.toInt) (hn1 : jn.toInt < 300) (ht0 : 0 ≤ jt.toInt) (ht1 : jt.toInt < 50) (sz : Nat) : rl_Cv (S := Nat → Nat → Int32) l ⟨"RightsLimit", "decide", "(IIII)V"⟩ (Cond.code ⟨"RightsLimit", "decide", "(IIII)V"⟩ prog_1_method_19_code 7 none :: rl_G) { frames := 3, cells := 0, slots := 0, locals := 73 } D rl_cl (rl_tys kI kZ) rl_nw [.ref (a 0), .int jn, .int jt, .int jk, .int ju] (rl_w a kI kZ F) sz (fun (F' : Nat → Nat → Int32) => rl_R F' ∧ ((F' 27 0).toInt = (F 27 0).toInt ∧ (F' 27 1).toInt = (F 27 1).toInt ∧ (F' 27 2).toInt = (F 27 2).toInt ∧ (F' 27 3).toInt = (F 27 3).toInt)) (fun F' => rl_w a kI kZ F') 0 0 := by
  refine rl_metv (cc := prog_1_method_19_code) (maxL := 7) (ret := none) (by decide) rfl (Nat.le_of_ble_eq_true rfl) ?_
  intro p e s m below meth c A ls hx hb hr hml hown hts hlocks hnm hP hK hD hS hA hN hl
  have hown : s.vm.findClass "RightsLimit" = some m.cls := hown
  have hG : ∀ x ∈ rl_G, x.before _ s = true := fun x h => hts x (List.mem_cons_of_mem _ h)
  have hl : lv_has ls 7 [(0, .ref (a 0)), (1, .int jn), (2, .int jt), (3, .int jk), (4, .int ju)] := hl
  obtain ⟨hcnt, hR⟩ := id hI
  refine lv_aload_n hx hb d_x_decide_0 rfl (lv_at hl 0 rfl) ?_
  refine va_get (D := D) (ci := 0) (v := .ref (a 1)) (C := "RightsLimit") (T := fT_x) (N := 8) hx hb hG fi_x hown hK hP 0 rfl rfl 0 (by decide) (hG _ wd_168) (fun _ h9 => h9) rfl d_x_decide_1 ?_
  refine va_get (D := D) (ci := 1) (v := .ref (a 6)) (C := "RightsLimit$Titles") (T := fT_t) (N := 5) hx hb hG fi_t hown hK hP 1 rfl rfl 1 (by decide) (hG _ wd_41) (fun _ h9 => h9) rfl d_x_decide_4 ?_
  refine lv_iload_n hx hb d_x_decide_7 rfl (lv_at hl 2 rfl) ?_
  refine va_zald hx hb hK hP 6 1 rfl rfl (rl_in (n := 50) (by omega) (by omega)) d_x_decide_8 ?_
  refine lv_topi (fun v1 ev1 => ?_)
  refine lv_if_eq (tgt := 22) hx hb d_x_decide_9 (by decide) (fun c2 => ?_) (fun c2 => ?_)
  · have ic2 := rl_ieq c2
    simp only [rl_n0] at ic2
    refine lv_aload_n hx hb d_x_decide_22 rfl (lv_at hl 0 rfl) ?_
    refine va_get (D := D) (ci := 0) (v := .ref (a 3)) (C := "RightsLimit") (T := fT_x) (N := 8) hx hb hG fi_x hown hK hP 0 rfl rfl 2 (by decide) (hG _ wd_170) (fun _ h9 => h9) rfl d_x_decide_23 ?_
    refine lv_iload_n hx hb d_x_decide_26 rfl (lv_at hl 2 rfl) ?_
    refine lv_iload_n hx hb d_x_decide_27 rfl (lv_at hl 3 rfl) ?_
    refine lv_iload hx hb d_x_decide_28 (lv_at hl 4 rfl) ?_
    have hpre := rl_BR.pre (av := .ref (a 3) :: [.int jt, .int jk, .int ju]) rl_nw_ok hP hK hN
    refine rl_callr hS (va_runV (As := [.int jt, .int jk, .int ju]) (rest := []) ⟨hx, hb, hml, hown, hG⟩ (k_c_firstThatHolds l D a kI kZ F jt jk ju ⟨by omega, hR⟩ _) (cwV 3 hG (rl_gV wd_272 wd_273 wd_274 wd_17 wd_275) rfl rfl rfl (by decide +kernel) ⟨Nat.le_of_ble_eq_true rfl, Nat.le_of_ble_eq_true rfl⟩) ⟨hpre.1, (va_recv hK hP (ci := 3) (q0 := 3) rfl rfl), hpre.2⟩ rfl rfl hl.1 rfl (lv_room (Nat.le_of_ble_eq_true rfl)) d_x_decide_30 ⟨Nat.le_of_ble_eq_true rfl, Nat.le_of_ble_eq_true rfl⟩) (fun r3 locs hw hS => ?_)
    have hwr3 := hw
    refine lv_istore (lv' := [(5, .int r3), (0, .ref (a 0)), (1, .int jn), (2, .int jt), (3, .int jk), (4, .int ju)]) hx hb d_x_decide_33 hl (by decide) rfl (fun ls hl => ?_)
    refine lv_iload hx hb d_x_decide_35 (lv_at hl 0 rfl) ?_
    refine lv_iconst (v := (-1)) hx hb d_x_decide_37 (by decide) ?_
    refine lv_icmp_eq (tgt := 76) hx hb d_x_decide_38 (by decide) (fun c4 => ?_) (fun c4 => ?_)
    · have ic4 := rl_ieq c4
      simp only [rl_nm1] at ic4
      refine lv_aload_n hx hb d_x_decide_76 rfl (lv_at hl 1 rfl) ?_
      refine lv_iload_n hx hb d_x_decide_77 rfl (lv_at hl 3 rfl) ?_
      refine lv_iload_n hx hb d_x_decide_78 rfl (lv_at hl 4 rfl) ?_
      refine lv_iload hx hb d_x_decide_79 (lv_at hl 5 rfl) ?_
      have hpre := rl_BR.pre (av := .ref (a 0) :: [.int jt, .int jk, .int ju]) rl_nw_ok hP hK hN
      refine rl_callr hS (va_runV (As := [.int jt, .int jk, .int ju]) (rest := []) ⟨hx, hb, hml, hown, hG⟩ (k_x_firstLimitReached l D a kI kZ F jt jk ju ⟨by omega, hR⟩ _) (cwV 3 hG (rl_gV wd_277 wd_279 wd_2 wd_14 wd_280) rfl rfl rfl (by decide +kernel) ⟨Nat.le_of_ble_eq_true rfl, Nat.le_of_ble_eq_true rfl⟩) ⟨hpre.1, (va_recv hK hP (ci := 0) (q0 := 0) rfl rfl), hpre.2⟩ rfl rfl hl.1 rfl (lv_room (Nat.le_of_ble_eq_true rfl)) d_x_decide_81 ⟨Nat.le_of_ble_eq_true rfl, Nat.le_of_ble_eq_true rfl⟩) (fun r5 locs hw hS => ?_)
      have hwr5 := hw
      refine lv_istore (lv' := [(6, .int r5), (5, .int r3), (0, .ref (a 0)), (1, .int jn), (2, .int jt), (3, .int jk), (4, .int ju)]) hx hb d_x_decide_84 hl (by decide) rfl (fun ls hl => ?_)
      refine lv_iload hx hb d_x_decide_86 (lv_at hl 0 rfl) ?_
      refine lv_iconst (v := (-1)) hx hb d_x_decide_88 (by decide) ?_
      refine lv_icmp_ne (tgt := 104) hx hb d_x_decide_89 (by decide) (fun c6 => ?_) (fun c6 => ?_)
      · have ic6 := rl_ine c6
        simp only [rl_nm1] at ic6
        refine lv_aload_n hx hb d_x_decide_104 rfl (lv_at hl 2 rfl) ?_
        refine lv_iload_n hx hb d_x_decide_105 rfl (lv_at hl 3 rfl) ?_
        refine lv_iload_n hx hb d_x_decide_106 rfl (lv_at hl 4 rfl) ?_
        refine lv_iload hx hb d_x_decide_107 (lv_at hl 0 rfl) ?_
        have hpre := rl_B.pre (av := .ref (a 0) :: [.int jn, .int jt, .int r5]) rl_nw_ok hP hK hD hN
        refine rl_callv0 hP hD hS hA (va_runV (As := [.int jn, .int jt, .int r5]) (rest := []) ⟨hx, hb, hml, hown, hG⟩ (k_x_decideBeyondLimits l D a kI kZ F jn jt r5 ⟨by omega, hR⟩ (by omega) (by omega) (by omega) (by omega) _) (cwV 3 hG (rl_gV wd_295 wd_297 wd_3 wd_14 wd_298) rfl rfl rfl (by decide +kernel) ⟨Nat.le_of_ble_eq_true rfl, Nat.le_of_ble_eq_true rfl⟩) ⟨hpre.1, (va_recv hK hP (ci := 0) (q0 := 0) rfl rfl), hpre.2⟩ rfl rfl hl.1 rfl (lv_room (Nat.le_of_ble_eq_true rfl)) d_x_decide_109 ⟨Nat.le_of_ble_eq_true rfl, Nat.le_of_ble_eq_true rfl⟩) (fun F8 H locs hw hP hD hS => ?_)
        have hP : va_P D rl_cl (rl_w a kI kZ F8) H := hP
        have hD : va_D A (rl_w a kI kZ F8) := hD
        obtain ⟨hRF8, hw⟩ := hw
        have g9 := hw
        exact W.vret hx hb hr (fun t ht hW => ⟨⟨F8, rfl, ⟨hRF8, (show (F8 27 0).toInt = (F 27 0).toInt ∧ (F8 27 1).toInt = (F 27 1).toInt ∧ (F8 27 2).toInt = (F 27 2).toInt ∧ (F8 27 3).toInt = (F 27 3).toInt by omega)⟩, ⟨by rw [ht]; exact hP, hD⟩⟩, hS.F ht⟩) hS.2.2 d_x_decide_112
      · have ic6 := rl_ieq c6
        simp only [rl_nm1] at ic6
        refine lv_aload_n hx hb d_x_decide_92 rfl (lv_at hl 2 rfl) ?_
        refine va_get (D := D) (ci := 0) (v := .ref (a 4)) (C := "RightsLimit") (T := fT_x) (N := 8) hx hb hG fi_x hown hK hP 0 rfl rfl 3 (by decide) (hG _ wd_171) (fun _ h9 => h9) rfl d_x_decide_93 ?_
        refine lv_iload_n hx hb d_x_decide_96 rfl (lv_at hl 3 rfl) ?_
        refine lv_iconst (v := 3) hx hb d_x_decide_97 (by decide) ?_
        have hpre := rl_B.pre (av := .ref (a 4) :: [.int jn, .int 3]) rl_nw_ok hP hK hD hN
        refine rl_callv0 hP hD hS hA (va_runV (As := [.int jn, .int 3]) (rest := []) ⟨hx, hb, hml, hown, hG⟩ (k_q_allow l D a kI kZ F jn 3 ⟨by omega, hR⟩ (by omega) (by omega) _) (cwV 2 hG (rl_gV wd_267 wd_268 wd_269 wd_18 wd_270) rfl rfl rfl (by decide +kernel) ⟨Nat.le_of_ble_eq_true rfl, Nat.le_of_ble_eq_true rfl⟩) ⟨hpre.1, (va_recv hK hP (ci := 4) (q0 := 4) rfl rfl), hpre.2⟩ rfl rfl hl.1 rfl (lv_room (Nat.le_of_ble_eq_true rfl)) d_x_decide_98 ⟨Nat.le_of_ble_eq_true rfl, Nat.le_of_ble_eq_true rfl⟩) (fun F11 H locs hw hP hD hS => ?_)
        have hP : va_P D rl_cl (rl_w a kI kZ F11) H := hP
        have hD : va_D A (rl_w a kI kZ F11) := hD
        obtain ⟨hRF11, hw⟩ := hw
        try simp only [rl_n3] at hw
        have g12 := hw
        refine lv_goto (tgt := 112) hx hb d_x_decide_101 (by decide) ?_
        exact W.vret hx hb hr (fun t ht hW => ⟨⟨F11, rfl, ⟨hRF11, (show (F11 27 0).toInt = (F 27 0).toInt ∧ (F11 27 1).toInt = (F 27 1).toInt ∧ (F11 27 2).toInt = (F 27 2).toInt ∧ (F11 27 3).toInt = (F 27 3).toInt by omega)⟩, ⟨by rw [ht]; exact hP, hD⟩⟩, hS.F ht⟩) hS.2.2 d_x_decide_112
    · have ic4 := rl_ine c4
      simp only [rl_nm1] at ic4
      refine lv_aload_n hx hb d_x_decide_41 rfl (lv_at hl 1 rfl) ?_
      refine va_get (D := D) (ci := 0) (v := .ref (a 3)) (C := "RightsLimit") (T := fT_x) (N := 8) hx hb hG fi_x hown hK hP 0 rfl rfl 2 (by decide) (hG _ wd_170) (fun _ h9 => h9) rfl d_x_decide_42 ?_
      refine va_get (D := D) (ci := 3) (v := .ref (a 15)) (C := "RightsLimit$Licences") (T := fT_c) (N := 6) hx hb hG fi_c hown hK hP 3 rfl rfl 2 (by decide) (hG _ wd_94) (fun _ h9 => h9) rfl d_x_decide_45 ?_
      refine lv_iload hx hb d_x_decide_48 (lv_at hl 0 rfl) ?_
      refine lv_dup2_11 hx hb d_x_decide_50 rfl rfl ?_
      refine va_iald hx hb hK hP 15 0 rfl rfl (rl_in (n := 50) (by omega) (by omega)) d_x_decide_51 ?_
      refine lv_topi (fun v13 ev13 => ?_)
      refine lv_iconst (v := 1) hx hb d_x_decide_52 (by decide) ?_
      refine lv_isub hx hb d_x_decide_53 ?_
      refine lv_topi (fun v14 ev14 => ?_)
      refine va_iast hx hb hK hP hD hS 15 0 rfl rfl (rl_in (n := 50) (by omega) (by omega)) d_x_decide_54 (fun H locs hP hD hS => ?_)
      obtain ⟨F15, eF15⟩ : ∃ G, G = rl_st F 10 r3.toNatClampNeg v14 := ⟨_, rfl⟩
      have hP : va_P D rl_cl (rl_w a kI kZ F15) H := by rw [eF15]; exact hP
      have hD : va_D A (rl_w a kI kZ F15) := by rw [eF15]; exact hD
      obtain ⟨tF15, hRF15⟩ := rl_keep eF15 (by decide) (by decide) hR
      refine lv_aload_n hx hb d_x_decide_55 rfl (lv_at hl 1 rfl) ?_
      refine va_get (D := D) (ci := 0) (v := .ref (a 4)) (C := "RightsLimit") (T := fT_x) (N := 8) hx hb hG fi_x hown hK hP 0 rfl rfl 3 (by decide) (hG _ wd_171) (fun _ h9 => h9) rfl d_x_decide_56 ?_
      refine va_get (D := D) (ci := 4) (v := .ref (a 24)) (C := "RightsLimit$Requests") (T := fT_q) (N := 13) hx hb hG fi_q hown hK hP 4 rfl rfl 6 (by decide) (hG _ wd_130) (fun _ h9 => h9) rfl d_x_decide_59 ?_
      refine lv_iload_n hx hb d_x_decide_62 rfl (lv_at hl 2 rfl) ?_
      refine lv_iload hx hb d_x_decide_63 (lv_at hl 0 rfl) ?_
      refine va_iast hx hb hK hP hD hS 24 0 rfl rfl (rl_in (n := 300) (by omega) (by omega)) d_x_decide_65 (fun H locs hP hD hS => ?_)
      obtain ⟨F16, eF16⟩ : ∃ G, G = rl_st F15 19 jn.toNatClampNeg r3 := ⟨_, rfl⟩
      have hP : va_P D rl_cl (rl_w a kI kZ F16) H := by rw [eF16]; exact hP
      have hD : va_D A (rl_w a kI kZ F16) := by rw [eF16]; exact hD
      obtain ⟨tF16, hRF16⟩ := rl_keep eF16 (by decide) (by decide) hRF15
      refine lv_aload_n hx hb d_x_decide_66 rfl (lv_at hl 1 rfl) ?_
      refine va_get (D := D) (ci := 0) (v := .ref (a 4)) (C := "RightsLimit") (T := fT_x) (N := 8) hx hb hG fi_x hown hK hP 0 rfl rfl 3 (by decide) (hG _ wd_171) (fun _ h9 => h9) rfl d_x_decide_67 ?_
      refine lv_iload_n hx hb d_x_decide_70 rfl (lv_at hl 2 rfl) ?_
      refine lv_iconst (v := 2) hx hb d_x_decide_71 (by decide) ?_
      have hpre := rl_B.pre (av := .ref (a 4) :: [.int jn, .int 2]) rl_nw_ok hP hK hD hN
      refine rl_callv0 hP hD hS hA (va_runV (As := [.int jn, .int 2]) (rest := []) ⟨hx, hb, hml, hown, hG⟩ (k_q_allow l D a kI kZ F16 jn 2 ⟨by omega, hRF16⟩ (by omega) (by omega) _) (cwV 2 hG (rl_gV wd_267 wd_268 wd_269 wd_18 wd_270) rfl rfl rfl (by decide +kernel) ⟨Nat.le_of_ble_eq_true rfl, Nat.le_of_ble_eq_true rfl⟩) ⟨hpre.1, (va_recv hK hP (ci := 4) (q0 := 4) rfl rfl), hpre.2⟩ rfl rfl hl.1 rfl (lv_room (Nat.le_of_ble_eq_true rfl)) d_x_decide_72 ⟨Nat.le_of_ble_eq_true rfl, Nat.le_of_ble_eq_true rfl⟩) (fun F18 H locs hw hP hD hS => ?_)
      have hP : va_P D rl_cl (rl_w a kI kZ F18) H := hP
      have hD : va_D A (rl_w a kI kZ F18) := hD
      obtain ⟨hRF18, hw⟩ := hw
      try simp only [rl_n2] at hw
      have g19 := hw
      exact W.vret hx hb hr (fun t ht hW => ⟨⟨F18, rfl, ⟨hRF18, (show (F18 27 0).toInt = (F 27 0).toInt ∧ (F18 27 1).toInt = (F 27 1).toInt ∧ (F18 27 2).toInt = (F 27 2).toInt ∧ (F18 27 3).toInt = (F 27 3).toInt by omega)⟩, ⟨by rw [ht]; exact hP, hD⟩⟩, hS.F ht⟩) hS.2.2 d_x_decide_75
  · have ic2 := rl_ine c2
    simp only [rl_n0] at ic2
    refine lv_aload_n hx hb d_x_decide_12 rfl (lv_at hl 0 rfl) ?_
    refine va_get (D := D) (ci := 0) (v := .ref (a 4)) (C := "RightsLimit") (T := fT_x) (N := 8) hx hb hG fi_x hown hK hP 0 rfl rfl 3 (by decide) (hG _ wd_171) (fun _ h9 => h9) rfl d_x_decide_13 ?_
    refine lv_iload_n hx hb d_x_decide_16 rfl (lv_at hl 1 rfl) ?_
    refine lv_iconst (v := 1) hx hb d_x_decide_17 (by decide) ?_
    have hpre := rl_B.pre (av := .ref (a 4) :: [.int jn, .int 1]) rl_nw_ok hP hK hD hN
    refine rl_callv0 hP hD hS hA (va_runV (As := [.int jn, .int 1]) (rest := []) ⟨hx, hb, hml, hown, hG⟩ (k_q_allow l D a kI kZ F jn 1 ⟨by omega, hR⟩ (by omega) (by omega) _) (cwV 2 hG (rl_gV wd_267 wd_268 wd_269 wd_18 wd_270) rfl rfl rfl (by decide +kernel) ⟨Nat.le_of_ble_eq_true rfl, Nat.le_of_ble_eq_true rfl⟩) ⟨hpre.1, (va_recv hK hP (ci := 4) (q0 := 4) rfl rfl), hpre.2⟩ rfl rfl hl.1 rfl (lv_room (Nat.le_of_ble_eq_true rfl)) d_x_decide_18 ⟨Nat.le_of_ble_eq_true rfl, Nat.le_of_ble_eq_true rfl⟩) (fun F21 H locs hw hP hD hS => ?_)
    have hP : va_P D rl_cl (rl_w a kI kZ F21) H := hP
    have hD : va_D A (rl_w a kI kZ F21) := hD
    obtain ⟨hRF21, hw⟩ := hw
    try simp only [rl_n1] at hw
    have g22 := hw
    exact W.vret hx hb hr (fun t ht hW => ⟨⟨F21, rfl, ⟨hRF21, (show (F21 27 0).toInt = (F 27 0).toInt ∧ (F21 27 1).toInt = (F 27 1).toInt ∧ (F21 27 2).toInt = (F 27 2).toInt ∧ (F21 27 3).toInt = (F 27 3).toInt by omega)⟩, ⟨by rw [ht]; exact hP, hD⟩⟩, hS.F ht⟩) hS.2.2 d_x_decide_21
set_option maxHeartbeats 4000000 in
set_option maxRecDepth 100000 in
theorem k_x_title (l : Launch) (D : va_G) (a : Nat → Nat) (kI kZ : ClassId) (F : Nat → Nat → Int32) (jp : Int32) (hI : rl_I F) (sz : Nat) : rl_Ci (S := Nat → Nat → Int32) l ⟨"RightsLimit", "title", "(I)I"⟩ (Cond.code ⟨"RightsLimit", "title", "(I)I"⟩ prog_1_method_2_code 2 (some .int) :: rl_G) { frames := 2, cells := 0, slots := 0, locals := 42 } D rl_cl (rl_tys kI kZ) rl_nw [.ref (a 0), .int jp] (rl_w a kI kZ F) sz (fun (r : Int32) (F' : Nat → Nat → Int32) => rl_R F' ∧ (((0 ≤ jp.toInt ∧ jp.toInt ≤ 99) ∧ (F 27 0).toInt < 50 ∧ r.toInt = (F 27 0).toInt ∧ (F' 27 0).toInt = (F 27 0).toInt + 1 ∧ (F' 27 1).toInt = (F 27 1).toInt ∧ (F' 27 2).toInt = (F 27 2).toInt ∧ (F' 27 3).toInt = (F 27 3).toInt) ∨ ((0 ≤ jp.toInt ∧ jp.toInt ≤ 99) ∧ 50 ≤ (F 27 0).toInt ∧ r.toInt = -4 ∧ (F' 27 0).toInt = (F 27 0).toInt ∧ (F' 27 1).toInt = (F 27 1).toInt ∧ (F' 27 2).toInt = (F 27 2).toInt ∧ (F' 27 3).toInt = (F 27 3).toInt) ∨ (¬ (0 ≤ jp.toInt ∧ jp.toInt ≤ 99) ∧ r.toInt = -2 ∧ (F' 27 0).toInt = (F 27 0).toInt ∧ (F' 27 1).toInt = (F 27 1).toInt ∧ (F' 27 2).toInt = (F 27 2).toInt ∧ (F' 27 3).toInt = (F 27 3).toInt))) (fun F' => rl_w a kI kZ F') 0 0 := by
  refine rl_meti (cc := prog_1_method_2_code) (maxL := 2) (ret := (some .int)) (by decide) rfl (Nat.le_of_ble_eq_true rfl) ?_
  intro p e s m below meth c A ls hx hb hr hml hown hts hlocks hnm hP hK hD hS hA hN hl
  have hown : s.vm.findClass "RightsLimit" = some m.cls := hown
  have hG : ∀ x ∈ rl_G, x.before _ s = true := fun x h => hts x (List.mem_cons_of_mem _ h)
  have hl : lv_has ls 2 [(0, .ref (a 0)), (1, .int jp)] := hl
  obtain ⟨hcnt, hR⟩ := id hI
  refine lv_iload_n hx hb d_x_title_0 rfl (lv_at hl 1 rfl) ?_
  refine rl_callr hS (va_runS (As := [.int jp]) (rest := []) ⟨hx, hb, hml, hown, hG⟩ (k_x_isPublisher l D a kI kZ jp _) (cwS 1 hG (rl_gS wd_197 wd_198 wd_14 wd_199) rfl rfl rfl (by decide +kernel) ⟨Nat.le_of_ble_eq_true rfl, Nat.le_of_ble_eq_true rfl⟩) (rl_BR.pre rl_nw_ok rl_P0 hK hN) rfl rfl hl.1 rfl (lv_room (Nat.le_of_ble_eq_true rfl)) d_x_title_1 ⟨Nat.le_of_ble_eq_true rfl, Nat.le_of_ble_eq_true rfl⟩) (fun r1 locs hw hS => ?_)
  rcases hw with ⟨rfl, h2⟩ | ⟨rfl, h2⟩
  · refine lv_if_ne (tgt := 10) hx hb d_x_title_4 (by decide) (fun _ => ?_) (fun c9 => absurd c9 (by decide))
    refine lv_aload_n hx hb d_x_title_10 rfl (lv_at hl 0 rfl) ?_
    refine va_get (D := D) (ci := 0) (v := .ref (a 1)) (C := "RightsLimit") (T := fT_x) (N := 8) hx hb hG fi_x hown hK hP 0 rfl rfl 0 (by decide) (hG _ wd_168) (fun _ h9 => h9) rfl d_x_title_11 ?_
    refine lv_iload_n hx hb d_x_title_14 rfl (lv_at hl 1 rfl) ?_
    have hpre := rl_B.pre (av := .ref (a 1) :: [.int jp]) rl_nw_ok hP hK hD hN
    refine rl_calli0 hP hD hS hA (va_runV (As := [.int jp]) (rest := []) ⟨hx, hb, hml, hown, hG⟩ (k_t_add l D a kI kZ F jp ⟨by omega, hR⟩ (by omega) (by omega) _) (cwV 1 hG (rl_gV wd_203 wd_204 wd_205 wd_15 wd_206) rfl rfl rfl (by decide +kernel) ⟨Nat.le_of_ble_eq_true rfl, Nat.le_of_ble_eq_true rfl⟩) ⟨hpre.1, (va_recv hK hP (ci := 1) (q0 := 1) rfl rfl), hpre.2⟩ rfl rfl hl.1 rfl (lv_room (Nat.le_of_ble_eq_true rfl)) d_x_title_15 ⟨Nat.le_of_ble_eq_true rfl, Nat.le_of_ble_eq_true rfl⟩) (fun r3 F4 H locs hw hP hD hS => ?_)
    have hP : va_P D rl_cl (rl_w a kI kZ F4) H := hP
    have hD : va_D A (rl_w a kI kZ F4) := hD
    obtain ⟨hRF4, hw⟩ := hw
    have hwr3 := hw
    exact W.iret (v := r3) hx hb hr (fun t ht hW => ⟨⟨r3, F4, rfl, ⟨hRF4, (show ((0 ≤ jp.toInt ∧ jp.toInt ≤ 99) ∧ (F 27 0).toInt < 50 ∧ r3.toInt = (F 27 0).toInt ∧ (F4 27 0).toInt = (F 27 0).toInt + 1 ∧ (F4 27 1).toInt = (F 27 1).toInt ∧ (F4 27 2).toInt = (F 27 2).toInt ∧ (F4 27 3).toInt = (F 27 3).toInt) ∨ ((0 ≤ jp.toInt ∧ jp.toInt ≤ 99) ∧ 50 ≤ (F 27 0).toInt ∧ r3.toInt = -4 ∧ (F4 27 0).toInt = (F 27 0).toInt ∧ (F4 27 1).toInt = (F 27 1).toInt ∧ (F4 27 2).toInt = (F 27 2).toInt ∧ (F4 27 3).toInt = (F 27 3).toInt) ∨ (¬ (0 ≤ jp.toInt ∧ jp.toInt ≤ 99) ∧ r3.toInt = -2 ∧ (F4 27 0).toInt = (F 27 0).toInt ∧ (F4 27 1).toInt = (F 27 1).toInt ∧ (F4 27 2).toInt = (F 27 2).toInt ∧ (F4 27 3).toInt = (F 27 3).toInt) by omega)⟩, ⟨by rw [ht]; exact hP, hD⟩⟩, hS.F ht⟩) hS.2.2 d_x_title_18
  · refine lv_if_ne (tgt := 10) hx hb d_x_title_4 (by decide) (fun c9 => absurd c9 (by decide)) (fun _ => ?_)
    refine lv_bipush (v := (-2)) hx hb d_x_title_7 (by decide) ?_
    exact W.iret (v := (-2)) hx hb hr (fun t ht hW => ⟨⟨(-2), F, rfl, ⟨hR, (show ((0 ≤ jp.toInt ∧ jp.toInt ≤ 99) ∧ (F 27 0).toInt < 50 ∧ ((-2) : Int32).toInt = (F 27 0).toInt ∧ (F 27 0).toInt = (F 27 0).toInt + 1 ∧ (F 27 1).toInt = (F 27 1).toInt ∧ (F 27 2).toInt = (F 27 2).toInt ∧ (F 27 3).toInt = (F 27 3).toInt) ∨ ((0 ≤ jp.toInt ∧ jp.toInt ≤ 99) ∧ 50 ≤ (F 27 0).toInt ∧ ((-2) : Int32).toInt = -4 ∧ (F 27 0).toInt = (F 27 0).toInt ∧ (F 27 1).toInt = (F 27 1).toInt ∧ (F 27 2).toInt = (F 27 2).toInt ∧ (F 27 3).toInt = (F 27 3).toInt) ∨ (¬ (0 ≤ jp.toInt ∧ jp.toInt ≤ 99) ∧ ((-2) : Int32).toInt = -2 ∧ (F 27 0).toInt = (F 27 0).toInt ∧ (F 27 1).toInt = (F 27 1).toInt ∧ (F 27 2).toInt = (F 27 2).toInt ∧ (F 27 3).toInt = (F 27 3).toInt) by have q9 := rl_nm2; omega)⟩, ⟨by rw [ht]; exact hP, hD⟩⟩, hS.F ht⟩) hS.2.2 d_x_title_9
set_option maxHeartbeats 4000000 in
set_option maxRecDepth 100000 in
theorem k_x_open (l : Launch) (D : va_G) (a : Nat → Nat) (kI kZ : ClassId) (F : Nat → Nat → Int32) (jt jb : Int32) (hI : rl_I F) (sz : Nat) : rl_Ci (S := Nat → Nat → Int32) l ⟨"RightsLimit", "open", "(IZ)I"⟩ (Cond.code ⟨"RightsLimit", "open", "(IZ)I"⟩ prog_1_method_3_code 3 (some .int) :: rl_G) { frames := 1, cells := 0, slots := 0, locals := 21 } D rl_cl (rl_tys kI kZ) rl_nw [.ref (a 0), .int jt, .int jb] (rl_w a kI kZ F) sz (fun (r : Int32) (F' : Nat → Nat → Int32) => rl_R F' ∧ ((((0 ≤ jt.toInt ∧ jt.toInt < (F 27 0).toInt) ∧ r.toInt = 1) ∨ (¬ (0 ≤ jt.toInt ∧ jt.toInt < (F 27 0).toInt) ∧ r.toInt = -1)) ∧ (F' 27 0).toInt = (F 27 0).toInt ∧ (F' 27 1).toInt = (F 27 1).toInt ∧ (F' 27 2).toInt = (F 27 2).toInt ∧ (F' 27 3).toInt = (F 27 3).toInt)) (fun F' => rl_w a kI kZ F') 0 0 := by
  refine rl_meti (cc := prog_1_method_3_code) (maxL := 3) (ret := (some .int)) (by decide) rfl (Nat.le_of_ble_eq_true rfl) ?_
  intro p e s m below meth c A ls hx hb hr hml hown hts hlocks hnm hP hK hD hS hA hN hl
  have hown : s.vm.findClass "RightsLimit" = some m.cls := hown
  have hG : ∀ x ∈ rl_G, x.before _ s = true := fun x h => hts x (List.mem_cons_of_mem _ h)
  have hl : lv_has ls 3 [(0, .ref (a 0)), (1, .int jt), (2, .int jb)] := hl
  obtain ⟨hcnt, hR⟩ := id hI
  refine lv_aload_n hx hb d_x_open_0 rfl (lv_at hl 0 rfl) ?_
  refine va_get (D := D) (ci := 0) (v := .ref (a 1)) (C := "RightsLimit") (T := fT_x) (N := 8) hx hb hG fi_x hown hK hP 0 rfl rfl 0 (by decide) (hG _ wd_168) (fun _ h9 => h9) rfl d_x_open_1 ?_
  refine lv_iload_n hx hb d_x_open_4 rfl (lv_at hl 1 rfl) ?_
  have hpre := rl_BR.pre (av := .ref (a 1) :: [.int jt]) rl_nw_ok hP hK hN
  refine rl_callr hS (va_runV (As := [.int jt]) (rest := []) ⟨hx, hb, hml, hown, hG⟩ (k_t_has l D a kI kZ F jt ⟨by omega, hR⟩ _) (cwV 1 hG (rl_gV wd_211 wd_212 wd_213 wd_15 wd_214) rfl rfl rfl (by decide +kernel) ⟨Nat.le_of_ble_eq_true rfl, Nat.le_of_ble_eq_true rfl⟩) ⟨hpre.1, (va_recv hK hP (ci := 1) (q0 := 1) rfl rfl), hpre.2⟩ rfl rfl hl.1 rfl (lv_room (Nat.le_of_ble_eq_true rfl)) d_x_open_5 ⟨Nat.le_of_ble_eq_true rfl, Nat.le_of_ble_eq_true rfl⟩) (fun r1 locs hw hS => ?_)
  rcases hw with ⟨rfl, h2⟩ | ⟨rfl, h2⟩
  · refine lv_if_ne (tgt := 13) hx hb d_x_open_8 (by decide) (fun _ => ?_) (fun c9 => absurd c9 (by decide))
    refine lv_aload_n hx hb d_x_open_13 rfl (lv_at hl 0 rfl) ?_
    refine va_get (D := D) (ci := 0) (v := .ref (a 1)) (C := "RightsLimit") (T := fT_x) (N := 8) hx hb hG fi_x hown hK hP 0 rfl rfl 0 (by decide) (hG _ wd_168) (fun _ h9 => h9) rfl d_x_open_14 ?_
    refine va_get (D := D) (ci := 1) (v := .ref (a 6)) (C := "RightsLimit$Titles") (T := fT_t) (N := 5) hx hb hG fi_t hown hK hP 1 rfl rfl 1 (by decide) (hG _ wd_41) (fun _ h9 => h9) rfl d_x_open_17 ?_
    refine lv_iload_n hx hb d_x_open_20 rfl (lv_at hl 1 rfl) ?_
    refine lv_iload_n hx hb d_x_open_21 rfl (lv_at hl 2 rfl) ?_
    refine va_zast hx hb hK hP hD hS 6 1 rfl rfl (rl_in (n := 50) (by omega) (by omega)) d_x_open_22 (fun H locs hP hD hS => ?_)
    obtain ⟨F3, eF3⟩ : ∃ G, G = rl_st F 1 jt.toNatClampNeg (vp_nar .boolean jb) := ⟨_, rfl⟩
    have hP : va_P D rl_cl (rl_w a kI kZ F3) H := by rw [eF3]; exact hP
    have hD : va_D A (rl_w a kI kZ F3) := by rw [eF3]; exact hD
    obtain ⟨tF3, hRF3⟩ := rl_keep eF3 (by decide) (by decide) hR
    refine lv_iconst (v := 1) hx hb d_x_open_23 (by decide) ?_
    exact W.iret (v := 1) hx hb hr (fun t ht hW => ⟨⟨1, F3, rfl, ⟨hRF3, (show (((0 ≤ jt.toInt ∧ jt.toInt < (F 27 0).toInt) ∧ (1 : Int32).toInt = 1) ∨ (¬ (0 ≤ jt.toInt ∧ jt.toInt < (F 27 0).toInt) ∧ (1 : Int32).toInt = -1)) ∧ (F3 27 0).toInt = (F 27 0).toInt ∧ (F3 27 1).toInt = (F 27 1).toInt ∧ (F3 27 2).toInt = (F 27 2).toInt ∧ (F3 27 3).toInt = (F 27 3).toInt by have q9 := rl_n1; omega)⟩, ⟨by rw [ht]; exact hP, hD⟩⟩, hS.F ht⟩) hS.2.2 d_x_open_24
  · refine lv_if_ne (tgt := 13) hx hb d_x_open_8 (by decide) (fun c9 => absurd c9 (by decide)) (fun _ => ?_)
    refine lv_iconst (v := (-1)) hx hb d_x_open_11 (by decide) ?_
    exact W.iret (v := (-1)) hx hb hr (fun t ht hW => ⟨⟨(-1), F, rfl, ⟨hR, (show (((0 ≤ jt.toInt ∧ jt.toInt < (F 27 0).toInt) ∧ ((-1) : Int32).toInt = 1) ∨ (¬ (0 ≤ jt.toInt ∧ jt.toInt < (F 27 0).toInt) ∧ ((-1) : Int32).toInt = -1)) ∧ (F 27 0).toInt = (F 27 0).toInt ∧ (F 27 1).toInt = (F 27 1).toInt ∧ (F 27 2).toInt = (F 27 2).toInt ∧ (F 27 3).toInt = (F 27 3).toInt by have q9 := rl_nm1; omega)⟩, ⟨by rw [ht]; exact hP, hD⟩⟩, hS.F ht⟩) hS.2.2 d_x_open_12
set_option maxHeartbeats 4000000 in
set_option maxRecDepth 100000 in
theorem k_x_limit (l : Launch) (D : va_G) (a : Nat → Nat) (kI kZ : ClassId) (F : Nat → Nat → Int32) (jt jk jd jn : Int32) (hI : rl_I F) (sz : Nat) : rl_Ci (S := Nat → Nat → Int32) l ⟨"RightsLimit", "limit", "(IIII)I"⟩ (Cond.code ⟨"RightsLimit", "limit", "(IIII)I"⟩ prog_1_method_4_code 5 (some .int) :: rl_G) { frames := 2, cells := 0, slots := 0, locals := 42 } D rl_cl (rl_tys kI kZ) rl_nw [.ref (a 0), .int jt, .int jk, .int jd, .int jn] (rl_w a kI kZ F) sz (fun (r : Int32) (F' : Nat → Nat → Int32) => rl_R F' ∧ (((0 ≤ jt.toInt ∧ jt.toInt < (F 27 0).toInt) ∧ ((0 ≤ jk.toInt ∧ jk.toInt ≤ 1) ∧ (1 ≤ jd.toInt ∧ jd.toInt ≤ 5000) ∧ (0 ≤ jn.toInt ∧ jn.toInt ≤ 1000)) ∧ (F 27 1).toInt < 100 ∧ r.toInt = (F 27 1).toInt ∧ (F' 27 1).toInt = (F 27 1).toInt + 1 ∧ (F' 27 0).toInt = (F 27 0).toInt ∧ (F' 27 2).toInt = (F 27 2).toInt ∧ (F' 27 3).toInt = (F 27 3).toInt) ∨ ((((0 ≤ jt.toInt ∧ jt.toInt < (F 27 0).toInt) ∧ ((0 ≤ jk.toInt ∧ jk.toInt ≤ 1) ∧ (1 ≤ jd.toInt ∧ jd.toInt ≤ 5000) ∧ (0 ≤ jn.toInt ∧ jn.toInt ≤ 1000)) ∧ 100 ≤ (F 27 1).toInt ∧ r.toInt = -4) ∨ ((0 ≤ jt.toInt ∧ jt.toInt < (F 27 0).toInt) ∧ ¬ ((0 ≤ jk.toInt ∧ jk.toInt ≤ 1) ∧ (1 ≤ jd.toInt ∧ jd.toInt ≤ 5000) ∧ (0 ≤ jn.toInt ∧ jn.toInt ≤ 1000)) ∧ r.toInt = -2) ∨ (¬ (0 ≤ jt.toInt ∧ jt.toInt < (F 27 0).toInt) ∧ r.toInt = -1)) ∧ (F' 27 0).toInt = (F 27 0).toInt ∧ (F' 27 1).toInt = (F 27 1).toInt ∧ (F' 27 2).toInt = (F 27 2).toInt ∧ (F' 27 3).toInt = (F 27 3).toInt))) (fun F' => rl_w a kI kZ F') 0 0 := by
  refine rl_meti (cc := prog_1_method_4_code) (maxL := 5) (ret := (some .int)) (by decide) rfl (Nat.le_of_ble_eq_true rfl) ?_
  intro p e s m below meth c A ls hx hb hr hml hown hts hlocks hnm hP hK hD hS hA hN hl
  have hown : s.vm.findClass "RightsLimit" = some m.cls := hown
  have hG : ∀ x ∈ rl_G, x.before _ s = true := fun x h => hts x (List.mem_cons_of_mem _ h)
  have hl : lv_has ls 5 [(0, .ref (a 0)), (1, .int jt), (2, .int jk), (3, .int jd), (4, .int jn)] := hl
  obtain ⟨hcnt, hR⟩ := id hI
  refine lv_aload_n hx hb d_x_limit_0 rfl (lv_at hl 0 rfl) ?_
  refine va_get (D := D) (ci := 0) (v := .ref (a 1)) (C := "RightsLimit") (T := fT_x) (N := 8) hx hb hG fi_x hown hK hP 0 rfl rfl 0 (by decide) (hG _ wd_168) (fun _ h9 => h9) rfl d_x_limit_1 ?_
  refine lv_iload_n hx hb d_x_limit_4 rfl (lv_at hl 1 rfl) ?_
  have hpre := rl_BR.pre (av := .ref (a 1) :: [.int jt]) rl_nw_ok hP hK hN
  refine rl_callr hS (va_runV (As := [.int jt]) (rest := []) ⟨hx, hb, hml, hown, hG⟩ (k_t_has l D a kI kZ F jt ⟨by omega, hR⟩ _) (cwV 1 hG (rl_gV wd_211 wd_212 wd_213 wd_15 wd_214) rfl rfl rfl (by decide +kernel) ⟨Nat.le_of_ble_eq_true rfl, Nat.le_of_ble_eq_true rfl⟩) ⟨hpre.1, (va_recv hK hP (ci := 1) (q0 := 1) rfl rfl), hpre.2⟩ rfl rfl hl.1 rfl (lv_room (Nat.le_of_ble_eq_true rfl)) d_x_limit_5 ⟨Nat.le_of_ble_eq_true rfl, Nat.le_of_ble_eq_true rfl⟩) (fun r1 locs hw hS => ?_)
  rcases hw with ⟨rfl, h2⟩ | ⟨rfl, h2⟩
  · refine lv_if_ne (tgt := 13) hx hb d_x_limit_8 (by decide) (fun _ => ?_) (fun c9 => absurd c9 (by decide))
    refine lv_iload_n hx hb d_x_limit_13 rfl (lv_at hl 2 rfl) ?_
    refine rl_callr hS (va_runS (As := [.int jk]) (rest := []) ⟨hx, hb, hml, hown, hG⟩ (k_x_isKind l D a kI kZ jk _) (cwS 1 hG (rl_gS wd_219 wd_220 wd_14 wd_221) rfl rfl rfl (by decide +kernel) ⟨Nat.le_of_ble_eq_true rfl, Nat.le_of_ble_eq_true rfl⟩) (rl_BR.pre rl_nw_ok rl_P0 hK hN) rfl rfl hl.1 rfl (lv_room (Nat.le_of_ble_eq_true rfl)) d_x_limit_14 ⟨Nat.le_of_ble_eq_true rfl, Nat.le_of_ble_eq_true rfl⟩) (fun r3 locs hw hS => ?_)
    rcases hw with ⟨rfl, h4⟩ | ⟨rfl, h4⟩
    · refine lv_if_eq (tgt := 35) hx hb d_x_limit_17 (by decide) (fun c9 => absurd c9 (by decide)) (fun _ => ?_)
      refine lv_iload_n hx hb d_x_limit_20 rfl (lv_at hl 3 rfl) ?_
      refine rl_callr hS (va_runS (As := [.int jd]) (rest := []) ⟨hx, hb, hml, hown, hG⟩ (k_x_isDays l D a kI kZ jd _) (cwS 1 hG (rl_gS wd_222 wd_223 wd_14 wd_224) rfl rfl rfl (by decide +kernel) ⟨Nat.le_of_ble_eq_true rfl, Nat.le_of_ble_eq_true rfl⟩) (rl_BR.pre rl_nw_ok rl_P0 hK hN) rfl rfl hl.1 rfl (lv_room (Nat.le_of_ble_eq_true rfl)) d_x_limit_21 ⟨Nat.le_of_ble_eq_true rfl, Nat.le_of_ble_eq_true rfl⟩) (fun r5 locs hw hS => ?_)
      rcases hw with ⟨rfl, h6⟩ | ⟨rfl, h6⟩
      · refine lv_if_eq (tgt := 35) hx hb d_x_limit_24 (by decide) (fun c9 => absurd c9 (by decide)) (fun _ => ?_)
        refine lv_iload hx hb d_x_limit_27 (lv_at hl 4 rfl) ?_
        refine rl_callr hS (va_runS (As := [.int jn]) (rest := []) ⟨hx, hb, hml, hown, hG⟩ (k_x_isCopies l D a kI kZ jn _) (cwS 1 hG (rl_gS wd_225 wd_226 wd_14 wd_227) rfl rfl rfl (by decide +kernel) ⟨Nat.le_of_ble_eq_true rfl, Nat.le_of_ble_eq_true rfl⟩) (rl_BR.pre rl_nw_ok rl_P0 hK hN) rfl rfl hl.1 rfl (lv_room (Nat.le_of_ble_eq_true rfl)) d_x_limit_29 ⟨Nat.le_of_ble_eq_true rfl, Nat.le_of_ble_eq_true rfl⟩) (fun r7 locs hw hS => ?_)
        rcases hw with ⟨rfl, h8⟩ | ⟨rfl, h8⟩
        · refine lv_if_ne (tgt := 38) hx hb d_x_limit_32 (by decide) (fun _ => ?_) (fun c9 => absurd c9 (by decide))
          refine lv_aload_n hx hb d_x_limit_38 rfl (lv_at hl 0 rfl) ?_
          refine va_get (D := D) (ci := 0) (v := .ref (a 2)) (C := "RightsLimit") (T := fT_x) (N := 8) hx hb hG fi_x hown hK hP 0 rfl rfl 1 (by decide) (hG _ wd_169) (fun _ h9 => h9) rfl d_x_limit_39 ?_
          refine lv_iload_n hx hb d_x_limit_42 rfl (lv_at hl 1 rfl) ?_
          refine lv_iload_n hx hb d_x_limit_43 rfl (lv_at hl 2 rfl) ?_
          refine lv_iload_n hx hb d_x_limit_44 rfl (lv_at hl 3 rfl) ?_
          refine lv_iload hx hb d_x_limit_45 (lv_at hl 4 rfl) ?_
          have hpre := rl_B.pre (av := .ref (a 2) :: [.int jt, .int jk, .int jd, .int jn]) rl_nw_ok hP hK hD hN
          refine rl_calli0 hP hD hS hA (va_runV (As := [.int jt, .int jk, .int jd, .int jn]) (rest := []) ⟨hx, hb, hml, hown, hG⟩ (k_l_add l D a kI kZ F jt jk jd jn ⟨by omega, hR⟩ _) (cwV 4 hG (rl_gV wd_228 wd_229 wd_230 wd_16 wd_231) rfl rfl rfl (by decide +kernel) ⟨Nat.le_of_ble_eq_true rfl, Nat.le_of_ble_eq_true rfl⟩) ⟨hpre.1, (va_recv hK hP (ci := 2) (q0 := 2) rfl rfl), hpre.2⟩ rfl rfl hl.1 rfl (lv_room (Nat.le_of_ble_eq_true rfl)) d_x_limit_47 ⟨Nat.le_of_ble_eq_true rfl, Nat.le_of_ble_eq_true rfl⟩) (fun r9 F10 H locs hw hP hD hS => ?_)
          have hP : va_P D rl_cl (rl_w a kI kZ F10) H := hP
          have hD : va_D A (rl_w a kI kZ F10) := hD
          obtain ⟨hRF10, hw⟩ := hw
          have hwr9 := hw
          exact W.iret (v := r9) hx hb hr (fun t ht hW => ⟨⟨r9, F10, rfl, ⟨hRF10, (show ((0 ≤ jt.toInt ∧ jt.toInt < (F 27 0).toInt) ∧ ((0 ≤ jk.toInt ∧ jk.toInt ≤ 1) ∧ (1 ≤ jd.toInt ∧ jd.toInt ≤ 5000) ∧ (0 ≤ jn.toInt ∧ jn.toInt ≤ 1000)) ∧ (F 27 1).toInt < 100 ∧ r9.toInt = (F 27 1).toInt ∧ (F10 27 1).toInt = (F 27 1).toInt + 1 ∧ (F10 27 0).toInt = (F 27 0).toInt ∧ (F10 27 2).toInt = (F 27 2).toInt ∧ (F10 27 3).toInt = (F 27 3).toInt) ∨ ((((0 ≤ jt.toInt ∧ jt.toInt < (F 27 0).toInt) ∧ ((0 ≤ jk.toInt ∧ jk.toInt ≤ 1) ∧ (1 ≤ jd.toInt ∧ jd.toInt ≤ 5000) ∧ (0 ≤ jn.toInt ∧ jn.toInt ≤ 1000)) ∧ 100 ≤ (F 27 1).toInt ∧ r9.toInt = -4) ∨ ((0 ≤ jt.toInt ∧ jt.toInt < (F 27 0).toInt) ∧ ¬ ((0 ≤ jk.toInt ∧ jk.toInt ≤ 1) ∧ (1 ≤ jd.toInt ∧ jd.toInt ≤ 5000) ∧ (0 ≤ jn.toInt ∧ jn.toInt ≤ 1000)) ∧ r9.toInt = -2) ∨ (¬ (0 ≤ jt.toInt ∧ jt.toInt < (F 27 0).toInt) ∧ r9.toInt = -1)) ∧ (F10 27 0).toInt = (F 27 0).toInt ∧ (F10 27 1).toInt = (F 27 1).toInt ∧ (F10 27 2).toInt = (F 27 2).toInt ∧ (F10 27 3).toInt = (F 27 3).toInt) by omega)⟩, ⟨by rw [ht]; exact hP, hD⟩⟩, hS.F ht⟩) hS.2.2 d_x_limit_50
        · refine lv_if_ne (tgt := 38) hx hb d_x_limit_32 (by decide) (fun c9 => absurd c9 (by decide)) (fun _ => ?_)
          refine lv_bipush (v := (-2)) hx hb d_x_limit_35 (by decide) ?_
          exact W.iret (v := (-2)) hx hb hr (fun t ht hW => ⟨⟨(-2), F, rfl, ⟨hR, (show ((0 ≤ jt.toInt ∧ jt.toInt < (F 27 0).toInt) ∧ ((0 ≤ jk.toInt ∧ jk.toInt ≤ 1) ∧ (1 ≤ jd.toInt ∧ jd.toInt ≤ 5000) ∧ (0 ≤ jn.toInt ∧ jn.toInt ≤ 1000)) ∧ (F 27 1).toInt < 100 ∧ ((-2) : Int32).toInt = (F 27 1).toInt ∧ (F 27 1).toInt = (F 27 1).toInt + 1 ∧ (F 27 0).toInt = (F 27 0).toInt ∧ (F 27 2).toInt = (F 27 2).toInt ∧ (F 27 3).toInt = (F 27 3).toInt) ∨ ((((0 ≤ jt.toInt ∧ jt.toInt < (F 27 0).toInt) ∧ ((0 ≤ jk.toInt ∧ jk.toInt ≤ 1) ∧ (1 ≤ jd.toInt ∧ jd.toInt ≤ 5000) ∧ (0 ≤ jn.toInt ∧ jn.toInt ≤ 1000)) ∧ 100 ≤ (F 27 1).toInt ∧ ((-2) : Int32).toInt = -4) ∨ ((0 ≤ jt.toInt ∧ jt.toInt < (F 27 0).toInt) ∧ ¬ ((0 ≤ jk.toInt ∧ jk.toInt ≤ 1) ∧ (1 ≤ jd.toInt ∧ jd.toInt ≤ 5000) ∧ (0 ≤ jn.toInt ∧ jn.toInt ≤ 1000)) ∧ ((-2) : Int32).toInt = -2) ∨ (¬ (0 ≤ jt.toInt ∧ jt.toInt < (F 27 0).toInt) ∧ ((-2) : Int32).toInt = -1)) ∧ (F 27 0).toInt = (F 27 0).toInt ∧ (F 27 1).toInt = (F 27 1).toInt ∧ (F 27 2).toInt = (F 27 2).toInt ∧ (F 27 3).toInt = (F 27 3).toInt) by have q9 := rl_nm2; omega)⟩, ⟨by rw [ht]; exact hP, hD⟩⟩, hS.F ht⟩) hS.2.2 d_x_limit_37
      · refine lv_if_eq (tgt := 35) hx hb d_x_limit_24 (by decide) (fun _ => ?_) (fun c9 => absurd c9 (by decide))
        refine lv_bipush (v := (-2)) hx hb d_x_limit_35 (by decide) ?_
        exact W.iret (v := (-2)) hx hb hr (fun t ht hW => ⟨⟨(-2), F, rfl, ⟨hR, (show ((0 ≤ jt.toInt ∧ jt.toInt < (F 27 0).toInt) ∧ ((0 ≤ jk.toInt ∧ jk.toInt ≤ 1) ∧ (1 ≤ jd.toInt ∧ jd.toInt ≤ 5000) ∧ (0 ≤ jn.toInt ∧ jn.toInt ≤ 1000)) ∧ (F 27 1).toInt < 100 ∧ ((-2) : Int32).toInt = (F 27 1).toInt ∧ (F 27 1).toInt = (F 27 1).toInt + 1 ∧ (F 27 0).toInt = (F 27 0).toInt ∧ (F 27 2).toInt = (F 27 2).toInt ∧ (F 27 3).toInt = (F 27 3).toInt) ∨ ((((0 ≤ jt.toInt ∧ jt.toInt < (F 27 0).toInt) ∧ ((0 ≤ jk.toInt ∧ jk.toInt ≤ 1) ∧ (1 ≤ jd.toInt ∧ jd.toInt ≤ 5000) ∧ (0 ≤ jn.toInt ∧ jn.toInt ≤ 1000)) ∧ 100 ≤ (F 27 1).toInt ∧ ((-2) : Int32).toInt = -4) ∨ ((0 ≤ jt.toInt ∧ jt.toInt < (F 27 0).toInt) ∧ ¬ ((0 ≤ jk.toInt ∧ jk.toInt ≤ 1) ∧ (1 ≤ jd.toInt ∧ jd.toInt ≤ 5000) ∧ (0 ≤ jn.toInt ∧ jn.toInt ≤ 1000)) ∧ ((-2) : Int32).toInt = -2) ∨ (¬ (0 ≤ jt.toInt ∧ jt.toInt < (F 27 0).toInt) ∧ ((-2) : Int32).toInt = -1)) ∧ (F 27 0).toInt = (F 27 0).toInt ∧ (F 27 1).toInt = (F 27 1).toInt ∧ (F 27 2).toInt = (F 27 2).toInt ∧ (F 27 3).toInt = (F 27 3).toInt) by have q9 := rl_nm2; omega)⟩, ⟨by rw [ht]; exact hP, hD⟩⟩, hS.F ht⟩) hS.2.2 d_x_limit_37
    · refine lv_if_eq (tgt := 35) hx hb d_x_limit_17 (by decide) (fun _ => ?_) (fun c9 => absurd c9 (by decide))
      refine lv_bipush (v := (-2)) hx hb d_x_limit_35 (by decide) ?_
      exact W.iret (v := (-2)) hx hb hr (fun t ht hW => ⟨⟨(-2), F, rfl, ⟨hR, (show ((0 ≤ jt.toInt ∧ jt.toInt < (F 27 0).toInt) ∧ ((0 ≤ jk.toInt ∧ jk.toInt ≤ 1) ∧ (1 ≤ jd.toInt ∧ jd.toInt ≤ 5000) ∧ (0 ≤ jn.toInt ∧ jn.toInt ≤ 1000)) ∧ (F 27 1).toInt < 100 ∧ ((-2) : Int32).toInt = (F 27 1).toInt ∧ (F 27 1).toInt = (F 27 1).toInt + 1 ∧ (F 27 0).toInt = (F 27 0).toInt ∧ (F 27 2).toInt = (F 27 2).toInt ∧ (F 27 3).toInt = (F 27 3).toInt) ∨ ((((0 ≤ jt.toInt ∧ jt.toInt < (F 27 0).toInt) ∧ ((0 ≤ jk.toInt ∧ jk.toInt ≤ 1) ∧ (1 ≤ jd.toInt ∧ jd.toInt ≤ 5000) ∧ (0 ≤ jn.toInt ∧ jn.toInt ≤ 1000)) ∧ 100 ≤ (F 27 1).toInt ∧ ((-2) : Int32).toInt = -4) ∨ ((0 ≤ jt.toInt ∧ jt.toInt < (F 27 0).toInt) ∧ ¬ ((0 ≤ jk.toInt ∧ jk.toInt ≤ 1) ∧ (1 ≤ jd.toInt ∧ jd.toInt ≤ 5000) ∧ (0 ≤ jn.toInt ∧ jn.toInt ≤ 1000)) ∧ ((-2) : Int32).toInt = -2) ∨ (¬ (0 ≤ jt.toInt ∧ jt.toInt < (F 27 0).toInt) ∧ ((-2) : Int32).toInt = -1)) ∧ (F 27 0).toInt = (F 27 0).toInt ∧ (F 27 1).toInt = (F 27 1).toInt ∧ (F 27 2).toInt = (F 27 2).toInt ∧ (F 27 3).toInt = (F 27 3).toInt) by have q9 := rl_nm2; omega)⟩, ⟨by rw [ht]; exact hP, hD⟩⟩, hS.F ht⟩) hS.2.2 d_x_limit_37
  · refine lv_if_ne (tgt := 13) hx hb d_x_limit_8 (by decide) (fun c9 => absurd c9 (by decide)) (fun _ => ?_)
    refine lv_iconst (v := (-1)) hx hb d_x_limit_11 (by decide) ?_
    exact W.iret (v := (-1)) hx hb hr (fun t ht hW => ⟨⟨(-1), F, rfl, ⟨hR, (show ((0 ≤ jt.toInt ∧ jt.toInt < (F 27 0).toInt) ∧ ((0 ≤ jk.toInt ∧ jk.toInt ≤ 1) ∧ (1 ≤ jd.toInt ∧ jd.toInt ≤ 5000) ∧ (0 ≤ jn.toInt ∧ jn.toInt ≤ 1000)) ∧ (F 27 1).toInt < 100 ∧ ((-1) : Int32).toInt = (F 27 1).toInt ∧ (F 27 1).toInt = (F 27 1).toInt + 1 ∧ (F 27 0).toInt = (F 27 0).toInt ∧ (F 27 2).toInt = (F 27 2).toInt ∧ (F 27 3).toInt = (F 27 3).toInt) ∨ ((((0 ≤ jt.toInt ∧ jt.toInt < (F 27 0).toInt) ∧ ((0 ≤ jk.toInt ∧ jk.toInt ≤ 1) ∧ (1 ≤ jd.toInt ∧ jd.toInt ≤ 5000) ∧ (0 ≤ jn.toInt ∧ jn.toInt ≤ 1000)) ∧ 100 ≤ (F 27 1).toInt ∧ ((-1) : Int32).toInt = -4) ∨ ((0 ≤ jt.toInt ∧ jt.toInt < (F 27 0).toInt) ∧ ¬ ((0 ≤ jk.toInt ∧ jk.toInt ≤ 1) ∧ (1 ≤ jd.toInt ∧ jd.toInt ≤ 5000) ∧ (0 ≤ jn.toInt ∧ jn.toInt ≤ 1000)) ∧ ((-1) : Int32).toInt = -2) ∨ (¬ (0 ≤ jt.toInt ∧ jt.toInt < (F 27 0).toInt) ∧ ((-1) : Int32).toInt = -1)) ∧ (F 27 0).toInt = (F 27 0).toInt ∧ (F 27 1).toInt = (F 27 1).toInt ∧ (F 27 2).toInt = (F 27 2).toInt ∧ (F 27 3).toInt = (F 27 3).toInt) by have q9 := rl_nm1; omega)⟩, ⟨by rw [ht]; exact hP, hD⟩⟩, hS.F ht⟩) hS.2.2 d_x_limit_12
set_option maxHeartbeats 4000000 in
set_option maxRecDepth 100000 in
theorem k_x_licence (l : Launch) (D : va_G) (a : Nat → Nat) (kI kZ : ClassId) (F : Nat → Nat → Int32) (jt jk jn ju jv : Int32) (hI : rl_I F) (sz : Nat) : rl_Ci (S := Nat → Nat → Int32) l ⟨"RightsLimit", "licence", "(IIIII)I"⟩ (Cond.code ⟨"RightsLimit", "licence", "(IIIII)I"⟩ prog_1_method_5_code 6 (some .int) :: rl_G) { frames := 2, cells := 0, slots := 0, locals := 42 } D rl_cl (rl_tys kI kZ) rl_nw [.ref (a 0), .int jt, .int jk, .int jn, .int ju, .int jv] (rl_w a kI kZ F) sz (fun (r : Int32) (F' : Nat → Nat → Int32) => rl_R F' ∧ (((0 ≤ jt.toInt ∧ jt.toInt < (F 27 0).toInt) ∧ ((0 ≤ jk.toInt ∧ jk.toInt ≤ 1) ∧ (0 ≤ jn.toInt ∧ jn.toInt ≤ 1000) ∧ (0 ≤ ju.toInt ∧ ju.toInt ≤ 1000000000) ∧ (0 ≤ jv.toInt ∧ jv.toInt ≤ 1000000000) ∧ ju.toInt ≤ jv.toInt) ∧ (F 27 2).toInt < 50 ∧ r.toInt = (F 27 2).toInt ∧ (F' 27 2).toInt = (F 27 2).toInt + 1 ∧ (F' 27 0).toInt = (F 27 0).toInt ∧ (F' 27 1).toInt = (F 27 1).toInt ∧ (F' 27 3).toInt = (F 27 3).toInt) ∨ ((((0 ≤ jt.toInt ∧ jt.toInt < (F 27 0).toInt) ∧ ((0 ≤ jk.toInt ∧ jk.toInt ≤ 1) ∧ (0 ≤ jn.toInt ∧ jn.toInt ≤ 1000) ∧ (0 ≤ ju.toInt ∧ ju.toInt ≤ 1000000000) ∧ (0 ≤ jv.toInt ∧ jv.toInt ≤ 1000000000) ∧ ju.toInt ≤ jv.toInt) ∧ 50 ≤ (F 27 2).toInt ∧ r.toInt = -4) ∨ ((0 ≤ jt.toInt ∧ jt.toInt < (F 27 0).toInt) ∧ ¬ ((0 ≤ jk.toInt ∧ jk.toInt ≤ 1) ∧ (0 ≤ jn.toInt ∧ jn.toInt ≤ 1000) ∧ (0 ≤ ju.toInt ∧ ju.toInt ≤ 1000000000) ∧ (0 ≤ jv.toInt ∧ jv.toInt ≤ 1000000000) ∧ ju.toInt ≤ jv.toInt) ∧ r.toInt = -2) ∨ (¬ (0 ≤ jt.toInt ∧ jt.toInt < (F 27 0).toInt) ∧ r.toInt = -1)) ∧ (F' 27 0).toInt = (F 27 0).toInt ∧ (F' 27 1).toInt = (F 27 1).toInt ∧ (F' 27 2).toInt = (F 27 2).toInt ∧ (F' 27 3).toInt = (F 27 3).toInt))) (fun F' => rl_w a kI kZ F') 0 0 := by
  refine rl_meti (cc := prog_1_method_5_code) (maxL := 6) (ret := (some .int)) (by decide) rfl (Nat.le_of_ble_eq_true rfl) ?_
  intro p e s m below meth c A ls hx hb hr hml hown hts hlocks hnm hP hK hD hS hA hN hl
  have hown : s.vm.findClass "RightsLimit" = some m.cls := hown
  have hG : ∀ x ∈ rl_G, x.before _ s = true := fun x h => hts x (List.mem_cons_of_mem _ h)
  have hl : lv_has ls 6 [(0, .ref (a 0)), (1, .int jt), (2, .int jk), (3, .int jn), (4, .int ju), (5, .int jv)] := hl
  obtain ⟨hcnt, hR⟩ := id hI
  refine lv_aload_n hx hb d_x_licence_0 rfl (lv_at hl 0 rfl) ?_
  refine va_get (D := D) (ci := 0) (v := .ref (a 1)) (C := "RightsLimit") (T := fT_x) (N := 8) hx hb hG fi_x hown hK hP 0 rfl rfl 0 (by decide) (hG _ wd_168) (fun _ h9 => h9) rfl d_x_licence_1 ?_
  refine lv_iload_n hx hb d_x_licence_4 rfl (lv_at hl 1 rfl) ?_
  have hpre := rl_BR.pre (av := .ref (a 1) :: [.int jt]) rl_nw_ok hP hK hN
  refine rl_callr hS (va_runV (As := [.int jt]) (rest := []) ⟨hx, hb, hml, hown, hG⟩ (k_t_has l D a kI kZ F jt ⟨by omega, hR⟩ _) (cwV 1 hG (rl_gV wd_211 wd_212 wd_213 wd_15 wd_214) rfl rfl rfl (by decide +kernel) ⟨Nat.le_of_ble_eq_true rfl, Nat.le_of_ble_eq_true rfl⟩) ⟨hpre.1, (va_recv hK hP (ci := 1) (q0 := 1) rfl rfl), hpre.2⟩ rfl rfl hl.1 rfl (lv_room (Nat.le_of_ble_eq_true rfl)) d_x_licence_5 ⟨Nat.le_of_ble_eq_true rfl, Nat.le_of_ble_eq_true rfl⟩) (fun r1 locs hw hS => ?_)
  rcases hw with ⟨rfl, h2⟩ | ⟨rfl, h2⟩
  · refine lv_if_ne (tgt := 13) hx hb d_x_licence_8 (by decide) (fun _ => ?_) (fun c9 => absurd c9 (by decide))
    refine lv_iload_n hx hb d_x_licence_13 rfl (lv_at hl 2 rfl) ?_
    refine rl_callr hS (va_runS (As := [.int jk]) (rest := []) ⟨hx, hb, hml, hown, hG⟩ (k_x_isKind l D a kI kZ jk _) (cwS 1 hG (rl_gS wd_219 wd_220 wd_14 wd_221) rfl rfl rfl (by decide +kernel) ⟨Nat.le_of_ble_eq_true rfl, Nat.le_of_ble_eq_true rfl⟩) (rl_BR.pre rl_nw_ok rl_P0 hK hN) rfl rfl hl.1 rfl (lv_room (Nat.le_of_ble_eq_true rfl)) d_x_licence_14 ⟨Nat.le_of_ble_eq_true rfl, Nat.le_of_ble_eq_true rfl⟩) (fun r3 locs hw hS => ?_)
    rcases hw with ⟨rfl, h4⟩ | ⟨rfl, h4⟩
    · refine lv_if_eq (tgt := 50) hx hb d_x_licence_17 (by decide) (fun c9 => absurd c9 (by decide)) (fun _ => ?_)
      refine lv_iload_n hx hb d_x_licence_20 rfl (lv_at hl 3 rfl) ?_
      refine rl_callr hS (va_runS (As := [.int jn]) (rest := []) ⟨hx, hb, hml, hown, hG⟩ (k_x_isCopies l D a kI kZ jn _) (cwS 1 hG (rl_gS wd_225 wd_226 wd_14 wd_227) rfl rfl rfl (by decide +kernel) ⟨Nat.le_of_ble_eq_true rfl, Nat.le_of_ble_eq_true rfl⟩) (rl_BR.pre rl_nw_ok rl_P0 hK hN) rfl rfl hl.1 rfl (lv_room (Nat.le_of_ble_eq_true rfl)) d_x_licence_21 ⟨Nat.le_of_ble_eq_true rfl, Nat.le_of_ble_eq_true rfl⟩) (fun r5 locs hw hS => ?_)
      rcases hw with ⟨rfl, h6⟩ | ⟨rfl, h6⟩
      · refine lv_if_eq (tgt := 50) hx hb d_x_licence_24 (by decide) (fun c9 => absurd c9 (by decide)) (fun _ => ?_)
        refine lv_iload hx hb d_x_licence_27 (lv_at hl 4 rfl) ?_
        refine rl_callr hS (va_runS (As := [.int ju]) (rest := []) ⟨hx, hb, hml, hown, hG⟩ (k_x_isTime l D a kI kZ ju _) (cwS 1 hG (rl_gS wd_236 wd_237 wd_14 wd_238) rfl rfl rfl (by decide +kernel) ⟨Nat.le_of_ble_eq_true rfl, Nat.le_of_ble_eq_true rfl⟩) (rl_BR.pre rl_nw_ok rl_P0 hK hN) rfl rfl hl.1 rfl (lv_room (Nat.le_of_ble_eq_true rfl)) d_x_licence_29 ⟨Nat.le_of_ble_eq_true rfl, Nat.le_of_ble_eq_true rfl⟩) (fun r7 locs hw hS => ?_)
        rcases hw with ⟨rfl, h8⟩ | ⟨rfl, h8⟩
        · refine lv_if_eq (tgt := 50) hx hb d_x_licence_32 (by decide) (fun c9 => absurd c9 (by decide)) (fun _ => ?_)
          refine lv_iload hx hb d_x_licence_35 (lv_at hl 5 rfl) ?_
          refine rl_callr hS (va_runS (As := [.int jv]) (rest := []) ⟨hx, hb, hml, hown, hG⟩ (k_x_isTime l D a kI kZ jv _) (cwS 1 hG (rl_gS wd_236 wd_237 wd_14 wd_238) rfl rfl rfl (by decide +kernel) ⟨Nat.le_of_ble_eq_true rfl, Nat.le_of_ble_eq_true rfl⟩) (rl_BR.pre rl_nw_ok rl_P0 hK hN) rfl rfl hl.1 rfl (lv_room (Nat.le_of_ble_eq_true rfl)) d_x_licence_37 ⟨Nat.le_of_ble_eq_true rfl, Nat.le_of_ble_eq_true rfl⟩) (fun r9 locs hw hS => ?_)
          rcases hw with ⟨rfl, h10⟩ | ⟨rfl, h10⟩
          · refine lv_if_eq (tgt := 50) hx hb d_x_licence_40 (by decide) (fun c9 => absurd c9 (by decide)) (fun _ => ?_)
            refine lv_iload hx hb d_x_licence_43 (lv_at hl 4 rfl) ?_
            refine lv_iload hx hb d_x_licence_45 (lv_at hl 5 rfl) ?_
            refine lv_icmp_le (tgt := 53) hx hb d_x_licence_47 (by decide) (fun c11 => ?_) (fun c11 => ?_)
            · have ic11 := rl_ile c11
              refine lv_aload_n hx hb d_x_licence_53 rfl (lv_at hl 0 rfl) ?_
              refine va_get (D := D) (ci := 0) (v := .ref (a 3)) (C := "RightsLimit") (T := fT_x) (N := 8) hx hb hG fi_x hown hK hP 0 rfl rfl 2 (by decide) (hG _ wd_170) (fun _ h9 => h9) rfl d_x_licence_54 ?_
              refine lv_iload_n hx hb d_x_licence_57 rfl (lv_at hl 1 rfl) ?_
              refine lv_iload_n hx hb d_x_licence_58 rfl (lv_at hl 2 rfl) ?_
              refine lv_iload_n hx hb d_x_licence_59 rfl (lv_at hl 3 rfl) ?_
              refine lv_iload hx hb d_x_licence_60 (lv_at hl 4 rfl) ?_
              refine lv_iload hx hb d_x_licence_62 (lv_at hl 5 rfl) ?_
              have hpre := rl_B.pre (av := .ref (a 3) :: [.int jt, .int jk, .int jn, .int ju, .int jv]) rl_nw_ok hP hK hD hN
              refine rl_calli0 hP hD hS hA (va_runV (As := [.int jt, .int jk, .int jn, .int ju, .int jv]) (rest := []) ⟨hx, hb, hml, hown, hG⟩ (k_c_add l D a kI kZ F jt jk jn ju jv ⟨by omega, hR⟩ _) (cwV 5 hG (rl_gV wd_240 wd_241 wd_242 wd_17 wd_243) rfl rfl rfl (by decide +kernel) ⟨Nat.le_of_ble_eq_true rfl, Nat.le_of_ble_eq_true rfl⟩) ⟨hpre.1, (va_recv hK hP (ci := 3) (q0 := 3) rfl rfl), hpre.2⟩ rfl rfl hl.1 rfl (lv_room (Nat.le_of_ble_eq_true rfl)) d_x_licence_64 ⟨Nat.le_of_ble_eq_true rfl, Nat.le_of_ble_eq_true rfl⟩) (fun r12 F13 H locs hw hP hD hS => ?_)
              have hP : va_P D rl_cl (rl_w a kI kZ F13) H := hP
              have hD : va_D A (rl_w a kI kZ F13) := hD
              obtain ⟨hRF13, hw⟩ := hw
              have hwr12 := hw
              exact W.iret (v := r12) hx hb hr (fun t ht hW => ⟨⟨r12, F13, rfl, ⟨hRF13, (show ((0 ≤ jt.toInt ∧ jt.toInt < (F 27 0).toInt) ∧ ((0 ≤ jk.toInt ∧ jk.toInt ≤ 1) ∧ (0 ≤ jn.toInt ∧ jn.toInt ≤ 1000) ∧ (0 ≤ ju.toInt ∧ ju.toInt ≤ 1000000000) ∧ (0 ≤ jv.toInt ∧ jv.toInt ≤ 1000000000) ∧ ju.toInt ≤ jv.toInt) ∧ (F 27 2).toInt < 50 ∧ r12.toInt = (F 27 2).toInt ∧ (F13 27 2).toInt = (F 27 2).toInt + 1 ∧ (F13 27 0).toInt = (F 27 0).toInt ∧ (F13 27 1).toInt = (F 27 1).toInt ∧ (F13 27 3).toInt = (F 27 3).toInt) ∨ ((((0 ≤ jt.toInt ∧ jt.toInt < (F 27 0).toInt) ∧ ((0 ≤ jk.toInt ∧ jk.toInt ≤ 1) ∧ (0 ≤ jn.toInt ∧ jn.toInt ≤ 1000) ∧ (0 ≤ ju.toInt ∧ ju.toInt ≤ 1000000000) ∧ (0 ≤ jv.toInt ∧ jv.toInt ≤ 1000000000) ∧ ju.toInt ≤ jv.toInt) ∧ 50 ≤ (F 27 2).toInt ∧ r12.toInt = -4) ∨ ((0 ≤ jt.toInt ∧ jt.toInt < (F 27 0).toInt) ∧ ¬ ((0 ≤ jk.toInt ∧ jk.toInt ≤ 1) ∧ (0 ≤ jn.toInt ∧ jn.toInt ≤ 1000) ∧ (0 ≤ ju.toInt ∧ ju.toInt ≤ 1000000000) ∧ (0 ≤ jv.toInt ∧ jv.toInt ≤ 1000000000) ∧ ju.toInt ≤ jv.toInt) ∧ r12.toInt = -2) ∨ (¬ (0 ≤ jt.toInt ∧ jt.toInt < (F 27 0).toInt) ∧ r12.toInt = -1)) ∧ (F13 27 0).toInt = (F 27 0).toInt ∧ (F13 27 1).toInt = (F 27 1).toInt ∧ (F13 27 2).toInt = (F 27 2).toInt ∧ (F13 27 3).toInt = (F 27 3).toInt) by omega)⟩, ⟨by rw [ht]; exact hP, hD⟩⟩, hS.F ht⟩) hS.2.2 d_x_licence_67
            · have ic11 := rl_inle c11
              refine lv_bipush (v := (-2)) hx hb d_x_licence_50 (by decide) ?_
              exact W.iret (v := (-2)) hx hb hr (fun t ht hW => ⟨⟨(-2), F, rfl, ⟨hR, (show ((0 ≤ jt.toInt ∧ jt.toInt < (F 27 0).toInt) ∧ ((0 ≤ jk.toInt ∧ jk.toInt ≤ 1) ∧ (0 ≤ jn.toInt ∧ jn.toInt ≤ 1000) ∧ (0 ≤ ju.toInt ∧ ju.toInt ≤ 1000000000) ∧ (0 ≤ jv.toInt ∧ jv.toInt ≤ 1000000000) ∧ ju.toInt ≤ jv.toInt) ∧ (F 27 2).toInt < 50 ∧ ((-2) : Int32).toInt = (F 27 2).toInt ∧ (F 27 2).toInt = (F 27 2).toInt + 1 ∧ (F 27 0).toInt = (F 27 0).toInt ∧ (F 27 1).toInt = (F 27 1).toInt ∧ (F 27 3).toInt = (F 27 3).toInt) ∨ ((((0 ≤ jt.toInt ∧ jt.toInt < (F 27 0).toInt) ∧ ((0 ≤ jk.toInt ∧ jk.toInt ≤ 1) ∧ (0 ≤ jn.toInt ∧ jn.toInt ≤ 1000) ∧ (0 ≤ ju.toInt ∧ ju.toInt ≤ 1000000000) ∧ (0 ≤ jv.toInt ∧ jv.toInt ≤ 1000000000) ∧ ju.toInt ≤ jv.toInt) ∧ 50 ≤ (F 27 2).toInt ∧ ((-2) : Int32).toInt = -4) ∨ ((0 ≤ jt.toInt ∧ jt.toInt < (F 27 0).toInt) ∧ ¬ ((0 ≤ jk.toInt ∧ jk.toInt ≤ 1) ∧ (0 ≤ jn.toInt ∧ jn.toInt ≤ 1000) ∧ (0 ≤ ju.toInt ∧ ju.toInt ≤ 1000000000) ∧ (0 ≤ jv.toInt ∧ jv.toInt ≤ 1000000000) ∧ ju.toInt ≤ jv.toInt) ∧ ((-2) : Int32).toInt = -2) ∨ (¬ (0 ≤ jt.toInt ∧ jt.toInt < (F 27 0).toInt) ∧ ((-2) : Int32).toInt = -1)) ∧ (F 27 0).toInt = (F 27 0).toInt ∧ (F 27 1).toInt = (F 27 1).toInt ∧ (F 27 2).toInt = (F 27 2).toInt ∧ (F 27 3).toInt = (F 27 3).toInt) by have q9 := rl_nm2; omega)⟩, ⟨by rw [ht]; exact hP, hD⟩⟩, hS.F ht⟩) hS.2.2 d_x_licence_52
          · refine lv_if_eq (tgt := 50) hx hb d_x_licence_40 (by decide) (fun _ => ?_) (fun c9 => absurd c9 (by decide))
            refine lv_bipush (v := (-2)) hx hb d_x_licence_50 (by decide) ?_
            exact W.iret (v := (-2)) hx hb hr (fun t ht hW => ⟨⟨(-2), F, rfl, ⟨hR, (show ((0 ≤ jt.toInt ∧ jt.toInt < (F 27 0).toInt) ∧ ((0 ≤ jk.toInt ∧ jk.toInt ≤ 1) ∧ (0 ≤ jn.toInt ∧ jn.toInt ≤ 1000) ∧ (0 ≤ ju.toInt ∧ ju.toInt ≤ 1000000000) ∧ (0 ≤ jv.toInt ∧ jv.toInt ≤ 1000000000) ∧ ju.toInt ≤ jv.toInt) ∧ (F 27 2).toInt < 50 ∧ ((-2) : Int32).toInt = (F 27 2).toInt ∧ (F 27 2).toInt = (F 27 2).toInt + 1 ∧ (F 27 0).toInt = (F 27 0).toInt ∧ (F 27 1).toInt = (F 27 1).toInt ∧ (F 27 3).toInt = (F 27 3).toInt) ∨ ((((0 ≤ jt.toInt ∧ jt.toInt < (F 27 0).toInt) ∧ ((0 ≤ jk.toInt ∧ jk.toInt ≤ 1) ∧ (0 ≤ jn.toInt ∧ jn.toInt ≤ 1000) ∧ (0 ≤ ju.toInt ∧ ju.toInt ≤ 1000000000) ∧ (0 ≤ jv.toInt ∧ jv.toInt ≤ 1000000000) ∧ ju.toInt ≤ jv.toInt) ∧ 50 ≤ (F 27 2).toInt ∧ ((-2) : Int32).toInt = -4) ∨ ((0 ≤ jt.toInt ∧ jt.toInt < (F 27 0).toInt) ∧ ¬ ((0 ≤ jk.toInt ∧ jk.toInt ≤ 1) ∧ (0 ≤ jn.toInt ∧ jn.toInt ≤ 1000) ∧ (0 ≤ ju.toInt ∧ ju.toInt ≤ 1000000000) ∧ (0 ≤ jv.toInt ∧ jv.toInt ≤ 1000000000) ∧ ju.toInt ≤ jv.toInt) ∧ ((-2) : Int32).toInt = -2) ∨ (¬ (0 ≤ jt.toInt ∧ jt.toInt < (F 27 0).toInt) ∧ ((-2) : Int32).toInt = -1)) ∧ (F 27 0).toInt = (F 27 0).toInt ∧ (F 27 1).toInt = (F 27 1).toInt ∧ (F 27 2).toInt = (F 27 2).toInt ∧ (F 27 3).toInt = (F 27 3).toInt) by have q9 := rl_nm2; omega)⟩, ⟨by rw [ht]; exact hP, hD⟩⟩, hS.F ht⟩) hS.2.2 d_x_licence_52
        · refine lv_if_eq (tgt := 50) hx hb d_x_licence_32 (by decide) (fun _ => ?_) (fun c9 => absurd c9 (by decide))
          refine lv_bipush (v := (-2)) hx hb d_x_licence_50 (by decide) ?_
          exact W.iret (v := (-2)) hx hb hr (fun t ht hW => ⟨⟨(-2), F, rfl, ⟨hR, (show ((0 ≤ jt.toInt ∧ jt.toInt < (F 27 0).toInt) ∧ ((0 ≤ jk.toInt ∧ jk.toInt ≤ 1) ∧ (0 ≤ jn.toInt ∧ jn.toInt ≤ 1000) ∧ (0 ≤ ju.toInt ∧ ju.toInt ≤ 1000000000) ∧ (0 ≤ jv.toInt ∧ jv.toInt ≤ 1000000000) ∧ ju.toInt ≤ jv.toInt) ∧ (F 27 2).toInt < 50 ∧ ((-2) : Int32).toInt = (F 27 2).toInt ∧ (F 27 2).toInt = (F 27 2).toInt + 1 ∧ (F 27 0).toInt = (F 27 0).toInt ∧ (F 27 1).toInt = (F 27 1).toInt ∧ (F 27 3).toInt = (F 27 3).toInt) ∨ ((((0 ≤ jt.toInt ∧ jt.toInt < (F 27 0).toInt) ∧ ((0 ≤ jk.toInt ∧ jk.toInt ≤ 1) ∧ (0 ≤ jn.toInt ∧ jn.toInt ≤ 1000) ∧ (0 ≤ ju.toInt ∧ ju.toInt ≤ 1000000000) ∧ (0 ≤ jv.toInt ∧ jv.toInt ≤ 1000000000) ∧ ju.toInt ≤ jv.toInt) ∧ 50 ≤ (F 27 2).toInt ∧ ((-2) : Int32).toInt = -4) ∨ ((0 ≤ jt.toInt ∧ jt.toInt < (F 27 0).toInt) ∧ ¬ ((0 ≤ jk.toInt ∧ jk.toInt ≤ 1) ∧ (0 ≤ jn.toInt ∧ jn.toInt ≤ 1000) ∧ (0 ≤ ju.toInt ∧ ju.toInt ≤ 1000000000) ∧ (0 ≤ jv.toInt ∧ jv.toInt ≤ 1000000000) ∧ ju.toInt ≤ jv.toInt) ∧ ((-2) : Int32).toInt = -2) ∨ (¬ (0 ≤ jt.toInt ∧ jt.toInt < (F 27 0).toInt) ∧ ((-2) : Int32).toInt = -1)) ∧ (F 27 0).toInt = (F 27 0).toInt ∧ (F 27 1).toInt = (F 27 1).toInt ∧ (F 27 2).toInt = (F 27 2).toInt ∧ (F 27 3).toInt = (F 27 3).toInt) by have q9 := rl_nm2; omega)⟩, ⟨by rw [ht]; exact hP, hD⟩⟩, hS.F ht⟩) hS.2.2 d_x_licence_52
      · refine lv_if_eq (tgt := 50) hx hb d_x_licence_24 (by decide) (fun _ => ?_) (fun c9 => absurd c9 (by decide))
        refine lv_bipush (v := (-2)) hx hb d_x_licence_50 (by decide) ?_
        exact W.iret (v := (-2)) hx hb hr (fun t ht hW => ⟨⟨(-2), F, rfl, ⟨hR, (show ((0 ≤ jt.toInt ∧ jt.toInt < (F 27 0).toInt) ∧ ((0 ≤ jk.toInt ∧ jk.toInt ≤ 1) ∧ (0 ≤ jn.toInt ∧ jn.toInt ≤ 1000) ∧ (0 ≤ ju.toInt ∧ ju.toInt ≤ 1000000000) ∧ (0 ≤ jv.toInt ∧ jv.toInt ≤ 1000000000) ∧ ju.toInt ≤ jv.toInt) ∧ (F 27 2).toInt < 50 ∧ ((-2) : Int32).toInt = (F 27 2).toInt ∧ (F 27 2).toInt = (F 27 2).toInt + 1 ∧ (F 27 0).toInt = (F 27 0).toInt ∧ (F 27 1).toInt = (F 27 1).toInt ∧ (F 27 3).toInt = (F 27 3).toInt) ∨ ((((0 ≤ jt.toInt ∧ jt.toInt < (F 27 0).toInt) ∧ ((0 ≤ jk.toInt ∧ jk.toInt ≤ 1) ∧ (0 ≤ jn.toInt ∧ jn.toInt ≤ 1000) ∧ (0 ≤ ju.toInt ∧ ju.toInt ≤ 1000000000) ∧ (0 ≤ jv.toInt ∧ jv.toInt ≤ 1000000000) ∧ ju.toInt ≤ jv.toInt) ∧ 50 ≤ (F 27 2).toInt ∧ ((-2) : Int32).toInt = -4) ∨ ((0 ≤ jt.toInt ∧ jt.toInt < (F 27 0).toInt) ∧ ¬ ((0 ≤ jk.toInt ∧ jk.toInt ≤ 1) ∧ (0 ≤ jn.toInt ∧ jn.toInt ≤ 1000) ∧ (0 ≤ ju.toInt ∧ ju.toInt ≤ 1000000000) ∧ (0 ≤ jv.toInt ∧ jv.toInt ≤ 1000000000) ∧ ju.toInt ≤ jv.toInt) ∧ ((-2) : Int32).toInt = -2) ∨ (¬ (0 ≤ jt.toInt ∧ jt.toInt < (F 27 0).toInt) ∧ ((-2) : Int32).toInt = -1)) ∧ (F 27 0).toInt = (F 27 0).toInt ∧ (F 27 1).toInt = (F 27 1).toInt ∧ (F 27 2).toInt = (F 27 2).toInt ∧ (F 27 3).toInt = (F 27 3).toInt) by have q9 := rl_nm2; omega)⟩, ⟨by rw [ht]; exact hP, hD⟩⟩, hS.F ht⟩) hS.2.2 d_x_licence_52
    · refine lv_if_eq (tgt := 50) hx hb d_x_licence_17 (by decide) (fun _ => ?_) (fun c9 => absurd c9 (by decide))
      refine lv_bipush (v := (-2)) hx hb d_x_licence_50 (by decide) ?_
      exact W.iret (v := (-2)) hx hb hr (fun t ht hW => ⟨⟨(-2), F, rfl, ⟨hR, (show ((0 ≤ jt.toInt ∧ jt.toInt < (F 27 0).toInt) ∧ ((0 ≤ jk.toInt ∧ jk.toInt ≤ 1) ∧ (0 ≤ jn.toInt ∧ jn.toInt ≤ 1000) ∧ (0 ≤ ju.toInt ∧ ju.toInt ≤ 1000000000) ∧ (0 ≤ jv.toInt ∧ jv.toInt ≤ 1000000000) ∧ ju.toInt ≤ jv.toInt) ∧ (F 27 2).toInt < 50 ∧ ((-2) : Int32).toInt = (F 27 2).toInt ∧ (F 27 2).toInt = (F 27 2).toInt + 1 ∧ (F 27 0).toInt = (F 27 0).toInt ∧ (F 27 1).toInt = (F 27 1).toInt ∧ (F 27 3).toInt = (F 27 3).toInt) ∨ ((((0 ≤ jt.toInt ∧ jt.toInt < (F 27 0).toInt) ∧ ((0 ≤ jk.toInt ∧ jk.toInt ≤ 1) ∧ (0 ≤ jn.toInt ∧ jn.toInt ≤ 1000) ∧ (0 ≤ ju.toInt ∧ ju.toInt ≤ 1000000000) ∧ (0 ≤ jv.toInt ∧ jv.toInt ≤ 1000000000) ∧ ju.toInt ≤ jv.toInt) ∧ 50 ≤ (F 27 2).toInt ∧ ((-2) : Int32).toInt = -4) ∨ ((0 ≤ jt.toInt ∧ jt.toInt < (F 27 0).toInt) ∧ ¬ ((0 ≤ jk.toInt ∧ jk.toInt ≤ 1) ∧ (0 ≤ jn.toInt ∧ jn.toInt ≤ 1000) ∧ (0 ≤ ju.toInt ∧ ju.toInt ≤ 1000000000) ∧ (0 ≤ jv.toInt ∧ jv.toInt ≤ 1000000000) ∧ ju.toInt ≤ jv.toInt) ∧ ((-2) : Int32).toInt = -2) ∨ (¬ (0 ≤ jt.toInt ∧ jt.toInt < (F 27 0).toInt) ∧ ((-2) : Int32).toInt = -1)) ∧ (F 27 0).toInt = (F 27 0).toInt ∧ (F 27 1).toInt = (F 27 1).toInt ∧ (F 27 2).toInt = (F 27 2).toInt ∧ (F 27 3).toInt = (F 27 3).toInt) by have q9 := rl_nm2; omega)⟩, ⟨by rw [ht]; exact hP, hD⟩⟩, hS.F ht⟩) hS.2.2 d_x_licence_52
  · refine lv_if_ne (tgt := 13) hx hb d_x_licence_8 (by decide) (fun c9 => absurd c9 (by decide)) (fun _ => ?_)
    refine lv_iconst (v := (-1)) hx hb d_x_licence_11 (by decide) ?_
    exact W.iret (v := (-1)) hx hb hr (fun t ht hW => ⟨⟨(-1), F, rfl, ⟨hR, (show ((0 ≤ jt.toInt ∧ jt.toInt < (F 27 0).toInt) ∧ ((0 ≤ jk.toInt ∧ jk.toInt ≤ 1) ∧ (0 ≤ jn.toInt ∧ jn.toInt ≤ 1000) ∧ (0 ≤ ju.toInt ∧ ju.toInt ≤ 1000000000) ∧ (0 ≤ jv.toInt ∧ jv.toInt ≤ 1000000000) ∧ ju.toInt ≤ jv.toInt) ∧ (F 27 2).toInt < 50 ∧ ((-1) : Int32).toInt = (F 27 2).toInt ∧ (F 27 2).toInt = (F 27 2).toInt + 1 ∧ (F 27 0).toInt = (F 27 0).toInt ∧ (F 27 1).toInt = (F 27 1).toInt ∧ (F 27 3).toInt = (F 27 3).toInt) ∨ ((((0 ≤ jt.toInt ∧ jt.toInt < (F 27 0).toInt) ∧ ((0 ≤ jk.toInt ∧ jk.toInt ≤ 1) ∧ (0 ≤ jn.toInt ∧ jn.toInt ≤ 1000) ∧ (0 ≤ ju.toInt ∧ ju.toInt ≤ 1000000000) ∧ (0 ≤ jv.toInt ∧ jv.toInt ≤ 1000000000) ∧ ju.toInt ≤ jv.toInt) ∧ 50 ≤ (F 27 2).toInt ∧ ((-1) : Int32).toInt = -4) ∨ ((0 ≤ jt.toInt ∧ jt.toInt < (F 27 0).toInt) ∧ ¬ ((0 ≤ jk.toInt ∧ jk.toInt ≤ 1) ∧ (0 ≤ jn.toInt ∧ jn.toInt ≤ 1000) ∧ (0 ≤ ju.toInt ∧ ju.toInt ≤ 1000000000) ∧ (0 ≤ jv.toInt ∧ jv.toInt ≤ 1000000000) ∧ ju.toInt ≤ jv.toInt) ∧ ((-1) : Int32).toInt = -2) ∨ (¬ (0 ≤ jt.toInt ∧ jt.toInt < (F 27 0).toInt) ∧ ((-1) : Int32).toInt = -1)) ∧ (F 27 0).toInt = (F 27 0).toInt ∧ (F 27 1).toInt = (F 27 1).toInt ∧ (F 27 2).toInt = (F 27 2).toInt ∧ (F 27 3).toInt = (F 27 3).toInt) by have q9 := rl_nm1; omega)⟩, ⟨by rw [ht]; exact hP, hD⟩⟩, hS.F ht⟩) hS.2.2 d_x_licence_12
set_option maxHeartbeats 4000000 in
set_option maxRecDepth 100000 in
theorem k_x_fee (l : Launch) (D : va_G) (a : Nat → Nat) (kI kZ : ClassId) (F : Nat → Nat → Int32) (jp jn : Int32) (hI : rl_I F) (sz : Nat) : rl_Ci (S := Nat → Nat → Int32) l ⟨"RightsLimit", "fee", "(II)I"⟩ (Cond.code ⟨"RightsLimit", "fee", "(II)I"⟩ prog_1_method_6_code 3 (some .int) :: rl_G) { frames := 2, cells := 0, slots := 0, locals := 42 } D rl_cl (rl_tys kI kZ) rl_nw [.ref (a 0), .int jp, .int jn] (rl_w a kI kZ F) sz (fun (r : Int32) (F' : Nat → Nat → Int32) => rl_R F' ∧ (((((0 ≤ jp.toInt ∧ jp.toInt ≤ 99) ∧ (0 ≤ jn.toInt ∧ jn.toInt ≤ 10000)) ∧ r.toInt = 1) ∨ (¬ ((0 ≤ jp.toInt ∧ jp.toInt ≤ 99) ∧ (0 ≤ jn.toInt ∧ jn.toInt ≤ 10000)) ∧ r.toInt = -2)) ∧ (F' 27 0).toInt = (F 27 0).toInt ∧ (F' 27 1).toInt = (F 27 1).toInt ∧ (F' 27 2).toInt = (F 27 2).toInt ∧ (F' 27 3).toInt = (F 27 3).toInt)) (fun F' => rl_w a kI kZ F') 0 0 := by
  refine rl_meti (cc := prog_1_method_6_code) (maxL := 3) (ret := (some .int)) (by decide) rfl (Nat.le_of_ble_eq_true rfl) ?_
  intro p e s m below meth c A ls hx hb hr hml hown hts hlocks hnm hP hK hD hS hA hN hl
  have hown : s.vm.findClass "RightsLimit" = some m.cls := hown
  have hG : ∀ x ∈ rl_G, x.before _ s = true := fun x h => hts x (List.mem_cons_of_mem _ h)
  have hl : lv_has ls 3 [(0, .ref (a 0)), (1, .int jp), (2, .int jn)] := hl
  obtain ⟨hcnt, hR⟩ := id hI
  refine lv_iload_n hx hb d_x_fee_0 rfl (lv_at hl 1 rfl) ?_
  refine rl_callr hS (va_runS (As := [.int jp]) (rest := []) ⟨hx, hb, hml, hown, hG⟩ (k_x_isPublisher l D a kI kZ jp _) (cwS 1 hG (rl_gS wd_197 wd_198 wd_14 wd_199) rfl rfl rfl (by decide +kernel) ⟨Nat.le_of_ble_eq_true rfl, Nat.le_of_ble_eq_true rfl⟩) (rl_BR.pre rl_nw_ok rl_P0 hK hN) rfl rfl hl.1 rfl (lv_room (Nat.le_of_ble_eq_true rfl)) d_x_fee_1 ⟨Nat.le_of_ble_eq_true rfl, Nat.le_of_ble_eq_true rfl⟩) (fun r1 locs hw hS => ?_)
  rcases hw with ⟨rfl, h2⟩ | ⟨rfl, h2⟩
  · refine lv_if_eq (tgt := 18) hx hb d_x_fee_4 (by decide) (fun c9 => absurd c9 (by decide)) (fun _ => ?_)
    refine lv_iload_n hx hb d_x_fee_7 rfl (lv_at hl 2 rfl) ?_
    refine lv_iconst (v := 0) hx hb d_x_fee_8 (by decide) ?_
    refine lv_sipush (v := 10000) hx hb d_x_fee_9 (by decide) ?_
    refine rl_callr hS (va_runS (As := [.int jn, .int 0, .int 10000]) (rest := []) ⟨hx, hb, hml, hown, hG⟩ (k_x_isBetween l D a kI kZ jn 0 10000 _) (cwS 3 hG (rl_gS wd_200 wd_201 wd_14 wd_202) rfl rfl rfl (by decide +kernel) ⟨Nat.le_of_ble_eq_true rfl, Nat.le_of_ble_eq_true rfl⟩) (rl_BR.pre rl_nw_ok rl_P0 hK hN) rfl rfl hl.1 rfl (lv_room (Nat.le_of_ble_eq_true rfl)) d_x_fee_12 ⟨Nat.le_of_ble_eq_true rfl, Nat.le_of_ble_eq_true rfl⟩) (fun r3 locs hw hS => ?_)
    try simp only [rl_n0, rl_n10000] at hw
    rcases hw with ⟨rfl, h4⟩ | ⟨rfl, h4⟩
    · refine lv_if_ne (tgt := 21) hx hb d_x_fee_15 (by decide) (fun _ => ?_) (fun c9 => absurd c9 (by decide))
      refine lv_aload_n hx hb d_x_fee_21 rfl (lv_at hl 0 rfl) ?_
      refine va_get (D := D) (ci := 0) (v := .ref (a 30)) (C := "RightsLimit") (T := fT_x) (N := 8) hx hb hG fi_x hown hK hP 0 rfl rfl 4 (by decide) (hG _ wd_172) (fun _ h9 => h9) rfl d_x_fee_22 ?_
      refine lv_iload_n hx hb d_x_fee_25 rfl (lv_at hl 1 rfl) ?_
      refine lv_iload_n hx hb d_x_fee_26 rfl (lv_at hl 2 rfl) ?_
      refine va_iast hx hb hK hP hD hS 30 0 rfl rfl (rl_in (n := 100) (by omega) (by omega)) d_x_fee_27 (fun H locs hP hD hS => ?_)
      obtain ⟨F5, eF5⟩ : ∃ G, G = rl_st F 25 jp.toNatClampNeg jn := ⟨_, rfl⟩
      have hP : va_P D rl_cl (rl_w a kI kZ F5) H := by rw [eF5]; exact hP
      have hD : va_D A (rl_w a kI kZ F5) := by rw [eF5]; exact hD
      obtain ⟨tF5, hRF5⟩ := rl_keep eF5 (by decide) (by decide) hR
      refine lv_iconst (v := 1) hx hb d_x_fee_28 (by decide) ?_
      exact W.iret (v := 1) hx hb hr (fun t ht hW => ⟨⟨1, F5, rfl, ⟨hRF5, (show ((((0 ≤ jp.toInt ∧ jp.toInt ≤ 99) ∧ (0 ≤ jn.toInt ∧ jn.toInt ≤ 10000)) ∧ (1 : Int32).toInt = 1) ∨ (¬ ((0 ≤ jp.toInt ∧ jp.toInt ≤ 99) ∧ (0 ≤ jn.toInt ∧ jn.toInt ≤ 10000)) ∧ (1 : Int32).toInt = -2)) ∧ (F5 27 0).toInt = (F 27 0).toInt ∧ (F5 27 1).toInt = (F 27 1).toInt ∧ (F5 27 2).toInt = (F 27 2).toInt ∧ (F5 27 3).toInt = (F 27 3).toInt by have q9 := rl_n1; omega)⟩, ⟨by rw [ht]; exact hP, hD⟩⟩, hS.F ht⟩) hS.2.2 d_x_fee_29
    · refine lv_if_ne (tgt := 21) hx hb d_x_fee_15 (by decide) (fun c9 => absurd c9 (by decide)) (fun _ => ?_)
      refine lv_bipush (v := (-2)) hx hb d_x_fee_18 (by decide) ?_
      exact W.iret (v := (-2)) hx hb hr (fun t ht hW => ⟨⟨(-2), F, rfl, ⟨hR, (show ((((0 ≤ jp.toInt ∧ jp.toInt ≤ 99) ∧ (0 ≤ jn.toInt ∧ jn.toInt ≤ 10000)) ∧ ((-2) : Int32).toInt = 1) ∨ (¬ ((0 ≤ jp.toInt ∧ jp.toInt ≤ 99) ∧ (0 ≤ jn.toInt ∧ jn.toInt ≤ 10000)) ∧ ((-2) : Int32).toInt = -2)) ∧ (F 27 0).toInt = (F 27 0).toInt ∧ (F 27 1).toInt = (F 27 1).toInt ∧ (F 27 2).toInt = (F 27 2).toInt ∧ (F 27 3).toInt = (F 27 3).toInt by have q9 := rl_nm2; omega)⟩, ⟨by rw [ht]; exact hP, hD⟩⟩, hS.F ht⟩) hS.2.2 d_x_fee_20
  · refine lv_if_eq (tgt := 18) hx hb d_x_fee_4 (by decide) (fun _ => ?_) (fun c9 => absurd c9 (by decide))
    refine lv_bipush (v := (-2)) hx hb d_x_fee_18 (by decide) ?_
    exact W.iret (v := (-2)) hx hb hr (fun t ht hW => ⟨⟨(-2), F, rfl, ⟨hR, (show ((((0 ≤ jp.toInt ∧ jp.toInt ≤ 99) ∧ (0 ≤ jn.toInt ∧ jn.toInt ≤ 10000)) ∧ ((-2) : Int32).toInt = 1) ∨ (¬ ((0 ≤ jp.toInt ∧ jp.toInt ≤ 99) ∧ (0 ≤ jn.toInt ∧ jn.toInt ≤ 10000)) ∧ ((-2) : Int32).toInt = -2)) ∧ (F 27 0).toInt = (F 27 0).toInt ∧ (F 27 1).toInt = (F 27 1).toInt ∧ (F 27 2).toInt = (F 27 2).toInt ∧ (F 27 3).toInt = (F 27 3).toInt by have q9 := rl_nm2; omega)⟩, ⟨by rw [ht]; exact hP, hD⟩⟩, hS.F ht⟩) hS.2.2 d_x_fee_20
set_option maxHeartbeats 4000000 in
set_option maxRecDepth 100000 in
theorem k_x_ask (l : Launch) (D : va_G) (a : Nat → Nat) (kI kZ : ClassId) (F : Nat → Nat → Int32) (jn jt jk jg ju : Int32) (hI : rl_I F) (sz : Nat) : rl_Ci (S := Nat → Nat → Int32) l ⟨"RightsLimit", "ask", "(IIIII)I"⟩ (Cond.code ⟨"RightsLimit", "ask", "(IIIII)I"⟩ prog_1_method_7_code 7 (some .int) :: rl_G) { frames := 4, cells := 0, slots := 0, locals := 99 } D rl_cl (rl_tys kI kZ) rl_nw [.ref (a 0), .int jn, .int jt, .int jk, .int jg, .int ju] (rl_w a kI kZ F) sz (fun (r : Int32) (F' : Nat → Nat → Int32) => rl_R F' ∧ ((F' 27 0).toInt = (F 27 0).toInt ∧ (F' 27 1).toInt = (F 27 1).toInt ∧ (F' 27 2).toInt = (F 27 2).toInt ∧ 0 ≤ (F' 27 3).toInt ∧ (F' 27 3).toInt ≤ 300)) (fun F' => rl_w a kI kZ F') 0 0 := by
  refine rl_meti (cc := prog_1_method_7_code) (maxL := 7) (ret := (some .int)) (by decide) rfl (Nat.le_of_ble_eq_true rfl) ?_
  intro p e s m below meth c A ls hx hb hr hml hown hts hlocks hnm hP hK hD hS hA hN hl
  have hown : s.vm.findClass "RightsLimit" = some m.cls := hown
  have hG : ∀ x ∈ rl_G, x.before _ s = true := fun x h => hts x (List.mem_cons_of_mem _ h)
  have hl : lv_has ls 7 [(0, .ref (a 0)), (1, .int jn), (2, .int jt), (3, .int jk), (4, .int jg), (5, .int ju)] := hl
  obtain ⟨hcnt, hR⟩ := id hI
  refine lv_aload_n hx hb d_x_ask_0 rfl (lv_at hl 0 rfl) ?_
  refine va_get (D := D) (ci := 0) (v := .ref (a 1)) (C := "RightsLimit") (T := fT_x) (N := 8) hx hb hG fi_x hown hK hP 0 rfl rfl 0 (by decide) (hG _ wd_168) (fun _ h9 => h9) rfl d_x_ask_1 ?_
  refine lv_iload_n hx hb d_x_ask_4 rfl (lv_at hl 2 rfl) ?_
  have hpre := rl_BR.pre (av := .ref (a 1) :: [.int jt]) rl_nw_ok hP hK hN
  refine rl_callr hS (va_runV (As := [.int jt]) (rest := []) ⟨hx, hb, hml, hown, hG⟩ (k_t_has l D a kI kZ F jt ⟨by omega, hR⟩ _) (cwV 1 hG (rl_gV wd_211 wd_212 wd_213 wd_15 wd_214) rfl rfl rfl (by decide +kernel) ⟨Nat.le_of_ble_eq_true rfl, Nat.le_of_ble_eq_true rfl⟩) ⟨hpre.1, (va_recv hK hP (ci := 1) (q0 := 1) rfl rfl), hpre.2⟩ rfl rfl hl.1 rfl (lv_room (Nat.le_of_ble_eq_true rfl)) d_x_ask_5 ⟨Nat.le_of_ble_eq_true rfl, Nat.le_of_ble_eq_true rfl⟩) (fun r1 locs hw hS => ?_)
  rcases hw with ⟨rfl, h2⟩ | ⟨rfl, h2⟩
  · refine lv_if_ne (tgt := 13) hx hb d_x_ask_8 (by decide) (fun _ => ?_) (fun c9 => absurd c9 (by decide))
    refine lv_iload_n hx hb d_x_ask_13 rfl (lv_at hl 1 rfl) ?_
    refine rl_callr hS (va_runS (As := [.int jn]) (rest := []) ⟨hx, hb, hml, hown, hG⟩ (k_x_isPerson l D a kI kZ jn _) (cwS 1 hG (rl_gS wd_252 wd_253 wd_14 wd_254) rfl rfl rfl (by decide +kernel) ⟨Nat.le_of_ble_eq_true rfl, Nat.le_of_ble_eq_true rfl⟩) (rl_BR.pre rl_nw_ok rl_P0 hK hN) rfl rfl hl.1 rfl (lv_room (Nat.le_of_ble_eq_true rfl)) d_x_ask_14 ⟨Nat.le_of_ble_eq_true rfl, Nat.le_of_ble_eq_true rfl⟩) (fun r3 locs hw hS => ?_)
    rcases hw with ⟨rfl, h4⟩ | ⟨rfl, h4⟩
    · refine lv_if_eq (tgt := 39) hx hb d_x_ask_17 (by decide) (fun c9 => absurd c9 (by decide)) (fun _ => ?_)
      refine lv_iload_n hx hb d_x_ask_20 rfl (lv_at hl 3 rfl) ?_
      refine rl_callr hS (va_runS (As := [.int jk]) (rest := []) ⟨hx, hb, hml, hown, hG⟩ (k_x_isKind l D a kI kZ jk _) (cwS 1 hG (rl_gS wd_219 wd_220 wd_14 wd_221) rfl rfl rfl (by decide +kernel) ⟨Nat.le_of_ble_eq_true rfl, Nat.le_of_ble_eq_true rfl⟩) (rl_BR.pre rl_nw_ok rl_P0 hK hN) rfl rfl hl.1 rfl (lv_room (Nat.le_of_ble_eq_true rfl)) d_x_ask_21 ⟨Nat.le_of_ble_eq_true rfl, Nat.le_of_ble_eq_true rfl⟩) (fun r5 locs hw hS => ?_)
      rcases hw with ⟨rfl, h6⟩ | ⟨rfl, h6⟩
      · refine lv_if_eq (tgt := 39) hx hb d_x_ask_24 (by decide) (fun c9 => absurd c9 (by decide)) (fun _ => ?_)
        refine lv_iload hx hb d_x_ask_27 (lv_at hl 4 rfl) ?_
        refine lv_iconst (v := 1) hx hb d_x_ask_29 (by decide) ?_
        refine lv_sipush (v := 1000) hx hb d_x_ask_30 (by decide) ?_
        refine rl_callr hS (va_runS (As := [.int jg, .int 1, .int 1000]) (rest := []) ⟨hx, hb, hml, hown, hG⟩ (k_x_isBetween l D a kI kZ jg 1 1000 _) (cwS 3 hG (rl_gS wd_200 wd_201 wd_14 wd_202) rfl rfl rfl (by decide +kernel) ⟨Nat.le_of_ble_eq_true rfl, Nat.le_of_ble_eq_true rfl⟩) (rl_BR.pre rl_nw_ok rl_P0 hK hN) rfl rfl hl.1 rfl (lv_room (Nat.le_of_ble_eq_true rfl)) d_x_ask_33 ⟨Nat.le_of_ble_eq_true rfl, Nat.le_of_ble_eq_true rfl⟩) (fun r7 locs hw hS => ?_)
        try simp only [rl_n1, rl_n1000] at hw
        rcases hw with ⟨rfl, h8⟩ | ⟨rfl, h8⟩
        · refine lv_if_ne (tgt := 42) hx hb d_x_ask_36 (by decide) (fun _ => ?_) (fun c9 => absurd c9 (by decide))
          refine lv_aload_n hx hb d_x_ask_42 rfl (lv_at hl 0 rfl) ?_
          refine lv_iload hx hb d_x_ask_43 (lv_at hl 5 rfl) ?_
          have hpre := rl_B.pre (av := .ref (a 0) :: [.int ju]) rl_nw_ok hP hK hD hN
          refine rl_calli0 hP hD hS hA (va_runV (As := [.int ju]) (rest := []) ⟨hx, hb, hml, hown, hG⟩ (k_x_goOnTo l D a kI kZ F ju ⟨by omega, hR⟩ _) (cwV 1 hG (rl_gV wd_255 wd_257 wd_0 wd_14 wd_258) rfl rfl rfl (by decide +kernel) ⟨Nat.le_of_ble_eq_true rfl, Nat.le_of_ble_eq_true rfl⟩) ⟨hpre.1, (va_recv hK hP (ci := 0) (q0 := 0) rfl rfl), hpre.2⟩ rfl rfl hl.1 rfl (lv_room (Nat.le_of_ble_eq_true rfl)) d_x_ask_45 ⟨Nat.le_of_ble_eq_true rfl, Nat.le_of_ble_eq_true rfl⟩) (fun r9 F10 H locs hw hP hD hS => ?_)
          have hP : va_P D rl_cl (rl_w a kI kZ F10) H := hP
          have hD : va_D A (rl_w a kI kZ F10) := hD
          obtain ⟨hRF10, hw⟩ := hw
          rcases hw with ⟨rfl, h11⟩ | ⟨rfl, h11⟩
          · refine lv_if_ne (tgt := 54) hx hb d_x_ask_48 (by decide) (fun _ => ?_) (fun c9 => absurd c9 (by decide))
            refine lv_aload_n hx hb d_x_ask_54 rfl (lv_at hl 0 rfl) ?_
            refine va_get (D := D) (ci := 0) (v := .ref (a 4)) (C := "RightsLimit") (T := fT_x) (N := 8) hx hb hG fi_x hown hK hP 0 rfl rfl 3 (by decide) (hG _ wd_171) (fun _ h9 => h9) rfl d_x_ask_55 ?_
            refine lv_iload_n hx hb d_x_ask_58 rfl (lv_at hl 1 rfl) ?_
            refine lv_iload_n hx hb d_x_ask_59 rfl (lv_at hl 2 rfl) ?_
            refine lv_iload_n hx hb d_x_ask_60 rfl (lv_at hl 3 rfl) ?_
            refine lv_iload hx hb d_x_ask_61 (lv_at hl 4 rfl) ?_
            refine lv_iload hx hb d_x_ask_63 (lv_at hl 5 rfl) ?_
            have hpre := rl_B.pre (av := .ref (a 4) :: [.int jn, .int jt, .int jk, .int jg, .int ju]) rl_nw_ok hP hK hD hN
            refine rl_calli0 hP hD hS hA (va_runV (As := [.int jn, .int jt, .int jk, .int jg, .int ju]) (rest := []) ⟨hx, hb, hml, hown, hG⟩ (k_q_add l D a kI kZ F10 jn jt jk jg ju ⟨by omega, hRF10⟩ _) (cwV 5 hG (rl_gV wd_259 wd_260 wd_261 wd_18 wd_262) rfl rfl rfl (by decide +kernel) ⟨Nat.le_of_ble_eq_true rfl, Nat.le_of_ble_eq_true rfl⟩) ⟨hpre.1, (va_recv hK hP (ci := 4) (q0 := 4) rfl rfl), hpre.2⟩ rfl rfl hl.1 rfl (lv_room (Nat.le_of_ble_eq_true rfl)) d_x_ask_65 ⟨Nat.le_of_ble_eq_true rfl, Nat.le_of_ble_eq_true rfl⟩) (fun r12 F13 H locs hw hP hD hS => ?_)
            have hP : va_P D rl_cl (rl_w a kI kZ F13) H := hP
            have hD : va_D A (rl_w a kI kZ F13) := hD
            obtain ⟨hRF13, hw⟩ := hw
            have hwr12 := hw
            refine lv_istore (lv' := [(6, .int r12), (0, .ref (a 0)), (1, .int jn), (2, .int jt), (3, .int jk), (4, .int jg), (5, .int ju)]) hx hb d_x_ask_68 hl (by decide) rfl (fun ls hl => ?_)
            refine lv_iload hx hb d_x_ask_70 (lv_at hl 0 rfl) ?_
            refine lv_bipush (v := (-4)) hx hb d_x_ask_72 (by decide) ?_
            refine lv_icmp_ne (tgt := 80) hx hb d_x_ask_74 (by decide) (fun c14 => ?_) (fun c14 => ?_)
            · have ic14 := rl_ine c14
              simp only [rl_nm4] at ic14
              refine lv_aload_n hx hb d_x_ask_80 rfl (lv_at hl 1 rfl) ?_
              refine lv_iload hx hb d_x_ask_81 (lv_at hl 0 rfl) ?_
              refine lv_iload_n hx hb d_x_ask_83 rfl (lv_at hl 3 rfl) ?_
              refine lv_iload_n hx hb d_x_ask_84 rfl (lv_at hl 4 rfl) ?_
              refine lv_iload hx hb d_x_ask_85 (lv_at hl 6 rfl) ?_
              have hpre := rl_B.pre (av := .ref (a 0) :: [.int r12, .int jt, .int jk, .int ju]) rl_nw_ok hP hK hD hN
              refine rl_callv0 hP hD hS hA (va_runV (As := [.int r12, .int jt, .int jk, .int ju]) (rest := []) ⟨hx, hb, hml, hown, hG⟩ (k_x_decide l D a kI kZ F13 r12 jt jk ju ⟨by omega, hRF13⟩ (by omega) (by omega) (by omega) (by omega) _) (cwV 4 hG (rl_gV wd_263 wd_265 wd_1 wd_14 wd_266) rfl rfl rfl (by decide +kernel) ⟨Nat.le_of_ble_eq_true rfl, Nat.le_of_ble_eq_true rfl⟩) ⟨hpre.1, (va_recv hK hP (ci := 0) (q0 := 0) rfl rfl), hpre.2⟩ rfl rfl hl.1 rfl (lv_room (Nat.le_of_ble_eq_true rfl)) d_x_ask_87 ⟨Nat.le_of_ble_eq_true rfl, Nat.le_of_ble_eq_true rfl⟩) (fun F16 H locs hw hP hD hS => ?_)
              have hP : va_P D rl_cl (rl_w a kI kZ F16) H := hP
              have hD : va_D A (rl_w a kI kZ F16) := hD
              obtain ⟨hRF16, hw⟩ := hw
              have g17 := hw
              refine lv_aload_n hx hb d_x_ask_90 rfl (lv_at hl 1 rfl) ?_
              refine va_get (D := D) (ci := 0) (v := .ref (a 4)) (C := "RightsLimit") (T := fT_x) (N := 8) hx hb hG fi_x hown hK hP 0 rfl rfl 3 (by decide) (hG _ wd_171) (fun _ h9 => h9) rfl d_x_ask_91 ?_
              refine lv_iload hx hb d_x_ask_94 (lv_at hl 0 rfl) ?_
              have hpre := rl_BR.pre (av := .ref (a 4) :: [.int r12]) rl_nw_ok hP hK hN
              refine rl_callr hS (va_runV (As := [.int r12]) (rest := []) ⟨hx, hb, hml, hown, hG⟩ (k_q_isCopy l D a kI kZ F16 r12 ⟨by omega, hRF16⟩ (by omega) (by omega) _) (cwV 1 hG (rl_gV wd_303 wd_304 wd_305 wd_18 wd_306) rfl rfl rfl (by decide +kernel) ⟨Nat.le_of_ble_eq_true rfl, Nat.le_of_ble_eq_true rfl⟩) ⟨hpre.1, (va_recv hK hP (ci := 4) (q0 := 4) rfl rfl), hpre.2⟩ rfl rfl hl.1 rfl (lv_room (Nat.le_of_ble_eq_true rfl)) d_x_ask_96 ⟨Nat.le_of_ble_eq_true rfl, Nat.le_of_ble_eq_true rfl⟩) (fun r18 locs hw hS => ?_)
              rcases hw with ⟨rfl, h19⟩ | ⟨rfl, h19⟩
              · refine lv_if_eq (tgt := 107) hx hb d_x_ask_99 (by decide) (fun c9 => absurd c9 (by decide)) (fun _ => ?_)
                refine lv_iload hx hb d_x_ask_102 (lv_at hl 0 rfl) ?_
                refine lv_goto (tgt := 112) hx hb d_x_ask_104 (by decide) ?_
                exact W.iret (v := r12) hx hb hr (fun t ht hW => ⟨⟨r12, F16, rfl, ⟨hRF16, (show (F16 27 0).toInt = (F 27 0).toInt ∧ (F16 27 1).toInt = (F 27 1).toInt ∧ (F16 27 2).toInt = (F 27 2).toInt ∧ 0 ≤ (F16 27 3).toInt ∧ (F16 27 3).toInt ≤ 300 by omega)⟩, ⟨by rw [ht]; exact hP, hD⟩⟩, hS.F ht⟩) hS.2.2 d_x_ask_112
              · refine lv_if_eq (tgt := 107) hx hb d_x_ask_99 (by decide) (fun _ => ?_) (fun c9 => absurd c9 (by decide))
                refine lv_bipush (v := (-10)) hx hb d_x_ask_107 (by decide) ?_
                refine lv_iload hx hb d_x_ask_109 (lv_at hl 0 rfl) ?_
                refine lv_isub hx hb d_x_ask_111 ?_
                refine lv_topi (fun v20 ev20 => ?_)
                exact W.iret (v := v20) hx hb hr (fun t ht hW => ⟨⟨v20, F16, rfl, ⟨hRF16, (show (F16 27 0).toInt = (F 27 0).toInt ∧ (F16 27 1).toInt = (F 27 1).toInt ∧ (F16 27 2).toInt = (F 27 2).toInt ∧ 0 ≤ (F16 27 3).toInt ∧ (F16 27 3).toInt ≤ 300 by omega)⟩, ⟨by rw [ht]; exact hP, hD⟩⟩, hS.F ht⟩) hS.2.2 d_x_ask_112
            · have ic14 := rl_ieq c14
              simp only [rl_nm4] at ic14
              refine lv_bipush (v := (-4)) hx hb d_x_ask_77 (by decide) ?_
              exact W.iret (v := (-4)) hx hb hr (fun t ht hW => ⟨⟨(-4), F13, rfl, ⟨hRF13, (show (F13 27 0).toInt = (F 27 0).toInt ∧ (F13 27 1).toInt = (F 27 1).toInt ∧ (F13 27 2).toInt = (F 27 2).toInt ∧ 0 ≤ (F13 27 3).toInt ∧ (F13 27 3).toInt ≤ 300 by have q9 := rl_nm4; omega)⟩, ⟨by rw [ht]; exact hP, hD⟩⟩, hS.F ht⟩) hS.2.2 d_x_ask_79
          · refine lv_if_ne (tgt := 54) hx hb d_x_ask_48 (by decide) (fun c9 => absurd c9 (by decide)) (fun _ => ?_)
            refine lv_bipush (v := (-2)) hx hb d_x_ask_51 (by decide) ?_
            exact W.iret (v := (-2)) hx hb hr (fun t ht hW => ⟨⟨(-2), F10, rfl, ⟨hRF10, (show (F10 27 0).toInt = (F 27 0).toInt ∧ (F10 27 1).toInt = (F 27 1).toInt ∧ (F10 27 2).toInt = (F 27 2).toInt ∧ 0 ≤ (F10 27 3).toInt ∧ (F10 27 3).toInt ≤ 300 by have q9 := rl_nm2; omega)⟩, ⟨by rw [ht]; exact hP, hD⟩⟩, hS.F ht⟩) hS.2.2 d_x_ask_53
        · refine lv_if_ne (tgt := 42) hx hb d_x_ask_36 (by decide) (fun c9 => absurd c9 (by decide)) (fun _ => ?_)
          refine lv_bipush (v := (-2)) hx hb d_x_ask_39 (by decide) ?_
          exact W.iret (v := (-2)) hx hb hr (fun t ht hW => ⟨⟨(-2), F, rfl, ⟨hR, (show (F 27 0).toInt = (F 27 0).toInt ∧ (F 27 1).toInt = (F 27 1).toInt ∧ (F 27 2).toInt = (F 27 2).toInt ∧ 0 ≤ (F 27 3).toInt ∧ (F 27 3).toInt ≤ 300 by have q9 := rl_nm2; omega)⟩, ⟨by rw [ht]; exact hP, hD⟩⟩, hS.F ht⟩) hS.2.2 d_x_ask_41
      · refine lv_if_eq (tgt := 39) hx hb d_x_ask_24 (by decide) (fun _ => ?_) (fun c9 => absurd c9 (by decide))
        refine lv_bipush (v := (-2)) hx hb d_x_ask_39 (by decide) ?_
        exact W.iret (v := (-2)) hx hb hr (fun t ht hW => ⟨⟨(-2), F, rfl, ⟨hR, (show (F 27 0).toInt = (F 27 0).toInt ∧ (F 27 1).toInt = (F 27 1).toInt ∧ (F 27 2).toInt = (F 27 2).toInt ∧ 0 ≤ (F 27 3).toInt ∧ (F 27 3).toInt ≤ 300 by have q9 := rl_nm2; omega)⟩, ⟨by rw [ht]; exact hP, hD⟩⟩, hS.F ht⟩) hS.2.2 d_x_ask_41
    · refine lv_if_eq (tgt := 39) hx hb d_x_ask_17 (by decide) (fun _ => ?_) (fun c9 => absurd c9 (by decide))
      refine lv_bipush (v := (-2)) hx hb d_x_ask_39 (by decide) ?_
      exact W.iret (v := (-2)) hx hb hr (fun t ht hW => ⟨⟨(-2), F, rfl, ⟨hR, (show (F 27 0).toInt = (F 27 0).toInt ∧ (F 27 1).toInt = (F 27 1).toInt ∧ (F 27 2).toInt = (F 27 2).toInt ∧ 0 ≤ (F 27 3).toInt ∧ (F 27 3).toInt ≤ 300 by have q9 := rl_nm2; omega)⟩, ⟨by rw [ht]; exact hP, hD⟩⟩, hS.F ht⟩) hS.2.2 d_x_ask_41
  · refine lv_if_ne (tgt := 13) hx hb d_x_ask_8 (by decide) (fun c9 => absurd c9 (by decide)) (fun _ => ?_)
    refine lv_iconst (v := (-1)) hx hb d_x_ask_11 (by decide) ?_
    exact W.iret (v := (-1)) hx hb hr (fun t ht hW => ⟨⟨(-1), F, rfl, ⟨hR, (show (F 27 0).toInt = (F 27 0).toInt ∧ (F 27 1).toInt = (F 27 1).toInt ∧ (F 27 2).toInt = (F 27 2).toInt ∧ 0 ≤ (F 27 3).toInt ∧ (F 27 3).toInt ≤ 300 by have q9 := rl_nm1; omega)⟩, ⟨by rw [ht]; exact hP, hD⟩⟩, hS.F ht⟩) hS.2.2 d_x_ask_12
set_option maxHeartbeats 4000000 in
set_option maxRecDepth 100000 in
theorem k_x_why (l : Launch) (D : va_G) (a : Nat → Nat) (kI kZ : ClassId) (F : Nat → Nat → Int32) (hI : rl_I F) (H0 : Heap) : rl_Ri l ⟨"RightsLimit", "why", "()I"⟩ (Cond.code ⟨"RightsLimit", "why", "()I"⟩ prog_1_method_8_code 1 (some .int) :: rl_G) { frames := 0, cells := 0, slots := 0, locals := 0 } D rl_cl (rl_tys kI kZ) rl_nw [.ref (a 0)] (rl_w a kI kZ F) H0 (fun (r : Int32) => True) := by
  refine rl_metr (cc := prog_1_method_8_code) (maxL := 1) (ret := (some .int)) (by decide) rfl (Nat.le_of_ble_eq_true rfl) ?_
  intro p e s m below meth c ls hx hb hr hml hown hts hlocks hP hK hS hN hl
  have hown : s.vm.findClass "RightsLimit" = some m.cls := hown
  have hG : ∀ x ∈ rl_G, x.before _ s = true := fun x h => hts x (List.mem_cons_of_mem _ h)
  have hl : lv_has ls 1 [(0, .ref (a 0))] := hl
  obtain ⟨hcnt, hR⟩ := id hI
  refine lv_aload_n hx hb d_x_why_0 rfl (lv_at hl 0 rfl) ?_
  refine va_get (D := D) (ci := 0) (v := .int (F 27 5)) (C := "RightsLimit") (T := fT_x) (N := 8) hx hb hG fi_x hown hK hP 0 rfl rfl 7 (by decide) (hG _ wd_175) (fun _ h9 => h9) rfl d_x_why_1 ?_
  exact W.iret (v := (F 27 5)) hx hb hr (fun t ht hW => ⟨⟨(F 27 5), (), rfl, trivial, ht⟩, hS.F ht⟩) hS.2.2 d_x_why_4
set_option maxHeartbeats 4000000 in
set_option maxRecDepth 100000 in
theorem k_x_give (l : Launch) (D : va_G) (a : Nat → Nat) (kI kZ : ClassId) (F : Nat → Nat → Int32) (jn jg jb : Int32) (hI : rl_I F) (sz : Nat) : rl_Ci (S := Nat → Nat → Int32) l ⟨"RightsLimit", "give", "(IIZ)I"⟩ (Cond.code ⟨"RightsLimit", "give", "(IIZ)I"⟩ prog_1_method_9_code 5 (some .int) :: rl_G) { frames := 2, cells := 0, slots := 0, locals := 42 } D rl_cl (rl_tys kI kZ) rl_nw [.ref (a 0), .int jn, .int jg, .int jb] (rl_w a kI kZ F) sz (fun (r : Int32) (F' : Nat → Nat → Int32) => rl_R F' ∧ (((((0 ≤ jn.toInt ∧ jn.toInt ≤ 99) ∧ (1 ≤ jg.toInt ∧ jg.toInt ≤ 9)) ∧ r.toInt = 1) ∨ (¬ ((0 ≤ jn.toInt ∧ jn.toInt ≤ 99) ∧ (1 ≤ jg.toInt ∧ jg.toInt ≤ 9)) ∧ r.toInt = -2)) ∧ (F' 27 0).toInt = (F 27 0).toInt ∧ (F' 27 1).toInt = (F 27 1).toInt ∧ (F' 27 2).toInt = (F 27 2).toInt ∧ (F' 27 3).toInt = (F 27 3).toInt)) (fun F' => rl_w a kI kZ F') 0 0 := by
  refine rl_meti (cc := prog_1_method_9_code) (maxL := 5) (ret := (some .int)) (by decide) rfl (Nat.le_of_ble_eq_true rfl) ?_
  intro p e s m below meth c A ls hx hb hr hml hown hts hlocks hnm hP hK hD hS hA hN hl
  have hown : s.vm.findClass "RightsLimit" = some m.cls := hown
  have hG : ∀ x ∈ rl_G, x.before _ s = true := fun x h => hts x (List.mem_cons_of_mem _ h)
  have hl : lv_has ls 5 [(0, .ref (a 0)), (1, .int jn), (2, .int jg), (3, .int jb)] := hl
  obtain ⟨hcnt, hR⟩ := id hI
  refine lv_iload_n hx hb d_x_give_0 rfl (lv_at hl 1 rfl) ?_
  refine rl_callr hS (va_runS (As := [.int jn]) (rest := []) ⟨hx, hb, hml, hown, hG⟩ (k_x_isPerson l D a kI kZ jn _) (cwS 1 hG (rl_gS wd_252 wd_253 wd_14 wd_254) rfl rfl rfl (by decide +kernel) ⟨Nat.le_of_ble_eq_true rfl, Nat.le_of_ble_eq_true rfl⟩) (rl_BR.pre rl_nw_ok rl_P0 hK hN) rfl rfl hl.1 rfl (lv_room (Nat.le_of_ble_eq_true rfl)) d_x_give_1 ⟨Nat.le_of_ble_eq_true rfl, Nat.le_of_ble_eq_true rfl⟩) (fun r1 locs hw hS => ?_)
  rcases hw with ⟨rfl, h2⟩ | ⟨rfl, h2⟩
  · refine lv_if_eq (tgt := 17) hx hb d_x_give_4 (by decide) (fun c9 => absurd c9 (by decide)) (fun _ => ?_)
    refine lv_iload_n hx hb d_x_give_7 rfl (lv_at hl 2 rfl) ?_
    refine lv_iconst (v := 1) hx hb d_x_give_8 (by decide) ?_
    refine lv_bipush (v := 9) hx hb d_x_give_9 (by decide) ?_
    refine rl_callr hS (va_runS (As := [.int jg, .int 1, .int 9]) (rest := []) ⟨hx, hb, hml, hown, hG⟩ (k_x_isBetween l D a kI kZ jg 1 9 _) (cwS 3 hG (rl_gS wd_200 wd_201 wd_14 wd_202) rfl rfl rfl (by decide +kernel) ⟨Nat.le_of_ble_eq_true rfl, Nat.le_of_ble_eq_true rfl⟩) (rl_BR.pre rl_nw_ok rl_P0 hK hN) rfl rfl hl.1 rfl (lv_room (Nat.le_of_ble_eq_true rfl)) d_x_give_11 ⟨Nat.le_of_ble_eq_true rfl, Nat.le_of_ble_eq_true rfl⟩) (fun r3 locs hw hS => ?_)
    try simp only [rl_n1, rl_n9] at hw
    rcases hw with ⟨rfl, h4⟩ | ⟨rfl, h4⟩
    · refine lv_if_ne (tgt := 20) hx hb d_x_give_14 (by decide) (fun _ => ?_) (fun c9 => absurd c9 (by decide))
      refine lv_iconst (v := 1) hx hb d_x_give_20 (by decide) ?_
      refine lv_iload_n hx hb d_x_give_21 rfl (lv_at hl 2 rfl) ?_
      refine lv_ishl hx hb d_x_give_22 ?_
      refine lv_topi (fun v5 ev5 => ?_)
      refine lv_istore (lv' := [(4, .int v5), (0, .ref (a 0)), (1, .int jn), (2, .int jg), (3, .int jb)]) hx hb d_x_give_23 hl (by decide) rfl (fun ls hl => ?_)
      refine lv_iload_n hx hb d_x_give_25 rfl (lv_at hl 4 rfl) ?_
      refine lv_if_eq (tgt := 43) hx hb d_x_give_26 (by decide) (fun c6 => ?_) (fun c6 => ?_)
      · have ic6 := rl_ieq c6
        simp only [rl_n0] at ic6
        refine lv_aload_n hx hb d_x_give_43 rfl (lv_at hl 1 rfl) ?_
        refine va_get (D := D) (ci := 0) (v := .ref (a 31)) (C := "RightsLimit") (T := fT_x) (N := 8) hx hb hG fi_x hown hK hP 0 rfl rfl 5 (by decide) (hG _ wd_173) (fun _ h9 => h9) rfl d_x_give_44 ?_
        refine lv_iload_n hx hb d_x_give_47 rfl (lv_at hl 2 rfl) ?_
        refine lv_dup2_11 hx hb d_x_give_48 rfl rfl ?_
        refine va_iald hx hb hK hP 31 0 rfl rfl (rl_in (n := 100) (by omega) (by omega)) d_x_give_49 ?_
        refine lv_topi (fun v7 ev7 => ?_)
        refine lv_iload hx hb d_x_give_50 (lv_at hl 0 rfl) ?_
        refine lv_iconst (v := (-1)) hx hb d_x_give_52 (by decide) ?_
        refine lv_ixor hx hb d_x_give_53 ?_
        refine lv_topi (fun v8 ev8 => ?_)
        refine lv_iand hx hb d_x_give_54 ?_
        refine lv_topi (fun v9 ev9 => ?_)
        refine va_iast hx hb hK hP hD hS 31 0 rfl rfl (rl_in (n := 100) (by omega) (by omega)) d_x_give_55 (fun H locs hP hD hS => ?_)
        obtain ⟨F10, eF10⟩ : ∃ G, G = rl_st F 26 jn.toNatClampNeg v9 := ⟨_, rfl⟩
        have hP : va_P D rl_cl (rl_w a kI kZ F10) H := by rw [eF10]; exact hP
        have hD : va_D A (rl_w a kI kZ F10) := by rw [eF10]; exact hD
        obtain ⟨tF10, hRF10⟩ := rl_keep eF10 (by decide) (by decide) hR
        refine lv_iconst (v := 1) hx hb d_x_give_56 (by decide) ?_
        exact W.iret (v := 1) hx hb hr (fun t ht hW => ⟨⟨1, F10, rfl, ⟨hRF10, (show ((((0 ≤ jn.toInt ∧ jn.toInt ≤ 99) ∧ (1 ≤ jg.toInt ∧ jg.toInt ≤ 9)) ∧ (1 : Int32).toInt = 1) ∨ (¬ ((0 ≤ jn.toInt ∧ jn.toInt ≤ 99) ∧ (1 ≤ jg.toInt ∧ jg.toInt ≤ 9)) ∧ (1 : Int32).toInt = -2)) ∧ (F10 27 0).toInt = (F 27 0).toInt ∧ (F10 27 1).toInt = (F 27 1).toInt ∧ (F10 27 2).toInt = (F 27 2).toInt ∧ (F10 27 3).toInt = (F 27 3).toInt by have q9 := rl_n1; omega)⟩, ⟨by rw [ht]; exact hP, hD⟩⟩, hS.F ht⟩) hS.2.2 d_x_give_57
      · have ic6 := rl_ine c6
        simp only [rl_n0] at ic6
        refine lv_aload_n hx hb d_x_give_29 rfl (lv_at hl 1 rfl) ?_
        refine va_get (D := D) (ci := 0) (v := .ref (a 31)) (C := "RightsLimit") (T := fT_x) (N := 8) hx hb hG fi_x hown hK hP 0 rfl rfl 5 (by decide) (hG _ wd_173) (fun _ h9 => h9) rfl d_x_give_30 ?_
        refine lv_iload_n hx hb d_x_give_33 rfl (lv_at hl 2 rfl) ?_
        refine lv_dup2_11 hx hb d_x_give_34 rfl rfl ?_
        refine va_iald hx hb hK hP 31 0 rfl rfl (rl_in (n := 100) (by omega) (by omega)) d_x_give_35 ?_
        refine lv_topi (fun v11 ev11 => ?_)
        refine lv_iload hx hb d_x_give_36 (lv_at hl 0 rfl) ?_
        refine lv_ior hx hb d_x_give_38 ?_
        refine lv_topi (fun v12 ev12 => ?_)
        refine va_iast hx hb hK hP hD hS 31 0 rfl rfl (rl_in (n := 100) (by omega) (by omega)) d_x_give_39 (fun H locs hP hD hS => ?_)
        obtain ⟨F13, eF13⟩ : ∃ G, G = rl_st F 26 jn.toNatClampNeg v12 := ⟨_, rfl⟩
        have hP : va_P D rl_cl (rl_w a kI kZ F13) H := by rw [eF13]; exact hP
        have hD : va_D A (rl_w a kI kZ F13) := by rw [eF13]; exact hD
        obtain ⟨tF13, hRF13⟩ := rl_keep eF13 (by decide) (by decide) hR
        refine lv_goto (tgt := 56) hx hb d_x_give_40 (by decide) ?_
        refine lv_iconst (v := 1) hx hb d_x_give_56 (by decide) ?_
        exact W.iret (v := 1) hx hb hr (fun t ht hW => ⟨⟨1, F13, rfl, ⟨hRF13, (show ((((0 ≤ jn.toInt ∧ jn.toInt ≤ 99) ∧ (1 ≤ jg.toInt ∧ jg.toInt ≤ 9)) ∧ (1 : Int32).toInt = 1) ∨ (¬ ((0 ≤ jn.toInt ∧ jn.toInt ≤ 99) ∧ (1 ≤ jg.toInt ∧ jg.toInt ≤ 9)) ∧ (1 : Int32).toInt = -2)) ∧ (F13 27 0).toInt = (F 27 0).toInt ∧ (F13 27 1).toInt = (F 27 1).toInt ∧ (F13 27 2).toInt = (F 27 2).toInt ∧ (F13 27 3).toInt = (F 27 3).toInt by have q9 := rl_n1; omega)⟩, ⟨by rw [ht]; exact hP, hD⟩⟩, hS.F ht⟩) hS.2.2 d_x_give_57
    · refine lv_if_ne (tgt := 20) hx hb d_x_give_14 (by decide) (fun c9 => absurd c9 (by decide)) (fun _ => ?_)
      refine lv_bipush (v := (-2)) hx hb d_x_give_17 (by decide) ?_
      exact W.iret (v := (-2)) hx hb hr (fun t ht hW => ⟨⟨(-2), F, rfl, ⟨hR, (show ((((0 ≤ jn.toInt ∧ jn.toInt ≤ 99) ∧ (1 ≤ jg.toInt ∧ jg.toInt ≤ 9)) ∧ ((-2) : Int32).toInt = 1) ∨ (¬ ((0 ≤ jn.toInt ∧ jn.toInt ≤ 99) ∧ (1 ≤ jg.toInt ∧ jg.toInt ≤ 9)) ∧ ((-2) : Int32).toInt = -2)) ∧ (F 27 0).toInt = (F 27 0).toInt ∧ (F 27 1).toInt = (F 27 1).toInt ∧ (F 27 2).toInt = (F 27 2).toInt ∧ (F 27 3).toInt = (F 27 3).toInt by have q9 := rl_nm2; omega)⟩, ⟨by rw [ht]; exact hP, hD⟩⟩, hS.F ht⟩) hS.2.2 d_x_give_19
  · refine lv_if_eq (tgt := 17) hx hb d_x_give_4 (by decide) (fun _ => ?_) (fun c9 => absurd c9 (by decide))
    refine lv_bipush (v := (-2)) hx hb d_x_give_17 (by decide) ?_
    exact W.iret (v := (-2)) hx hb hr (fun t ht hW => ⟨⟨(-2), F, rfl, ⟨hR, (show ((((0 ≤ jn.toInt ∧ jn.toInt ≤ 99) ∧ (1 ≤ jg.toInt ∧ jg.toInt ≤ 9)) ∧ ((-2) : Int32).toInt = 1) ∨ (¬ ((0 ≤ jn.toInt ∧ jn.toInt ≤ 99) ∧ (1 ≤ jg.toInt ∧ jg.toInt ≤ 9)) ∧ ((-2) : Int32).toInt = -2)) ∧ (F 27 0).toInt = (F 27 0).toInt ∧ (F 27 1).toInt = (F 27 1).toInt ∧ (F 27 2).toInt = (F 27 2).toInt ∧ (F 27 3).toInt = (F 27 3).toInt by have q9 := rl_nm2; omega)⟩, ⟨by rw [ht]; exact hP, hD⟩⟩, hS.F ht⟩) hS.2.2 d_x_give_19
set_option maxHeartbeats 4000000 in
set_option maxRecDepth 100000 in
theorem k_x_right (l : Launch) (D : va_G) (a : Nat → Nat) (kI kZ : ClassId) (F : Nat → Nat → Int32) (jt jg : Int32) (hI : rl_I F) (sz : Nat) : rl_Ci (S := Nat → Nat → Int32) l ⟨"RightsLimit", "right", "(II)I"⟩ (Cond.code ⟨"RightsLimit", "right", "(II)I"⟩ prog_1_method_10_code 3 (some .int) :: rl_G) { frames := 1, cells := 0, slots := 0, locals := 22 } D rl_cl (rl_tys kI kZ) rl_nw [.ref (a 0), .int jt, .int jg] (rl_w a kI kZ F) sz (fun (r : Int32) (F' : Nat → Nat → Int32) => rl_R F' ∧ ((((0 ≤ jt.toInt ∧ jt.toInt < (F 27 0).toInt) ∧ (0 ≤ jg.toInt ∧ jg.toInt ≤ 9) ∧ r.toInt = 1) ∨ ((0 ≤ jt.toInt ∧ jt.toInt < (F 27 0).toInt) ∧ ¬ (0 ≤ jg.toInt ∧ jg.toInt ≤ 9) ∧ r.toInt = -2) ∨ (¬ (0 ≤ jt.toInt ∧ jt.toInt < (F 27 0).toInt) ∧ r.toInt = -1)) ∧ (F' 27 0).toInt = (F 27 0).toInt ∧ (F' 27 1).toInt = (F 27 1).toInt ∧ (F' 27 2).toInt = (F 27 2).toInt ∧ (F' 27 3).toInt = (F 27 3).toInt)) (fun F' => rl_w a kI kZ F') 0 0 := by
  refine rl_meti (cc := prog_1_method_10_code) (maxL := 3) (ret := (some .int)) (by decide) rfl (Nat.le_of_ble_eq_true rfl) ?_
  intro p e s m below meth c A ls hx hb hr hml hown hts hlocks hnm hP hK hD hS hA hN hl
  have hown : s.vm.findClass "RightsLimit" = some m.cls := hown
  have hG : ∀ x ∈ rl_G, x.before _ s = true := fun x h => hts x (List.mem_cons_of_mem _ h)
  have hl : lv_has ls 3 [(0, .ref (a 0)), (1, .int jt), (2, .int jg)] := hl
  obtain ⟨hcnt, hR⟩ := id hI
  refine lv_aload_n hx hb d_x_right_0 rfl (lv_at hl 0 rfl) ?_
  refine va_get (D := D) (ci := 0) (v := .ref (a 1)) (C := "RightsLimit") (T := fT_x) (N := 8) hx hb hG fi_x hown hK hP 0 rfl rfl 0 (by decide) (hG _ wd_168) (fun _ h9 => h9) rfl d_x_right_1 ?_
  refine lv_iload_n hx hb d_x_right_4 rfl (lv_at hl 1 rfl) ?_
  have hpre := rl_BR.pre (av := .ref (a 1) :: [.int jt]) rl_nw_ok hP hK hN
  refine rl_callr hS (va_runV (As := [.int jt]) (rest := []) ⟨hx, hb, hml, hown, hG⟩ (k_t_has l D a kI kZ F jt ⟨by omega, hR⟩ _) (cwV 1 hG (rl_gV wd_211 wd_212 wd_213 wd_15 wd_214) rfl rfl rfl (by decide +kernel) ⟨Nat.le_of_ble_eq_true rfl, Nat.le_of_ble_eq_true rfl⟩) ⟨hpre.1, (va_recv hK hP (ci := 1) (q0 := 1) rfl rfl), hpre.2⟩ rfl rfl hl.1 rfl (lv_room (Nat.le_of_ble_eq_true rfl)) d_x_right_5 ⟨Nat.le_of_ble_eq_true rfl, Nat.le_of_ble_eq_true rfl⟩) (fun r1 locs hw hS => ?_)
  rcases hw with ⟨rfl, h2⟩ | ⟨rfl, h2⟩
  · refine lv_if_ne (tgt := 13) hx hb d_x_right_8 (by decide) (fun _ => ?_) (fun c9 => absurd c9 (by decide))
    refine lv_iload_n hx hb d_x_right_13 rfl (lv_at hl 2 rfl) ?_
    refine lv_iconst (v := 0) hx hb d_x_right_14 (by decide) ?_
    refine lv_bipush (v := 9) hx hb d_x_right_15 (by decide) ?_
    refine rl_callr hS (va_runS (As := [.int jg, .int 0, .int 9]) (rest := []) ⟨hx, hb, hml, hown, hG⟩ (k_x_isBetween l D a kI kZ jg 0 9 _) (cwS 3 hG (rl_gS wd_200 wd_201 wd_14 wd_202) rfl rfl rfl (by decide +kernel) ⟨Nat.le_of_ble_eq_true rfl, Nat.le_of_ble_eq_true rfl⟩) (rl_BR.pre rl_nw_ok rl_P0 hK hN) rfl rfl hl.1 rfl (lv_room (Nat.le_of_ble_eq_true rfl)) d_x_right_17 ⟨Nat.le_of_ble_eq_true rfl, Nat.le_of_ble_eq_true rfl⟩) (fun r3 locs hw hS => ?_)
    try simp only [rl_n0, rl_n9] at hw
    rcases hw with ⟨rfl, h4⟩ | ⟨rfl, h4⟩
    · refine lv_if_ne (tgt := 26) hx hb d_x_right_20 (by decide) (fun _ => ?_) (fun c9 => absurd c9 (by decide))
      refine lv_aload_n hx hb d_x_right_26 rfl (lv_at hl 0 rfl) ?_
      refine va_get (D := D) (ci := 0) (v := .ref (a 1)) (C := "RightsLimit") (T := fT_x) (N := 8) hx hb hG fi_x hown hK hP 0 rfl rfl 0 (by decide) (hG _ wd_168) (fun _ h9 => h9) rfl d_x_right_27 ?_
      refine va_get (D := D) (ci := 1) (v := .ref (a 7)) (C := "RightsLimit$Titles") (T := fT_t) (N := 5) hx hb hG fi_t hown hK hP 1 rfl rfl 2 (by decide) (hG _ wd_43) (fun _ h9 => h9) rfl d_x_right_30 ?_
      refine lv_iload_n hx hb d_x_right_33 rfl (lv_at hl 1 rfl) ?_
      refine lv_iload_n hx hb d_x_right_34 rfl (lv_at hl 2 rfl) ?_
      refine va_iast hx hb hK hP hD hS 7 0 rfl rfl (rl_in (n := 50) (by omega) (by omega)) d_x_right_35 (fun H locs hP hD hS => ?_)
      obtain ⟨F5, eF5⟩ : ∃ G, G = rl_st F 2 jt.toNatClampNeg jg := ⟨_, rfl⟩
      have hP : va_P D rl_cl (rl_w a kI kZ F5) H := by rw [eF5]; exact hP
      have hD : va_D A (rl_w a kI kZ F5) := by rw [eF5]; exact hD
      obtain ⟨tF5, hRF5⟩ := rl_keep eF5 (by decide) (by decide) hR
      refine lv_iconst (v := 1) hx hb d_x_right_36 (by decide) ?_
      exact W.iret (v := 1) hx hb hr (fun t ht hW => ⟨⟨1, F5, rfl, ⟨hRF5, (show (((0 ≤ jt.toInt ∧ jt.toInt < (F 27 0).toInt) ∧ (0 ≤ jg.toInt ∧ jg.toInt ≤ 9) ∧ (1 : Int32).toInt = 1) ∨ ((0 ≤ jt.toInt ∧ jt.toInt < (F 27 0).toInt) ∧ ¬ (0 ≤ jg.toInt ∧ jg.toInt ≤ 9) ∧ (1 : Int32).toInt = -2) ∨ (¬ (0 ≤ jt.toInt ∧ jt.toInt < (F 27 0).toInt) ∧ (1 : Int32).toInt = -1)) ∧ (F5 27 0).toInt = (F 27 0).toInt ∧ (F5 27 1).toInt = (F 27 1).toInt ∧ (F5 27 2).toInt = (F 27 2).toInt ∧ (F5 27 3).toInt = (F 27 3).toInt by have q9 := rl_n1; omega)⟩, ⟨by rw [ht]; exact hP, hD⟩⟩, hS.F ht⟩) hS.2.2 d_x_right_37
    · refine lv_if_ne (tgt := 26) hx hb d_x_right_20 (by decide) (fun c9 => absurd c9 (by decide)) (fun _ => ?_)
      refine lv_bipush (v := (-2)) hx hb d_x_right_23 (by decide) ?_
      exact W.iret (v := (-2)) hx hb hr (fun t ht hW => ⟨⟨(-2), F, rfl, ⟨hR, (show (((0 ≤ jt.toInt ∧ jt.toInt < (F 27 0).toInt) ∧ (0 ≤ jg.toInt ∧ jg.toInt ≤ 9) ∧ ((-2) : Int32).toInt = 1) ∨ ((0 ≤ jt.toInt ∧ jt.toInt < (F 27 0).toInt) ∧ ¬ (0 ≤ jg.toInt ∧ jg.toInt ≤ 9) ∧ ((-2) : Int32).toInt = -2) ∨ (¬ (0 ≤ jt.toInt ∧ jt.toInt < (F 27 0).toInt) ∧ ((-2) : Int32).toInt = -1)) ∧ (F 27 0).toInt = (F 27 0).toInt ∧ (F 27 1).toInt = (F 27 1).toInt ∧ (F 27 2).toInt = (F 27 2).toInt ∧ (F 27 3).toInt = (F 27 3).toInt by have q9 := rl_nm2; omega)⟩, ⟨by rw [ht]; exact hP, hD⟩⟩, hS.F ht⟩) hS.2.2 d_x_right_25
  · refine lv_if_ne (tgt := 13) hx hb d_x_right_8 (by decide) (fun c9 => absurd c9 (by decide)) (fun _ => ?_)
    refine lv_iconst (v := (-1)) hx hb d_x_right_11 (by decide) ?_
    exact W.iret (v := (-1)) hx hb hr (fun t ht hW => ⟨⟨(-1), F, rfl, ⟨hR, (show (((0 ≤ jt.toInt ∧ jt.toInt < (F 27 0).toInt) ∧ (0 ≤ jg.toInt ∧ jg.toInt ≤ 9) ∧ ((-1) : Int32).toInt = 1) ∨ ((0 ≤ jt.toInt ∧ jt.toInt < (F 27 0).toInt) ∧ ¬ (0 ≤ jg.toInt ∧ jg.toInt ≤ 9) ∧ ((-1) : Int32).toInt = -2) ∨ (¬ (0 ≤ jt.toInt ∧ jt.toInt < (F 27 0).toInt) ∧ ((-1) : Int32).toInt = -1)) ∧ (F 27 0).toInt = (F 27 0).toInt ∧ (F 27 1).toInt = (F 27 1).toInt ∧ (F 27 2).toInt = (F 27 2).toInt ∧ (F 27 3).toInt = (F 27 3).toInt by have q9 := rl_nm1; omega)⟩, ⟨by rw [ht]; exact hP, hD⟩⟩, hS.F ht⟩) hS.2.2 d_x_right_12
set_option maxHeartbeats 4000000 in
set_option maxRecDepth 100000 in
theorem k_x_waive (l : Launch) (D : va_G) (a : Nat → Nat) (kI kZ : ClassId) (F : Nat → Nat → Int32) (jt jn : Int32) (hI : rl_I F) (sz : Nat) : rl_Ci (S := Nat → Nat → Int32) l ⟨"RightsLimit", "waive", "(II)I"⟩ (Cond.code ⟨"RightsLimit", "waive", "(II)I"⟩ prog_1_method_11_code 3 (some .int) :: rl_G) { frames := 2, cells := 0, slots := 0, locals := 42 } D rl_cl (rl_tys kI kZ) rl_nw [.ref (a 0), .int jt, .int jn] (rl_w a kI kZ F) sz (fun (r : Int32) (F' : Nat → Nat → Int32) => rl_R F' ∧ ((F' 27 0).toInt = (F 27 0).toInt ∧ (F' 27 1).toInt = (F 27 1).toInt ∧ (F' 27 2).toInt = (F 27 2).toInt ∧ 0 ≤ (F' 27 3).toInt ∧ (F' 27 3).toInt ≤ 300)) (fun F' => rl_w a kI kZ F') 0 0 := by
  refine rl_meti (cc := prog_1_method_11_code) (maxL := 3) (ret := (some .int)) (by decide) rfl (Nat.le_of_ble_eq_true rfl) ?_
  intro p e s m below meth c A ls hx hb hr hml hown hts hlocks hnm hP hK hD hS hA hN hl
  have hown : s.vm.findClass "RightsLimit" = some m.cls := hown
  have hG : ∀ x ∈ rl_G, x.before _ s = true := fun x h => hts x (List.mem_cons_of_mem _ h)
  have hl : lv_has ls 3 [(0, .ref (a 0)), (1, .int jt), (2, .int jn)] := hl
  obtain ⟨hcnt, hR⟩ := id hI
  refine lv_aload_n hx hb d_x_waive_0 rfl (lv_at hl 0 rfl) ?_
  refine va_get (D := D) (ci := 0) (v := .ref (a 1)) (C := "RightsLimit") (T := fT_x) (N := 8) hx hb hG fi_x hown hK hP 0 rfl rfl 0 (by decide) (hG _ wd_168) (fun _ h9 => h9) rfl d_x_waive_1 ?_
  refine lv_iload_n hx hb d_x_waive_4 rfl (lv_at hl 1 rfl) ?_
  have hpre := rl_BR.pre (av := .ref (a 1) :: [.int jt]) rl_nw_ok hP hK hN
  refine rl_callr hS (va_runV (As := [.int jt]) (rest := []) ⟨hx, hb, hml, hown, hG⟩ (k_t_has l D a kI kZ F jt ⟨by omega, hR⟩ _) (cwV 1 hG (rl_gV wd_211 wd_212 wd_213 wd_15 wd_214) rfl rfl rfl (by decide +kernel) ⟨Nat.le_of_ble_eq_true rfl, Nat.le_of_ble_eq_true rfl⟩) ⟨hpre.1, (va_recv hK hP (ci := 1) (q0 := 1) rfl rfl), hpre.2⟩ rfl rfl hl.1 rfl (lv_room (Nat.le_of_ble_eq_true rfl)) d_x_waive_5 ⟨Nat.le_of_ble_eq_true rfl, Nat.le_of_ble_eq_true rfl⟩) (fun r1 locs hw hS => ?_)
  rcases hw with ⟨rfl, h2⟩ | ⟨rfl, h2⟩
  · refine lv_if_ne (tgt := 13) hx hb d_x_waive_8 (by decide) (fun _ => ?_) (fun c9 => absurd c9 (by decide))
    refine lv_iload_n hx hb d_x_waive_13 rfl (lv_at hl 2 rfl) ?_
    refine rl_callr hS (va_runS (As := [.int jn]) (rest := []) ⟨hx, hb, hml, hown, hG⟩ (k_x_isPerson l D a kI kZ jn _) (cwS 1 hG (rl_gS wd_252 wd_253 wd_14 wd_254) rfl rfl rfl (by decide +kernel) ⟨Nat.le_of_ble_eq_true rfl, Nat.le_of_ble_eq_true rfl⟩) (rl_BR.pre rl_nw_ok rl_P0 hK hN) rfl rfl hl.1 rfl (lv_room (Nat.le_of_ble_eq_true rfl)) d_x_waive_14 ⟨Nat.le_of_ble_eq_true rfl, Nat.le_of_ble_eq_true rfl⟩) (fun r3 locs hw hS => ?_)
    rcases hw with ⟨rfl, h4⟩ | ⟨rfl, h4⟩
    · refine lv_if_ne (tgt := 23) hx hb d_x_waive_17 (by decide) (fun _ => ?_) (fun c9 => absurd c9 (by decide))
      refine lv_aload_n hx hb d_x_waive_23 rfl (lv_at hl 0 rfl) ?_
      refine lv_iload_n hx hb d_x_waive_24 rfl (lv_at hl 1 rfl) ?_
      refine lv_iload_n hx hb d_x_waive_25 rfl (lv_at hl 2 rfl) ?_
      have hpre := rl_BR.pre (av := .ref (a 0) :: [.int jt, .int jn]) rl_nw_ok hP hK hN
      refine rl_callr hS (va_runV (As := [.int jt, .int jn]) (rest := []) ⟨hx, hb, hml, hown, hG⟩ (k_x_mayWaive l D a kI kZ F jt jn ⟨by omega, hR⟩ (by omega) (by omega) (by omega) (by omega) _) (cwV 2 hG (rl_gV wd_323 wd_325 wd_4 wd_14 wd_326) rfl rfl rfl (by decide +kernel) ⟨Nat.le_of_ble_eq_true rfl, Nat.le_of_ble_eq_true rfl⟩) ⟨hpre.1, (va_recv hK hP (ci := 0) (q0 := 0) rfl rfl), hpre.2⟩ rfl rfl hl.1 rfl (lv_room (Nat.le_of_ble_eq_true rfl)) d_x_waive_26 ⟨Nat.le_of_ble_eq_true rfl, Nat.le_of_ble_eq_true rfl⟩) (fun r5 locs hw hS => ?_)
      rcases hw with ⟨rfl, h6⟩ | ⟨rfl, h6⟩
      · refine lv_if_ne (tgt := 35) hx hb d_x_waive_29 (by decide) (fun _ => ?_) (fun c9 => absurd c9 (by decide))
        refine lv_aload_n hx hb d_x_waive_35 rfl (lv_at hl 0 rfl) ?_
        refine va_get (D := D) (ci := 0) (v := .ref (a 1)) (C := "RightsLimit") (T := fT_x) (N := 8) hx hb hG fi_x hown hK hP 0 rfl rfl 0 (by decide) (hG _ wd_168) (fun _ h9 => h9) rfl d_x_waive_36 ?_
        refine va_get (D := D) (ci := 1) (v := .ref (a 8)) (C := "RightsLimit$Titles") (T := fT_t) (N := 5) hx hb hG fi_t hown hK hP 1 rfl rfl 3 (by decide) (hG _ wd_45) (fun _ h9 => h9) rfl d_x_waive_39 ?_
        refine lv_iload_n hx hb d_x_waive_42 rfl (lv_at hl 1 rfl) ?_
        refine va_iald hx hb hK hP 8 0 rfl rfl (rl_in (n := 50) (by omega) (by omega)) d_x_waive_43 ?_
        refine lv_topi (fun v7 ev7 => ?_)
        refine lv_bipush (v := 20) hx hb d_x_waive_44 (by decide) ?_
        refine lv_icmp_lt (tgt := 52) hx hb d_x_waive_46 (by decide) (fun c8 => ?_) (fun c8 => ?_)
        · have ic8 := rl_ilt c8
          simp only [rl_n20] at ic8
          refine lv_aload_n hx hb d_x_waive_52 rfl (lv_at hl 0 rfl) ?_
          refine va_get (D := D) (ci := 0) (v := .ref (a 1)) (C := "RightsLimit") (T := fT_x) (N := 8) hx hb hG fi_x hown hK hP 0 rfl rfl 0 (by decide) (hG _ wd_168) (fun _ h9 => h9) rfl d_x_waive_53 ?_
          refine va_get (D := D) (ci := 1) (v := .ref (a 8)) (C := "RightsLimit$Titles") (T := fT_t) (N := 5) hx hb hG fi_t hown hK hP 1 rfl rfl 3 (by decide) (hG _ wd_45) (fun _ h9 => h9) rfl d_x_waive_56 ?_
          refine lv_iload_n hx hb d_x_waive_59 rfl (lv_at hl 1 rfl) ?_
          refine lv_dup2_11 hx hb d_x_waive_60 rfl rfl ?_
          refine va_iald hx hb hK hP 8 0 rfl rfl (rl_in (n := 50) (by omega) (by omega)) d_x_waive_61 ?_
          refine lv_topi (fun v9 ev9 => ?_)
          refine lv_iconst (v := 1) hx hb d_x_waive_62 (by decide) ?_
          refine lv_iadd hx hb d_x_waive_63 ?_
          refine lv_topi (fun v10 ev10 => ?_)
          refine va_iast hx hb hK hP hD hS 8 0 rfl rfl (rl_in (n := 50) (by omega) (by omega)) d_x_waive_64 (fun H locs hP hD hS => ?_)
          obtain ⟨F11, eF11⟩ : ∃ G, G = rl_st F 3 jt.toNatClampNeg v10 := ⟨_, rfl⟩
          have hP : va_P D rl_cl (rl_w a kI kZ F11) H := by rw [eF11]; exact hP
          have hD : va_D A (rl_w a kI kZ F11) := by rw [eF11]; exact hD
          obtain ⟨tF11, hRF11⟩ := rl_keep eF11 (by decide) (by decide) hR
          refine lv_aload_n hx hb d_x_waive_65 rfl (lv_at hl 0 rfl) ?_
          refine va_get (D := D) (ci := 0) (v := .ref (a 1)) (C := "RightsLimit") (T := fT_x) (N := 8) hx hb hG fi_x hown hK hP 0 rfl rfl 0 (by decide) (hG _ wd_168) (fun _ h9 => h9) rfl d_x_waive_66 ?_
          refine va_get (D := D) (ci := 1) (v := .ref (a 8)) (C := "RightsLimit$Titles") (T := fT_t) (N := 5) hx hb hG fi_t hown hK hP 1 rfl rfl 3 (by decide) (hG _ wd_45) (fun _ h9 => h9) rfl d_x_waive_69 ?_
          refine lv_iload_n hx hb d_x_waive_72 rfl (lv_at hl 1 rfl) ?_
          refine va_iald hx hb hK hP 8 0 rfl rfl (rl_in (n := 50) (by omega) (by omega)) d_x_waive_73 ?_
          refine lv_topi (fun v12 ev12 => ?_)
          exact W.iret (v := v12) hx hb hr (fun t ht hW => ⟨⟨v12, F11, rfl, ⟨hRF11, (show (F11 27 0).toInt = (F 27 0).toInt ∧ (F11 27 1).toInt = (F 27 1).toInt ∧ (F11 27 2).toInt = (F 27 2).toInt ∧ 0 ≤ (F11 27 3).toInt ∧ (F11 27 3).toInt ≤ 300 by omega)⟩, ⟨by rw [ht]; exact hP, hD⟩⟩, hS.F ht⟩) hS.2.2 d_x_waive_74
        · have ic8 := rl_inlt c8
          simp only [rl_n20] at ic8
          refine lv_bipush (v := (-4)) hx hb d_x_waive_49 (by decide) ?_
          exact W.iret (v := (-4)) hx hb hr (fun t ht hW => ⟨⟨(-4), F, rfl, ⟨hR, (show (F 27 0).toInt = (F 27 0).toInt ∧ (F 27 1).toInt = (F 27 1).toInt ∧ (F 27 2).toInt = (F 27 2).toInt ∧ 0 ≤ (F 27 3).toInt ∧ (F 27 3).toInt ≤ 300 by have q9 := rl_nm4; omega)⟩, ⟨by rw [ht]; exact hP, hD⟩⟩, hS.F ht⟩) hS.2.2 d_x_waive_51
      · refine lv_if_ne (tgt := 35) hx hb d_x_waive_29 (by decide) (fun c9 => absurd c9 (by decide)) (fun _ => ?_)
        refine lv_bipush (v := (-3)) hx hb d_x_waive_32 (by decide) ?_
        exact W.iret (v := (-3)) hx hb hr (fun t ht hW => ⟨⟨(-3), F, rfl, ⟨hR, (show (F 27 0).toInt = (F 27 0).toInt ∧ (F 27 1).toInt = (F 27 1).toInt ∧ (F 27 2).toInt = (F 27 2).toInt ∧ 0 ≤ (F 27 3).toInt ∧ (F 27 3).toInt ≤ 300 by have q9 := rl_nm3; omega)⟩, ⟨by rw [ht]; exact hP, hD⟩⟩, hS.F ht⟩) hS.2.2 d_x_waive_34
    · refine lv_if_ne (tgt := 23) hx hb d_x_waive_17 (by decide) (fun c9 => absurd c9 (by decide)) (fun _ => ?_)
      refine lv_bipush (v := (-2)) hx hb d_x_waive_20 (by decide) ?_
      exact W.iret (v := (-2)) hx hb hr (fun t ht hW => ⟨⟨(-2), F, rfl, ⟨hR, (show (F 27 0).toInt = (F 27 0).toInt ∧ (F 27 1).toInt = (F 27 1).toInt ∧ (F 27 2).toInt = (F 27 2).toInt ∧ 0 ≤ (F 27 3).toInt ∧ (F 27 3).toInt ≤ 300 by have q9 := rl_nm2; omega)⟩, ⟨by rw [ht]; exact hP, hD⟩⟩, hS.F ht⟩) hS.2.2 d_x_waive_22
  · refine lv_if_ne (tgt := 13) hx hb d_x_waive_8 (by decide) (fun c9 => absurd c9 (by decide)) (fun _ => ?_)
    refine lv_iconst (v := (-1)) hx hb d_x_waive_11 (by decide) ?_
    exact W.iret (v := (-1)) hx hb hr (fun t ht hW => ⟨⟨(-1), F, rfl, ⟨hR, (show (F 27 0).toInt = (F 27 0).toInt ∧ (F 27 1).toInt = (F 27 1).toInt ∧ (F 27 2).toInt = (F 27 2).toInt ∧ 0 ≤ (F 27 3).toInt ∧ (F 27 3).toInt ≤ 300 by have q9 := rl_nm1; omega)⟩, ⟨by rw [ht]; exact hP, hD⟩⟩, hS.F ht⟩) hS.2.2 d_x_waive_12
set_option maxHeartbeats 4000000 in
set_option maxRecDepth 100000 in
theorem k_x_renew (l : Launch) (D : va_G) (a : Nat → Nat) (kI kZ : ClassId) (F : Nat → Nat → Int32) (jn jt : Int32) (hI : rl_I F) (sz : Nat) : rl_Ci (S := Nat → Nat → Int32) l ⟨"RightsLimit", "renew", "(II)I"⟩ (Cond.code ⟨"RightsLimit", "renew", "(II)I"⟩ prog_1_method_12_code 3 (some .int) :: rl_G) { frames := 3, cells := 0, slots := 0, locals := 64 } D rl_cl (rl_tys kI kZ) rl_nw [.ref (a 0), .int jn, .int jt] (rl_w a kI kZ F) sz (fun (r : Int32) (F' : Nat → Nat → Int32) => rl_R F' ∧ ((F' 27 0).toInt = (F 27 0).toInt ∧ (F' 27 1).toInt = (F 27 1).toInt ∧ (F' 27 2).toInt = (F 27 2).toInt ∧ 0 ≤ (F' 27 3).toInt ∧ (F' 27 3).toInt ≤ 300)) (fun F' => rl_w a kI kZ F') 0 0 := by
  refine rl_meti (cc := prog_1_method_12_code) (maxL := 3) (ret := (some .int)) (by decide) rfl (Nat.le_of_ble_eq_true rfl) ?_
  intro p e s m below meth c A ls hx hb hr hml hown hts hlocks hnm hP hK hD hS hA hN hl
  have hown : s.vm.findClass "RightsLimit" = some m.cls := hown
  have hG : ∀ x ∈ rl_G, x.before _ s = true := fun x h => hts x (List.mem_cons_of_mem _ h)
  have hl : lv_has ls 3 [(0, .ref (a 0)), (1, .int jn), (2, .int jt)] := hl
  obtain ⟨hcnt, hR⟩ := id hI
  refine lv_aload_n hx hb d_x_renew_0 rfl (lv_at hl 0 rfl) ?_
  refine va_get (D := D) (ci := 0) (v := .ref (a 4)) (C := "RightsLimit") (T := fT_x) (N := 8) hx hb hG fi_x hown hK hP 0 rfl rfl 3 (by decide) (hG _ wd_171) (fun _ h9 => h9) rfl d_x_renew_1 ?_
  refine lv_iload_n hx hb d_x_renew_4 rfl (lv_at hl 1 rfl) ?_
  have hpre := rl_BR.pre (av := .ref (a 4) :: [.int jn]) rl_nw_ok hP hK hN
  refine rl_callr hS (va_runV (As := [.int jn]) (rest := []) ⟨hx, hb, hml, hown, hG⟩ (k_q_has l D a kI kZ F jn ⟨by omega, hR⟩ _) (cwV 1 hG (rl_gV wd_331 wd_332 wd_333 wd_18 wd_334) rfl rfl rfl (by decide +kernel) ⟨Nat.le_of_ble_eq_true rfl, Nat.le_of_ble_eq_true rfl⟩) ⟨hpre.1, (va_recv hK hP (ci := 4) (q0 := 4) rfl rfl), hpre.2⟩ rfl rfl hl.1 rfl (lv_room (Nat.le_of_ble_eq_true rfl)) d_x_renew_5 ⟨Nat.le_of_ble_eq_true rfl, Nat.le_of_ble_eq_true rfl⟩) (fun r1 locs hw hS => ?_)
  rcases hw with ⟨rfl, h2⟩ | ⟨rfl, h2⟩
  · refine lv_if_ne (tgt := 13) hx hb d_x_renew_8 (by decide) (fun _ => ?_) (fun c9 => absurd c9 (by decide))
    refine lv_aload_n hx hb d_x_renew_13 rfl (lv_at hl 0 rfl) ?_
    refine lv_iload_n hx hb d_x_renew_14 rfl (lv_at hl 2 rfl) ?_
    have hpre := rl_B.pre (av := .ref (a 0) :: [.int jt]) rl_nw_ok hP hK hD hN
    refine rl_calli0 hP hD hS hA (va_runV (As := [.int jt]) (rest := []) ⟨hx, hb, hml, hown, hG⟩ (k_x_goOnTo l D a kI kZ F jt ⟨by omega, hR⟩ _) (cwV 1 hG (rl_gV wd_255 wd_257 wd_0 wd_14 wd_258) rfl rfl rfl (by decide +kernel) ⟨Nat.le_of_ble_eq_true rfl, Nat.le_of_ble_eq_true rfl⟩) ⟨hpre.1, (va_recv hK hP (ci := 0) (q0 := 0) rfl rfl), hpre.2⟩ rfl rfl hl.1 rfl (lv_room (Nat.le_of_ble_eq_true rfl)) d_x_renew_15 ⟨Nat.le_of_ble_eq_true rfl, Nat.le_of_ble_eq_true rfl⟩) (fun r3 F4 H locs hw hP hD hS => ?_)
    have hP : va_P D rl_cl (rl_w a kI kZ F4) H := hP
    have hD : va_D A (rl_w a kI kZ F4) := hD
    obtain ⟨hRF4, hw⟩ := hw
    rcases hw with ⟨rfl, h5⟩ | ⟨rfl, h5⟩
    · refine lv_if_ne (tgt := 24) hx hb d_x_renew_18 (by decide) (fun _ => ?_) (fun c9 => absurd c9 (by decide))
      refine lv_aload_n hx hb d_x_renew_24 rfl (lv_at hl 0 rfl) ?_
      refine va_get (D := D) (ci := 0) (v := .ref (a 4)) (C := "RightsLimit") (T := fT_x) (N := 8) hx hb hG fi_x hown hK hP 0 rfl rfl 3 (by decide) (hG _ wd_171) (fun _ h9 => h9) rfl d_x_renew_25 ?_
      refine lv_iload_n hx hb d_x_renew_28 rfl (lv_at hl 1 rfl) ?_
      refine lv_iload_n hx hb d_x_renew_29 rfl (lv_at hl 2 rfl) ?_
      have hpre := rl_BR.pre (av := .ref (a 4) :: [.int jn, .int jt]) rl_nw_ok hP hK hN
      refine rl_callr hS (va_runV (As := [.int jn, .int jt]) (rest := []) ⟨hx, hb, hml, hown, hG⟩ (k_q_isRenewable l D a kI kZ F4 jn jt ⟨by omega, hRF4⟩ (by omega) (by omega) _) (cwV 2 hG (rl_gV wd_335 wd_336 wd_337 wd_18 wd_338) rfl rfl rfl (by decide +kernel) ⟨Nat.le_of_ble_eq_true rfl, Nat.le_of_ble_eq_true rfl⟩) ⟨hpre.1, (va_recv hK hP (ci := 4) (q0 := 4) rfl rfl), hpre.2⟩ rfl rfl hl.1 rfl (lv_room (Nat.le_of_ble_eq_true rfl)) d_x_renew_30 ⟨Nat.le_of_ble_eq_true rfl, Nat.le_of_ble_eq_true rfl⟩) (fun r6 locs hw hS => ?_)
      rcases hw with ⟨rfl, h7⟩ | ⟨rfl, h7⟩
      · refine lv_if_ne (tgt := 39) hx hb d_x_renew_33 (by decide) (fun _ => ?_) (fun c9 => absurd c9 (by decide))
        refine lv_aload_n hx hb d_x_renew_39 rfl (lv_at hl 0 rfl) ?_
        refine va_get (D := D) (ci := 0) (v := .ref (a 4)) (C := "RightsLimit") (T := fT_x) (N := 8) hx hb hG fi_x hown hK hP 0 rfl rfl 3 (by decide) (hG _ wd_171) (fun _ h9 => h9) rfl d_x_renew_40 ?_
        refine lv_iload_n hx hb d_x_renew_43 rfl (lv_at hl 1 rfl) ?_
        have hpre := rl_B.pre (av := .ref (a 4) :: [.int jn]) rl_nw_ok hP hK hD hN
        refine rl_calli0 hP hD hS hA (va_runV (As := [.int jn]) (rest := []) ⟨hx, hb, hml, hown, hG⟩ (k_q_prolong l D a kI kZ F4 jn ⟨by omega, hRF4⟩ (by omega) (by omega) _) (cwV 1 hG (rl_gV wd_348 wd_349 wd_350 wd_18 wd_351) rfl rfl rfl (by decide +kernel) ⟨Nat.le_of_ble_eq_true rfl, Nat.le_of_ble_eq_true rfl⟩) ⟨hpre.1, (va_recv hK hP (ci := 4) (q0 := 4) rfl rfl), hpre.2⟩ rfl rfl hl.1 rfl (lv_room (Nat.le_of_ble_eq_true rfl)) d_x_renew_44 ⟨Nat.le_of_ble_eq_true rfl, Nat.le_of_ble_eq_true rfl⟩) (fun r8 F9 H locs hw hP hD hS => ?_)
        have hP : va_P D rl_cl (rl_w a kI kZ F9) H := hP
        have hD : va_D A (rl_w a kI kZ F9) := hD
        obtain ⟨hRF9, hw⟩ := hw
        have hwr8 := hw
        exact W.iret (v := r8) hx hb hr (fun t ht hW => ⟨⟨r8, F9, rfl, ⟨hRF9, (show (F9 27 0).toInt = (F 27 0).toInt ∧ (F9 27 1).toInt = (F 27 1).toInt ∧ (F9 27 2).toInt = (F 27 2).toInt ∧ 0 ≤ (F9 27 3).toInt ∧ (F9 27 3).toInt ≤ 300 by omega)⟩, ⟨by rw [ht]; exact hP, hD⟩⟩, hS.F ht⟩) hS.2.2 d_x_renew_47
      · refine lv_if_ne (tgt := 39) hx hb d_x_renew_33 (by decide) (fun c9 => absurd c9 (by decide)) (fun _ => ?_)
        refine lv_bipush (v := (-3)) hx hb d_x_renew_36 (by decide) ?_
        exact W.iret (v := (-3)) hx hb hr (fun t ht hW => ⟨⟨(-3), F4, rfl, ⟨hRF4, (show (F4 27 0).toInt = (F 27 0).toInt ∧ (F4 27 1).toInt = (F 27 1).toInt ∧ (F4 27 2).toInt = (F 27 2).toInt ∧ 0 ≤ (F4 27 3).toInt ∧ (F4 27 3).toInt ≤ 300 by have q9 := rl_nm3; omega)⟩, ⟨by rw [ht]; exact hP, hD⟩⟩, hS.F ht⟩) hS.2.2 d_x_renew_38
    · refine lv_if_ne (tgt := 24) hx hb d_x_renew_18 (by decide) (fun c9 => absurd c9 (by decide)) (fun _ => ?_)
      refine lv_bipush (v := (-2)) hx hb d_x_renew_21 (by decide) ?_
      exact W.iret (v := (-2)) hx hb hr (fun t ht hW => ⟨⟨(-2), F4, rfl, ⟨hRF4, (show (F4 27 0).toInt = (F 27 0).toInt ∧ (F4 27 1).toInt = (F 27 1).toInt ∧ (F4 27 2).toInt = (F 27 2).toInt ∧ 0 ≤ (F4 27 3).toInt ∧ (F4 27 3).toInt ≤ 300 by have q9 := rl_nm2; omega)⟩, ⟨by rw [ht]; exact hP, hD⟩⟩, hS.F ht⟩) hS.2.2 d_x_renew_23
  · refine lv_if_ne (tgt := 13) hx hb d_x_renew_8 (by decide) (fun c9 => absurd c9 (by decide)) (fun _ => ?_)
    refine lv_iconst (v := (-1)) hx hb d_x_renew_11 (by decide) ?_
    exact W.iret (v := (-1)) hx hb hr (fun t ht hW => ⟨⟨(-1), F, rfl, ⟨hR, (show (F 27 0).toInt = (F 27 0).toInt ∧ (F 27 1).toInt = (F 27 1).toInt ∧ (F 27 2).toInt = (F 27 2).toInt ∧ 0 ≤ (F 27 3).toInt ∧ (F 27 3).toInt ≤ 300 by have q9 := rl_nm1; omega)⟩, ⟨by rw [ht]; exact hP, hD⟩⟩, hS.F ht⟩) hS.2.2 d_x_renew_12
set_option maxHeartbeats 4000000 in
set_option maxRecDepth 100000 in
theorem k_x_delete (l : Launch) (D : va_G) (a : Nat → Nat) (kI kZ : ClassId) (F : Nat → Nat → Int32) (jn jt : Int32) (hI : rl_I F) (sz : Nat) : rl_Ci (S := Nat → Nat → Int32) l ⟨"RightsLimit", "delete", "(II)I"⟩ (Cond.code ⟨"RightsLimit", "delete", "(II)I"⟩ prog_1_method_13_code 3 (some .int) :: rl_G) { frames := 2, cells := 0, slots := 0, locals := 43 } D rl_cl (rl_tys kI kZ) rl_nw [.ref (a 0), .int jn, .int jt] (rl_w a kI kZ F) sz (fun (r : Int32) (F' : Nat → Nat → Int32) => rl_R F' ∧ ((F' 27 0).toInt = (F 27 0).toInt ∧ (F' 27 1).toInt = (F 27 1).toInt ∧ (F' 27 2).toInt = (F 27 2).toInt ∧ 0 ≤ (F' 27 3).toInt ∧ (F' 27 3).toInt ≤ 300)) (fun F' => rl_w a kI kZ F') 0 0 := by
  refine rl_meti (cc := prog_1_method_13_code) (maxL := 3) (ret := (some .int)) (by decide) rfl (Nat.le_of_ble_eq_true rfl) ?_
  intro p e s m below meth c A ls hx hb hr hml hown hts hlocks hnm hP hK hD hS hA hN hl
  have hown : s.vm.findClass "RightsLimit" = some m.cls := hown
  have hG : ∀ x ∈ rl_G, x.before _ s = true := fun x h => hts x (List.mem_cons_of_mem _ h)
  have hl : lv_has ls 3 [(0, .ref (a 0)), (1, .int jn), (2, .int jt)] := hl
  obtain ⟨hcnt, hR⟩ := id hI
  refine lv_aload_n hx hb d_x_delete_0 rfl (lv_at hl 0 rfl) ?_
  refine va_get (D := D) (ci := 0) (v := .ref (a 4)) (C := "RightsLimit") (T := fT_x) (N := 8) hx hb hG fi_x hown hK hP 0 rfl rfl 3 (by decide) (hG _ wd_171) (fun _ h9 => h9) rfl d_x_delete_1 ?_
  refine lv_iload_n hx hb d_x_delete_4 rfl (lv_at hl 1 rfl) ?_
  have hpre := rl_BR.pre (av := .ref (a 4) :: [.int jn]) rl_nw_ok hP hK hN
  refine rl_callr hS (va_runV (As := [.int jn]) (rest := []) ⟨hx, hb, hml, hown, hG⟩ (k_q_has l D a kI kZ F jn ⟨by omega, hR⟩ _) (cwV 1 hG (rl_gV wd_331 wd_332 wd_333 wd_18 wd_334) rfl rfl rfl (by decide +kernel) ⟨Nat.le_of_ble_eq_true rfl, Nat.le_of_ble_eq_true rfl⟩) ⟨hpre.1, (va_recv hK hP (ci := 4) (q0 := 4) rfl rfl), hpre.2⟩ rfl rfl hl.1 rfl (lv_room (Nat.le_of_ble_eq_true rfl)) d_x_delete_5 ⟨Nat.le_of_ble_eq_true rfl, Nat.le_of_ble_eq_true rfl⟩) (fun r1 locs hw hS => ?_)
  rcases hw with ⟨rfl, h2⟩ | ⟨rfl, h2⟩
  · refine lv_if_ne (tgt := 13) hx hb d_x_delete_8 (by decide) (fun _ => ?_) (fun c9 => absurd c9 (by decide))
    refine lv_aload_n hx hb d_x_delete_13 rfl (lv_at hl 0 rfl) ?_
    refine lv_iload_n hx hb d_x_delete_14 rfl (lv_at hl 2 rfl) ?_
    have hpre := rl_B.pre (av := .ref (a 0) :: [.int jt]) rl_nw_ok hP hK hD hN
    refine rl_calli0 hP hD hS hA (va_runV (As := [.int jt]) (rest := []) ⟨hx, hb, hml, hown, hG⟩ (k_x_goOnTo l D a kI kZ F jt ⟨by omega, hR⟩ _) (cwV 1 hG (rl_gV wd_255 wd_257 wd_0 wd_14 wd_258) rfl rfl rfl (by decide +kernel) ⟨Nat.le_of_ble_eq_true rfl, Nat.le_of_ble_eq_true rfl⟩) ⟨hpre.1, (va_recv hK hP (ci := 0) (q0 := 0) rfl rfl), hpre.2⟩ rfl rfl hl.1 rfl (lv_room (Nat.le_of_ble_eq_true rfl)) d_x_delete_15 ⟨Nat.le_of_ble_eq_true rfl, Nat.le_of_ble_eq_true rfl⟩) (fun r3 F4 H locs hw hP hD hS => ?_)
    have hP : va_P D rl_cl (rl_w a kI kZ F4) H := hP
    have hD : va_D A (rl_w a kI kZ F4) := hD
    obtain ⟨hRF4, hw⟩ := hw
    rcases hw with ⟨rfl, h5⟩ | ⟨rfl, h5⟩
    · refine lv_if_ne (tgt := 24) hx hb d_x_delete_18 (by decide) (fun _ => ?_) (fun c9 => absurd c9 (by decide))
      refine lv_aload_n hx hb d_x_delete_24 rfl (lv_at hl 0 rfl) ?_
      refine va_get (D := D) (ci := 0) (v := .ref (a 4)) (C := "RightsLimit") (T := fT_x) (N := 8) hx hb hG fi_x hown hK hP 0 rfl rfl 3 (by decide) (hG _ wd_171) (fun _ h9 => h9) rfl d_x_delete_25 ?_
      refine lv_iload_n hx hb d_x_delete_28 rfl (lv_at hl 1 rfl) ?_
      have hpre := rl_BR.pre (av := .ref (a 4) :: [.int jn]) rl_nw_ok hP hK hN
      refine rl_callr hS (va_runV (As := [.int jn]) (rest := []) ⟨hx, hb, hml, hown, hG⟩ (k_q_isKept l D a kI kZ F4 jn ⟨by omega, hRF4⟩ (by omega) (by omega) _) (cwV 1 hG (rl_gV wd_356 wd_340 wd_341 wd_18 wd_342) rfl rfl rfl (by decide +kernel) ⟨Nat.le_of_ble_eq_true rfl, Nat.le_of_ble_eq_true rfl⟩) ⟨hpre.1, (va_recv hK hP (ci := 4) (q0 := 4) rfl rfl), hpre.2⟩ rfl rfl hl.1 rfl (lv_room (Nat.le_of_ble_eq_true rfl)) d_x_delete_29 ⟨Nat.le_of_ble_eq_true rfl, Nat.le_of_ble_eq_true rfl⟩) (fun r6 locs hw hS => ?_)
      rcases hw with ⟨rfl, h7⟩ | ⟨rfl, h7⟩
      · refine lv_if_ne (tgt := 38) hx hb d_x_delete_32 (by decide) (fun _ => ?_) (fun c9 => absurd c9 (by decide))
        refine lv_aload_n hx hb d_x_delete_38 rfl (lv_at hl 0 rfl) ?_
        refine va_get (D := D) (ci := 0) (v := .ref (a 4)) (C := "RightsLimit") (T := fT_x) (N := 8) hx hb hG fi_x hown hK hP 0 rfl rfl 3 (by decide) (hG _ wd_171) (fun _ h9 => h9) rfl d_x_delete_39 ?_
        refine va_get (D := D) (ci := 4) (v := .ref (a 29)) (C := "RightsLimit$Requests") (T := fT_q) (N := 13) hx hb hG fi_q hown hK hP 4 rfl rfl 11 (by decide) (hG _ wd_139) (fun _ h9 => h9) rfl d_x_delete_42 ?_
        refine lv_iload_n hx hb d_x_delete_45 rfl (lv_at hl 1 rfl) ?_
        refine lv_iload_n hx hb d_x_delete_46 rfl (lv_at hl 2 rfl) ?_
        refine va_iast hx hb hK hP hD hS 29 0 rfl rfl (rl_in (n := 300) (by omega) (by omega)) d_x_delete_47 (fun H locs hP hD hS => ?_)
        obtain ⟨F8, eF8⟩ : ∃ G, G = rl_st F4 24 jn.toNatClampNeg jt := ⟨_, rfl⟩
        have hP : va_P D rl_cl (rl_w a kI kZ F8) H := by rw [eF8]; exact hP
        have hD : va_D A (rl_w a kI kZ F8) := by rw [eF8]; exact hD
        obtain ⟨tF8, hRF8⟩ := rl_keep eF8 (by decide) (by decide) hRF4
        refine lv_aload_n hx hb d_x_delete_48 rfl (lv_at hl 0 rfl) ?_
        refine va_get (D := D) (ci := 0) (v := .ref (a 4)) (C := "RightsLimit") (T := fT_x) (N := 8) hx hb hG fi_x hown hK hP 0 rfl rfl 3 (by decide) (hG _ wd_171) (fun _ h9 => h9) rfl d_x_delete_49 ?_
        refine lv_iload_n hx hb d_x_delete_52 rfl (lv_at hl 1 rfl) ?_
        refine lv_iload_n hx hb d_x_delete_53 rfl (lv_at hl 2 rfl) ?_
        have hpre := rl_BR.pre (av := .ref (a 4) :: [.int jn, .int jt]) rl_nw_ok hP hK hN
        refine rl_callr hS (va_runV (As := [.int jn, .int jt]) (rest := []) ⟨hx, hb, hml, hown, hG⟩ (k_q_hasEnded l D a kI kZ F8 jn jt ⟨by omega, hRF8⟩ (by omega) (by omega) _) (cwV 2 hG (rl_gV wd_357 wd_345 wd_346 wd_18 wd_347) rfl rfl rfl (by decide +kernel) ⟨Nat.le_of_ble_eq_true rfl, Nat.le_of_ble_eq_true rfl⟩) ⟨hpre.1, (va_recv hK hP (ci := 4) (q0 := 4) rfl rfl), hpre.2⟩ rfl rfl hl.1 rfl (lv_room (Nat.le_of_ble_eq_true rfl)) d_x_delete_54 ⟨Nat.le_of_ble_eq_true rfl, Nat.le_of_ble_eq_true rfl⟩) (fun r9 locs hw hS => ?_)
        rcases hw with ⟨rfl, h10⟩ | ⟨rfl, h10⟩
        · refine lv_if_eq (tgt := 64) hx hb d_x_delete_57 (by decide) (fun c9 => absurd c9 (by decide)) (fun _ => ?_)
          refine lv_iconst (v := 0) hx hb d_x_delete_60 (by decide) ?_
          refine lv_goto (tgt := 65) hx hb d_x_delete_61 (by decide) ?_
          exact W.iret (v := 0) hx hb hr (fun t ht hW => ⟨⟨0, F8, rfl, ⟨hRF8, (show (F8 27 0).toInt = (F 27 0).toInt ∧ (F8 27 1).toInt = (F 27 1).toInt ∧ (F8 27 2).toInt = (F 27 2).toInt ∧ 0 ≤ (F8 27 3).toInt ∧ (F8 27 3).toInt ≤ 300 by have q9 := rl_n0; omega)⟩, ⟨by rw [ht]; exact hP, hD⟩⟩, hS.F ht⟩) hS.2.2 d_x_delete_65
        · refine lv_if_eq (tgt := 64) hx hb d_x_delete_57 (by decide) (fun _ => ?_) (fun c9 => absurd c9 (by decide))
          refine lv_iconst (v := 1) hx hb d_x_delete_64 (by decide) ?_
          exact W.iret (v := 1) hx hb hr (fun t ht hW => ⟨⟨1, F8, rfl, ⟨hRF8, (show (F8 27 0).toInt = (F 27 0).toInt ∧ (F8 27 1).toInt = (F 27 1).toInt ∧ (F8 27 2).toInt = (F 27 2).toInt ∧ 0 ≤ (F8 27 3).toInt ∧ (F8 27 3).toInt ≤ 300 by have q9 := rl_n1; omega)⟩, ⟨by rw [ht]; exact hP, hD⟩⟩, hS.F ht⟩) hS.2.2 d_x_delete_65
      · refine lv_if_ne (tgt := 38) hx hb d_x_delete_32 (by decide) (fun c9 => absurd c9 (by decide)) (fun _ => ?_)
        refine lv_bipush (v := (-3)) hx hb d_x_delete_35 (by decide) ?_
        exact W.iret (v := (-3)) hx hb hr (fun t ht hW => ⟨⟨(-3), F4, rfl, ⟨hRF4, (show (F4 27 0).toInt = (F 27 0).toInt ∧ (F4 27 1).toInt = (F 27 1).toInt ∧ (F4 27 2).toInt = (F 27 2).toInt ∧ 0 ≤ (F4 27 3).toInt ∧ (F4 27 3).toInt ≤ 300 by have q9 := rl_nm3; omega)⟩, ⟨by rw [ht]; exact hP, hD⟩⟩, hS.F ht⟩) hS.2.2 d_x_delete_37
    · refine lv_if_ne (tgt := 24) hx hb d_x_delete_18 (by decide) (fun c9 => absurd c9 (by decide)) (fun _ => ?_)
      refine lv_bipush (v := (-2)) hx hb d_x_delete_21 (by decide) ?_
      exact W.iret (v := (-2)) hx hb hr (fun t ht hW => ⟨⟨(-2), F4, rfl, ⟨hRF4, (show (F4 27 0).toInt = (F 27 0).toInt ∧ (F4 27 1).toInt = (F 27 1).toInt ∧ (F4 27 2).toInt = (F 27 2).toInt ∧ 0 ≤ (F4 27 3).toInt ∧ (F4 27 3).toInt ≤ 300 by have q9 := rl_nm2; omega)⟩, ⟨by rw [ht]; exact hP, hD⟩⟩, hS.F ht⟩) hS.2.2 d_x_delete_23
  · refine lv_if_ne (tgt := 13) hx hb d_x_delete_8 (by decide) (fun c9 => absurd c9 (by decide)) (fun _ => ?_)
    refine lv_iconst (v := (-1)) hx hb d_x_delete_11 (by decide) ?_
    exact W.iret (v := (-1)) hx hb hr (fun t ht hW => ⟨⟨(-1), F, rfl, ⟨hR, (show (F 27 0).toInt = (F 27 0).toInt ∧ (F 27 1).toInt = (F 27 1).toInt ∧ (F 27 2).toInt = (F 27 2).toInt ∧ 0 ≤ (F 27 3).toInt ∧ (F 27 3).toInt ≤ 300 by have q9 := rl_nm1; omega)⟩, ⟨by rw [ht]; exact hP, hD⟩⟩, hS.F ht⟩) hS.2.2 d_x_delete_12
set_option maxHeartbeats 4000000 in
set_option maxRecDepth 100000 in
theorem k_x_counted (l : Launch) (D : va_G) (a : Nat → Nat) (kI kZ : ClassId) (F : Nat → Nat → Int32) (jt jk jd ju : Int32) (hI : rl_I F) (H0 : Heap) : rl_Ri l ⟨"RightsLimit", "counted", "(IIII)I"⟩ (Cond.code ⟨"RightsLimit", "counted", "(IIII)I"⟩ prog_1_method_14_code 5 (some .int) :: rl_G) { frames := 2, cells := 0, slots := 0, locals := 49 } D rl_cl (rl_tys kI kZ) rl_nw [.ref (a 0), .int jt, .int jk, .int jd, .int ju] (rl_w a kI kZ F) H0 (fun (r : Int32) => True) := by
  refine rl_metr (cc := prog_1_method_14_code) (maxL := 5) (ret := (some .int)) (by decide) rfl (Nat.le_of_ble_eq_true rfl) ?_
  intro p e s m below meth c ls hx hb hr hml hown hts hlocks hP hK hS hN hl
  have hown : s.vm.findClass "RightsLimit" = some m.cls := hown
  have hG : ∀ x ∈ rl_G, x.before _ s = true := fun x h => hts x (List.mem_cons_of_mem _ h)
  have hl : lv_has ls 5 [(0, .ref (a 0)), (1, .int jt), (2, .int jk), (3, .int jd), (4, .int ju)] := hl
  obtain ⟨hcnt, hR⟩ := id hI
  refine lv_aload_n hx hb d_x_counted_0 rfl (lv_at hl 0 rfl) ?_
  refine va_get (D := D) (ci := 0) (v := .ref (a 1)) (C := "RightsLimit") (T := fT_x) (N := 8) hx hb hG fi_x hown hK hP 0 rfl rfl 0 (by decide) (hG _ wd_168) (fun _ h9 => h9) rfl d_x_counted_1 ?_
  refine lv_iload_n hx hb d_x_counted_4 rfl (lv_at hl 1 rfl) ?_
  have hpre := rl_BR.pre (av := .ref (a 1) :: [.int jt]) rl_nw_ok hP hK hN
  refine rl_callr hS (va_runV (As := [.int jt]) (rest := []) ⟨hx, hb, hml, hown, hG⟩ (k_t_has l D a kI kZ F jt ⟨by omega, hR⟩ _) (cwV 1 hG (rl_gV wd_211 wd_212 wd_213 wd_15 wd_214) rfl rfl rfl (by decide +kernel) ⟨Nat.le_of_ble_eq_true rfl, Nat.le_of_ble_eq_true rfl⟩) ⟨hpre.1, (va_recv hK hP (ci := 1) (q0 := 1) rfl rfl), hpre.2⟩ rfl rfl hl.1 rfl (lv_room (Nat.le_of_ble_eq_true rfl)) d_x_counted_5 ⟨Nat.le_of_ble_eq_true rfl, Nat.le_of_ble_eq_true rfl⟩) (fun r1 locs hw hS => ?_)
  rcases hw with ⟨rfl, h2⟩ | ⟨rfl, h2⟩
  · refine lv_if_ne (tgt := 13) hx hb d_x_counted_8 (by decide) (fun _ => ?_) (fun c9 => absurd c9 (by decide))
    refine lv_iload_n hx hb d_x_counted_13 rfl (lv_at hl 2 rfl) ?_
    refine rl_callr hS (va_runS (As := [.int jk]) (rest := []) ⟨hx, hb, hml, hown, hG⟩ (k_x_isKind l D a kI kZ jk _) (cwS 1 hG (rl_gS wd_219 wd_220 wd_14 wd_221) rfl rfl rfl (by decide +kernel) ⟨Nat.le_of_ble_eq_true rfl, Nat.le_of_ble_eq_true rfl⟩) (rl_BR.pre rl_nw_ok rl_P0 hK hN) rfl rfl hl.1 rfl (lv_room (Nat.le_of_ble_eq_true rfl)) d_x_counted_14 ⟨Nat.le_of_ble_eq_true rfl, Nat.le_of_ble_eq_true rfl⟩) (fun r3 locs hw hS => ?_)
    rcases hw with ⟨rfl, h4⟩ | ⟨rfl, h4⟩
    · refine lv_if_eq (tgt := 35) hx hb d_x_counted_17 (by decide) (fun c9 => absurd c9 (by decide)) (fun _ => ?_)
      refine lv_iload_n hx hb d_x_counted_20 rfl (lv_at hl 3 rfl) ?_
      refine rl_callr hS (va_runS (As := [.int jd]) (rest := []) ⟨hx, hb, hml, hown, hG⟩ (k_x_isDays l D a kI kZ jd _) (cwS 1 hG (rl_gS wd_222 wd_223 wd_14 wd_224) rfl rfl rfl (by decide +kernel) ⟨Nat.le_of_ble_eq_true rfl, Nat.le_of_ble_eq_true rfl⟩) (rl_BR.pre rl_nw_ok rl_P0 hK hN) rfl rfl hl.1 rfl (lv_room (Nat.le_of_ble_eq_true rfl)) d_x_counted_21 ⟨Nat.le_of_ble_eq_true rfl, Nat.le_of_ble_eq_true rfl⟩) (fun r5 locs hw hS => ?_)
      rcases hw with ⟨rfl, h6⟩ | ⟨rfl, h6⟩
      · refine lv_if_eq (tgt := 35) hx hb d_x_counted_24 (by decide) (fun c9 => absurd c9 (by decide)) (fun _ => ?_)
        refine lv_iload hx hb d_x_counted_27 (lv_at hl 4 rfl) ?_
        refine rl_callr hS (va_runS (As := [.int ju]) (rest := []) ⟨hx, hb, hml, hown, hG⟩ (k_x_isTime l D a kI kZ ju _) (cwS 1 hG (rl_gS wd_236 wd_237 wd_14 wd_238) rfl rfl rfl (by decide +kernel) ⟨Nat.le_of_ble_eq_true rfl, Nat.le_of_ble_eq_true rfl⟩) (rl_BR.pre rl_nw_ok rl_P0 hK hN) rfl rfl hl.1 rfl (lv_room (Nat.le_of_ble_eq_true rfl)) d_x_counted_29 ⟨Nat.le_of_ble_eq_true rfl, Nat.le_of_ble_eq_true rfl⟩) (fun r7 locs hw hS => ?_)
        rcases hw with ⟨rfl, h8⟩ | ⟨rfl, h8⟩
        · refine lv_if_ne (tgt := 38) hx hb d_x_counted_32 (by decide) (fun _ => ?_) (fun c9 => absurd c9 (by decide))
          refine lv_aload_n hx hb d_x_counted_38 rfl (lv_at hl 0 rfl) ?_
          refine va_get (D := D) (ci := 0) (v := .ref (a 4)) (C := "RightsLimit") (T := fT_x) (N := 8) hx hb hG fi_x hown hK hP 0 rfl rfl 3 (by decide) (hG _ wd_171) (fun _ h9 => h9) rfl d_x_counted_39 ?_
          refine lv_iload_n hx hb d_x_counted_42 rfl (lv_at hl 1 rfl) ?_
          refine lv_iload_n hx hb d_x_counted_43 rfl (lv_at hl 2 rfl) ?_
          refine lv_iload_n hx hb d_x_counted_44 rfl (lv_at hl 3 rfl) ?_
          refine lv_iload hx hb d_x_counted_45 (lv_at hl 4 rfl) ?_
          have hpre := rl_BR.pre (av := .ref (a 4) :: [.int jt, .int jk, .int jd, .int ju]) rl_nw_ok hP hK hN
          refine rl_callr hS (va_runV (As := [.int jt, .int jk, .int jd, .int ju]) (rest := []) ⟨hx, hb, hml, hown, hG⟩ (k_q_countInSpan l D a kI kZ F jt jk jd ju ⟨by omega, hR⟩ _) (cwV 4 hG (rl_gV wd_285 wd_286 wd_287 wd_18 wd_288) rfl rfl rfl (by decide +kernel) ⟨Nat.le_of_ble_eq_true rfl, Nat.le_of_ble_eq_true rfl⟩) ⟨hpre.1, (va_recv hK hP (ci := 4) (q0 := 4) rfl rfl), hpre.2⟩ rfl rfl hl.1 rfl (lv_room (Nat.le_of_ble_eq_true rfl)) d_x_counted_47 ⟨Nat.le_of_ble_eq_true rfl, Nat.le_of_ble_eq_true rfl⟩) (fun r9 locs hw hS => ?_)
          have hwr9 := hw
          exact W.iret (v := r9) hx hb hr (fun t ht hW => ⟨⟨r9, (), rfl, trivial, ht⟩, hS.F ht⟩) hS.2.2 d_x_counted_50
        · refine lv_if_ne (tgt := 38) hx hb d_x_counted_32 (by decide) (fun c9 => absurd c9 (by decide)) (fun _ => ?_)
          refine lv_bipush (v := (-2)) hx hb d_x_counted_35 (by decide) ?_
          exact W.iret (v := (-2)) hx hb hr (fun t ht hW => ⟨⟨(-2), (), rfl, trivial, ht⟩, hS.F ht⟩) hS.2.2 d_x_counted_37
      · refine lv_if_eq (tgt := 35) hx hb d_x_counted_24 (by decide) (fun _ => ?_) (fun c9 => absurd c9 (by decide))
        refine lv_bipush (v := (-2)) hx hb d_x_counted_35 (by decide) ?_
        exact W.iret (v := (-2)) hx hb hr (fun t ht hW => ⟨⟨(-2), (), rfl, trivial, ht⟩, hS.F ht⟩) hS.2.2 d_x_counted_37
    · refine lv_if_eq (tgt := 35) hx hb d_x_counted_17 (by decide) (fun _ => ?_) (fun c9 => absurd c9 (by decide))
      refine lv_bipush (v := (-2)) hx hb d_x_counted_35 (by decide) ?_
      exact W.iret (v := (-2)) hx hb hr (fun t ht hW => ⟨⟨(-2), (), rfl, trivial, ht⟩, hS.F ht⟩) hS.2.2 d_x_counted_37
  · refine lv_if_ne (tgt := 13) hx hb d_x_counted_8 (by decide) (fun c9 => absurd c9 (by decide)) (fun _ => ?_)
    refine lv_iconst (v := (-1)) hx hb d_x_counted_11 (by decide) ?_
    exact W.iret (v := (-1)) hx hb hr (fun t ht hW => ⟨⟨(-1), (), rfl, trivial, ht⟩, hS.F ht⟩) hS.2.2 d_x_counted_12
set_option maxHeartbeats 4000000 in
set_option maxRecDepth 100000 in
theorem k_x_left (l : Launch) (D : va_G) (a : Nat → Nat) (kI kZ : ClassId) (F : Nat → Nat → Int32) (jn : Int32) (hI : rl_I F) (H0 : Heap) : rl_Ri l ⟨"RightsLimit", "left", "(I)I"⟩ (Cond.code ⟨"RightsLimit", "left", "(I)I"⟩ prog_1_method_16_code 2 (some .int) :: rl_G) { frames := 1, cells := 0, slots := 0, locals := 21 } D rl_cl (rl_tys kI kZ) rl_nw [.ref (a 0), .int jn] (rl_w a kI kZ F) H0 (fun (r : Int32) => True) := by
  refine rl_metr (cc := prog_1_method_16_code) (maxL := 2) (ret := (some .int)) (by decide) rfl (Nat.le_of_ble_eq_true rfl) ?_
  intro p e s m below meth c ls hx hb hr hml hown hts hlocks hP hK hS hN hl
  have hown : s.vm.findClass "RightsLimit" = some m.cls := hown
  have hG : ∀ x ∈ rl_G, x.before _ s = true := fun x h => hts x (List.mem_cons_of_mem _ h)
  have hl : lv_has ls 2 [(0, .ref (a 0)), (1, .int jn)] := hl
  obtain ⟨hcnt, hR⟩ := id hI
  refine lv_aload_n hx hb d_x_left_0 rfl (lv_at hl 0 rfl) ?_
  refine va_get (D := D) (ci := 0) (v := .ref (a 3)) (C := "RightsLimit") (T := fT_x) (N := 8) hx hb hG fi_x hown hK hP 0 rfl rfl 2 (by decide) (hG _ wd_170) (fun _ h9 => h9) rfl d_x_left_1 ?_
  refine lv_iload_n hx hb d_x_left_4 rfl (lv_at hl 1 rfl) ?_
  have hpre := rl_BR.pre (av := .ref (a 3) :: [.int jn]) rl_nw_ok hP hK hN
  refine rl_callr hS (va_runV (As := [.int jn]) (rest := []) ⟨hx, hb, hml, hown, hG⟩ (k_c_has l D a kI kZ F jn ⟨by omega, hR⟩ _) (cwV 1 hG (rl_gV wd_366 wd_367 wd_368 wd_17 wd_369) rfl rfl rfl (by decide +kernel) ⟨Nat.le_of_ble_eq_true rfl, Nat.le_of_ble_eq_true rfl⟩) ⟨hpre.1, (va_recv hK hP (ci := 3) (q0 := 3) rfl rfl), hpre.2⟩ rfl rfl hl.1 rfl (lv_room (Nat.le_of_ble_eq_true rfl)) d_x_left_5 ⟨Nat.le_of_ble_eq_true rfl, Nat.le_of_ble_eq_true rfl⟩) (fun r1 locs hw hS => ?_)
  rcases hw with ⟨rfl, h2⟩ | ⟨rfl, h2⟩
  · refine lv_if_eq (tgt := 23) hx hb d_x_left_8 (by decide) (fun c9 => absurd c9 (by decide)) (fun _ => ?_)
    refine lv_aload_n hx hb d_x_left_11 rfl (lv_at hl 0 rfl) ?_
    refine va_get (D := D) (ci := 0) (v := .ref (a 3)) (C := "RightsLimit") (T := fT_x) (N := 8) hx hb hG fi_x hown hK hP 0 rfl rfl 2 (by decide) (hG _ wd_170) (fun _ h9 => h9) rfl d_x_left_12 ?_
    refine va_get (D := D) (ci := 3) (v := .ref (a 15)) (C := "RightsLimit$Licences") (T := fT_c) (N := 6) hx hb hG fi_c hown hK hP 3 rfl rfl 2 (by decide) (hG _ wd_94) (fun _ h9 => h9) rfl d_x_left_15 ?_
    refine lv_iload_n hx hb d_x_left_18 rfl (lv_at hl 1 rfl) ?_
    refine va_iald hx hb hK hP 15 0 rfl rfl (rl_in (n := 50) (by omega) (by omega)) d_x_left_19 ?_
    refine lv_topi (fun v3 ev3 => ?_)
    refine lv_goto (tgt := 24) hx hb d_x_left_20 (by decide) ?_
    exact W.iret (v := v3) hx hb hr (fun t ht hW => ⟨⟨v3, (), rfl, trivial, ht⟩, hS.F ht⟩) hS.2.2 d_x_left_24
  · refine lv_if_eq (tgt := 23) hx hb d_x_left_8 (by decide) (fun _ => ?_) (fun c9 => absurd c9 (by decide))
    refine lv_iconst (v := (-1)) hx hb d_x_left_23 (by decide) ?_
    exact W.iret (v := (-1)) hx hb hr (fun t ht hW => ⟨⟨(-1), (), rfl, trivial, ht⟩, hS.F ht⟩) hS.2.2 d_x_left_24
set_option maxHeartbeats 4000000 in
set_option maxRecDepth 100000 in
theorem k_x_statistics (l : Launch) (D : va_G) (a : Nat → Nat) (kI kZ : ClassId) (F : Nat → Nat → Int32) (jn jw : Int32) (hI : rl_I F) (H0 : Heap) : rl_Ri l ⟨"RightsLimit", "statistics", "(II)I"⟩ (Cond.code ⟨"RightsLimit", "statistics", "(II)I"⟩ prog_1_method_17_code 3 (some .int) :: rl_G) { frames := 2, cells := 0, slots := 0, locals := 44 } D rl_cl (rl_tys kI kZ) rl_nw [.ref (a 0), .int jn, .int jw] (rl_w a kI kZ F) H0 (fun (r : Int32) => True) := by
  refine rl_metr (cc := prog_1_method_17_code) (maxL := 3) (ret := (some .int)) (by decide) rfl (Nat.le_of_ble_eq_true rfl) ?_
  intro p e s m below meth c ls hx hb hr hml hown hts hlocks hP hK hS hN hl
  have hown : s.vm.findClass "RightsLimit" = some m.cls := hown
  have hG : ∀ x ∈ rl_G, x.before _ s = true := fun x h => hts x (List.mem_cons_of_mem _ h)
  have hl : lv_has ls 3 [(0, .ref (a 0)), (1, .int jn), (2, .int jw)] := hl
  obtain ⟨hcnt, hR⟩ := id hI
  refine lv_iload_n hx hb d_x_statistics_0 rfl (lv_at hl 1 rfl) ?_
  refine rl_callr hS (va_runS (As := [.int jn]) (rest := []) ⟨hx, hb, hml, hown, hG⟩ (k_x_isPerson l D a kI kZ jn _) (cwS 1 hG (rl_gS wd_252 wd_253 wd_14 wd_254) rfl rfl rfl (by decide +kernel) ⟨Nat.le_of_ble_eq_true rfl, Nat.le_of_ble_eq_true rfl⟩) (rl_BR.pre rl_nw_ok rl_P0 hK hN) rfl rfl hl.1 rfl (lv_room (Nat.le_of_ble_eq_true rfl)) d_x_statistics_1 ⟨Nat.le_of_ble_eq_true rfl, Nat.le_of_ble_eq_true rfl⟩) (fun r1 locs hw hS => ?_)
  rcases hw with ⟨rfl, h2⟩ | ⟨rfl, h2⟩
  · refine lv_if_ne (tgt := 9) hx hb d_x_statistics_4 (by decide) (fun _ => ?_) (fun c9 => absurd c9 (by decide))
    refine lv_iload_n hx hb d_x_statistics_9 rfl (lv_at hl 2 rfl) ?_
    by_cases hsw : jw.toInt < 0 ∨ 3 < jw.toInt
    · refine lv_tableOut (tgt := 76) hx hb d_x_statistics_10 hsw (by decide) ?_
      refine lv_iconst (v := (-1)) hx hb d_x_statistics_76 (by decide) ?_
      exact W.iret (v := (-1)) hx hb hr (fun t ht hW => ⟨⟨(-1), (), rfl, trivial, ht⟩, hS.F ht⟩) hS.2.2 d_x_statistics_77
    · have hsk : jw.toInt = 0 ∨ jw.toInt = 1 ∨ jw.toInt = 2 ∨ jw.toInt = 3 := by omega
      rcases hsk with hsk | hsk | hsk | hsk
      · refine lv_tableIn (off := 30) (tgt := 40) hx hb d_x_statistics_10 (by omega) (by omega) (by rw [hsk]; rfl) (by decide) ?_
        refine lv_aload_n hx hb d_x_statistics_40 rfl (lv_at hl 0 rfl) ?_
        refine va_get (D := D) (ci := 0) (v := .ref (a 4)) (C := "RightsLimit") (T := fT_x) (N := 8) hx hb hG fi_x hown hK hP 0 rfl rfl 3 (by decide) (hG _ wd_171) (fun _ h9 => h9) rfl d_x_statistics_41 ?_
        refine lv_iload_n hx hb d_x_statistics_44 rfl (lv_at hl 1 rfl) ?_
        have hpre := rl_BR.pre (av := .ref (a 4) :: [.int jn]) rl_nw_ok hP hK hN
        refine rl_callr hS (va_runV (As := [.int jn]) (rest := []) ⟨hx, hb, hml, hown, hG⟩ (k_q_countOf l D a kI kZ F jn ⟨by omega, hR⟩ _) (cwV 1 hG (rl_gV wd_374 wd_375 wd_376 wd_18 wd_377) rfl rfl rfl (by decide +kernel) ⟨Nat.le_of_ble_eq_true rfl, Nat.le_of_ble_eq_true rfl⟩) ⟨hpre.1, (va_recv hK hP (ci := 4) (q0 := 4) rfl rfl), hpre.2⟩ rfl rfl hl.1 rfl (lv_room (Nat.le_of_ble_eq_true rfl)) d_x_statistics_45 ⟨Nat.le_of_ble_eq_true rfl, Nat.le_of_ble_eq_true rfl⟩) (fun r3 locs hw hS => ?_)
        have hwr3 := hw
        exact W.iret (v := r3) hx hb hr (fun t ht hW => ⟨⟨r3, (), rfl, trivial, ht⟩, hS.F ht⟩) hS.2.2 d_x_statistics_48
      · refine lv_tableIn (off := 39) (tgt := 49) hx hb d_x_statistics_10 (by omega) (by omega) (by rw [hsk]; rfl) (by decide) ?_
        refine lv_aload_n hx hb d_x_statistics_49 rfl (lv_at hl 0 rfl) ?_
        refine va_get (D := D) (ci := 0) (v := .ref (a 4)) (C := "RightsLimit") (T := fT_x) (N := 8) hx hb hG fi_x hown hK hP 0 rfl rfl 3 (by decide) (hG _ wd_171) (fun _ h9 => h9) rfl d_x_statistics_50 ?_
        refine lv_iload_n hx hb d_x_statistics_53 rfl (lv_at hl 1 rfl) ?_
        have hpre := rl_BR.pre (av := .ref (a 4) :: [.int jn]) rl_nw_ok hP hK hN
        refine rl_callr hS (va_runV (As := [.int jn]) (rest := []) ⟨hx, hb, hml, hown, hG⟩ (k_q_countRefusedOf l D a kI kZ F jn ⟨by omega, hR⟩ _) (cwV 1 hG (rl_gV wd_378 wd_379 wd_380 wd_18 wd_381) rfl rfl rfl (by decide +kernel) ⟨Nat.le_of_ble_eq_true rfl, Nat.le_of_ble_eq_true rfl⟩) ⟨hpre.1, (va_recv hK hP (ci := 4) (q0 := 4) rfl rfl), hpre.2⟩ rfl rfl hl.1 rfl (lv_room (Nat.le_of_ble_eq_true rfl)) d_x_statistics_54 ⟨Nat.le_of_ble_eq_true rfl, Nat.le_of_ble_eq_true rfl⟩) (fun r4 locs hw hS => ?_)
        have hwr4 := hw
        exact W.iret (v := r4) hx hb hr (fun t ht hW => ⟨⟨r4, (), rfl, trivial, ht⟩, hS.F ht⟩) hS.2.2 d_x_statistics_57
      · refine lv_tableIn (off := 48) (tgt := 58) hx hb d_x_statistics_10 (by omega) (by omega) (by rw [hsk]; rfl) (by decide) ?_
        refine lv_aload_n hx hb d_x_statistics_58 rfl (lv_at hl 0 rfl) ?_
        refine va_get (D := D) (ci := 0) (v := .ref (a 4)) (C := "RightsLimit") (T := fT_x) (N := 8) hx hb hG fi_x hown hK hP 0 rfl rfl 3 (by decide) (hG _ wd_171) (fun _ h9 => h9) rfl d_x_statistics_59 ?_
        refine lv_iload_n hx hb d_x_statistics_62 rfl (lv_at hl 1 rfl) ?_
        have hpre := rl_BR.pre (av := .ref (a 4) :: [.int jn]) rl_nw_ok hP hK hN
        refine rl_callr hS (va_runV (As := [.int jn]) (rest := []) ⟨hx, hb, hml, hown, hG⟩ (k_q_pagesAllowedTo l D a kI kZ F jn ⟨by omega, hR⟩ _) (cwV 1 hG (rl_gV wd_382 wd_383 wd_384 wd_18 wd_385) rfl rfl rfl (by decide +kernel) ⟨Nat.le_of_ble_eq_true rfl, Nat.le_of_ble_eq_true rfl⟩) ⟨hpre.1, (va_recv hK hP (ci := 4) (q0 := 4) rfl rfl), hpre.2⟩ rfl rfl hl.1 rfl (lv_room (Nat.le_of_ble_eq_true rfl)) d_x_statistics_63 ⟨Nat.le_of_ble_eq_true rfl, Nat.le_of_ble_eq_true rfl⟩) (fun r5 locs hw hS => ?_)
        have hwr5 := hw
        exact W.iret (v := r5) hx hb hr (fun t ht hW => ⟨⟨r5, (), rfl, trivial, ht⟩, hS.F ht⟩) hS.2.2 d_x_statistics_66
      · refine lv_tableIn (off := 57) (tgt := 67) hx hb d_x_statistics_10 (by omega) (by omega) (by rw [hsk]; rfl) (by decide) ?_
        refine lv_aload_n hx hb d_x_statistics_67 rfl (lv_at hl 0 rfl) ?_
        refine va_get (D := D) (ci := 0) (v := .ref (a 4)) (C := "RightsLimit") (T := fT_x) (N := 8) hx hb hG fi_x hown hK hP 0 rfl rfl 3 (by decide) (hG _ wd_171) (fun _ h9 => h9) rfl d_x_statistics_68 ?_
        refine lv_iload_n hx hb d_x_statistics_71 rfl (lv_at hl 1 rfl) ?_
        have hpre := rl_BR.pre (av := .ref (a 4) :: [.int jn]) rl_nw_ok hP hK hN
        refine rl_callr hS (va_runV (As := [.int jn]) (rest := []) ⟨hx, hb, hml, hown, hG⟩ (k_q_centsOf l D a kI kZ F jn ⟨by omega, hR⟩ _) (cwV 1 hG (rl_gV wd_386 wd_387 wd_388 wd_18 wd_389) rfl rfl rfl (by decide +kernel) ⟨Nat.le_of_ble_eq_true rfl, Nat.le_of_ble_eq_true rfl⟩) ⟨hpre.1, (va_recv hK hP (ci := 4) (q0 := 4) rfl rfl), hpre.2⟩ rfl rfl hl.1 rfl (lv_room (Nat.le_of_ble_eq_true rfl)) d_x_statistics_72 ⟨Nat.le_of_ble_eq_true rfl, Nat.le_of_ble_eq_true rfl⟩) (fun r6 locs hw hS => ?_)
        have hwr6 := hw
        exact W.iret (v := r6) hx hb hr (fun t ht hW => ⟨⟨r6, (), rfl, trivial, ht⟩, hS.F ht⟩) hS.2.2 d_x_statistics_75
  · refine lv_if_ne (tgt := 9) hx hb d_x_statistics_4 (by decide) (fun c9 => absurd c9 (by decide)) (fun _ => ?_)
    refine lv_iconst (v := (-1)) hx hb d_x_statistics_7 (by decide) ?_
    exact W.iret (v := (-1)) hx hb hr (fun t ht hW => ⟨⟨(-1), (), rfl, trivial, ht⟩, hS.F ht⟩) hS.2.2 d_x_statistics_8
end
section
def rm_Ix (w : Int32) (G : Nat → Nat → Int32) (t k u : Int32) : Prop := w.toInt = 2 → rm_Ex G t k u
end
section
set_option maxHeartbeats 4000000 in
set_option maxRecDepth 100000 in
theorem k_m_in (l : Launch) (D : va_G) (a : Nat → Nat) (kI kZ : ClassId) (jn jlo jhi : Int32) (H0 : Heap) : rl_Ri l ⟨"RightsLimitModel", "in", "(III)Z"⟩ (Cond.code ⟨"RightsLimitModel", "in", "(III)Z"⟩ prog_7_method_3_code 3 (some .boolean) :: rl_G) { frames := 0, cells := 0, slots := 0, locals := 0 } D rl_cl (rl_tys kI kZ) [] [.int jn, .int jlo, .int jhi] [] H0 (fun (r : Int32) => (r = 1 ∧ (jlo.toInt ≤ jn.toInt ∧ jn.toInt ≤ jhi.toInt)) ∨ (r = 0 ∧ ¬ (jlo.toInt ≤ jn.toInt ∧ jn.toInt ≤ jhi.toInt))) := by
  refine rl_metr (cc := prog_7_method_3_code) (maxL := 3) (ret := (some .boolean)) (by decide) rfl (Nat.le_of_ble_eq_true rfl) ?_
  intro p e s m below meth c ls hx hb hr hml hown hts hlocks hP hK hS hN hl
  have hown : s.vm.findClass "RightsLimitModel" = some m.cls := hown
  have hG : ∀ x ∈ rl_G, x.before _ s = true := fun x h => hts x (List.mem_cons_of_mem _ h)
  have hl : lv_has ls 3 [(0, .int jn), (1, .int jlo), (2, .int jhi)] := hl
  refine lv_iload_n hx hb d_m_in_0 rfl (lv_at hl 0 rfl) ?_
  refine lv_iload_n hx hb d_m_in_1 rfl (lv_at hl 1 rfl) ?_
  refine lv_icmp_lt (tgt := 14) hx hb d_m_in_2 (by decide) (fun c1 => ?_) (fun c1 => ?_)
  · have ic1 := rl_ilt c1
    refine lv_iconst (v := 0) hx hb d_m_in_14 (by decide) ?_
    exact W.zret (v := 0) hx hb hr rfl (fun t ht hW => ⟨⟨0, (), rfl, Or.inr ⟨rfl, by omega⟩, ht⟩, hS.F ht⟩) hS.2.2 d_m_in_15
  · have ic1 := rl_inlt c1
    refine lv_iload_n hx hb d_m_in_5 rfl (lv_at hl 0 rfl) ?_
    refine lv_iload_n hx hb d_m_in_6 rfl (lv_at hl 2 rfl) ?_
    refine lv_icmp_gt (tgt := 14) hx hb d_m_in_7 (by decide) (fun c2 => ?_) (fun c2 => ?_)
    · have ic2 := rl_ilt c2
      refine lv_iconst (v := 0) hx hb d_m_in_14 (by decide) ?_
      exact W.zret (v := 0) hx hb hr rfl (fun t ht hW => ⟨⟨0, (), rfl, Or.inr ⟨rfl, by omega⟩, ht⟩, hS.F ht⟩) hS.2.2 d_m_in_15
    · have ic2 := rl_inlt c2
      refine lv_iconst (v := 1) hx hb d_m_in_10 (by decide) ?_
      refine lv_goto (tgt := 15) hx hb d_m_in_11 (by decide) ?_
      exact W.zret (v := 1) hx hb hr rfl (fun t ht hW => ⟨⟨1, (), rfl, Or.inl ⟨rfl, by omega⟩, ht⟩, hS.F ht⟩) hS.2.2 d_m_in_15
set_option maxHeartbeats 4000000 in
set_option maxRecDepth 100000 in
theorem k_m_isTitle (l : Launch) (D : va_G) (a : Nat → Nat) (kI kZ : ClassId) (F : Nat → Nat → Int32) (jn : Int32) (hI : rm_I F) (H0 : Heap) : rl_Ri l ⟨"RightsLimitModel", "isTitle", "(I)Z"⟩ (Cond.code ⟨"RightsLimitModel", "isTitle", "(I)Z"⟩ prog_7_method_4_code 2 (some .boolean) :: rl_G) { frames := 1, cells := 0, slots := 0, locals := 22 } D rl_cl (rl_tys kI kZ) [] [.ref (a 0), .int jn] (rm_w a kI kZ F) H0 (fun (r : Int32) => (r = 1 ∧ (0 ≤ jn.toInt ∧ jn.toInt < (F 27 2).toInt)) ∨ (r = 0 ∧ ¬ (0 ≤ jn.toInt ∧ jn.toInt < (F 27 2).toInt))) := by
  refine rl_metr (cc := prog_7_method_4_code) (maxL := 2) (ret := (some .boolean)) (by decide) rfl (Nat.le_of_ble_eq_true rfl) ?_
  intro p e s m below meth c ls hx hb hr hml hown hts hlocks hP hK hS hN hl
  have hown : s.vm.findClass "RightsLimitModel" = some m.cls := hown
  have hG : ∀ x ∈ rl_G, x.before _ s = true := fun x h => hts x (List.mem_cons_of_mem _ h)
  have hl : lv_has ls 2 [(0, .ref (a 0)), (1, .int jn)] := hl
  obtain ⟨hcnt, hR⟩ := id hI
  refine lv_iload_n hx hb d_m_isTitle_0 rfl (lv_at hl 1 rfl) ?_
  refine lv_iconst (v := 0) hx hb d_m_isTitle_1 (by decide) ?_
  refine lv_aload_n hx hb d_m_isTitle_2 rfl (lv_at hl 0 rfl) ?_
  refine va_get (D := D) (ci := 5) (v := .int (F 27 2)) (C := "RightsLimitModel") (T := fT_m) (N := 33) hx hb hG fi_m hown hK hP 0 rfl rfl 2 (by decide) (hG _ wd_485) (fun _ h9 => h9) rfl d_m_isTitle_3 ?_
  refine lv_iconst (v := 1) hx hb d_m_isTitle_6 (by decide) ?_
  refine lv_isub hx hb d_m_isTitle_7 ?_
  refine lv_topi (fun v1 ev1 => ?_)
  have iv1 : v1.toInt = (F 27 2).toInt - 1 := by rw [ev1]; exact rl_subk (by decide) (by omega) (by omega)
  refine rl_callr hS (va_runS (As := [.int jn, .int 0, .int v1]) (rest := []) ⟨hx, hb, hml, hown, hG⟩ (k_m_in l D a kI kZ jn 0 v1 _) (cwS 3 hG (rl_gS wd_587 wd_588 wd_19 wd_589) rfl rfl rfl (by decide +kernel) ⟨Nat.le_of_ble_eq_true rfl, Nat.le_of_ble_eq_true rfl⟩) (rl_BR.pre rl_nw0 rl_P0 hK hN) rfl rfl hl.1 rfl (lv_room (Nat.le_of_ble_eq_true rfl)) d_m_isTitle_8 ⟨Nat.le_of_ble_eq_true rfl, Nat.le_of_ble_eq_true rfl⟩) (fun r2 locs hw hS => ?_)
  try simp only [rl_n0] at hw
  rcases hw with ⟨rfl, h3⟩ | ⟨rfl, h3⟩
  · exact W.zret (v := 1) hx hb hr rfl (fun t ht hW => ⟨⟨1, (), rfl, Or.inl ⟨rfl, by omega⟩, ht⟩, hS.F ht⟩) hS.2.2 d_m_isTitle_11
  · exact W.zret (v := 0) hx hb hr rfl (fun t ht hW => ⟨⟨0, (), rfl, Or.inr ⟨rfl, by omega⟩, ht⟩, hS.F ht⟩) hS.2.2 d_m_isTitle_11
set_option maxHeartbeats 4000000 in
set_option maxRecDepth 100000 in
theorem k_m_isNow (l : Launch) (D : va_G) (a : Nat → Nat) (kI kZ : ClassId) (F : Nat → Nat → Int32) (jn : Int32) (hI : rm_I F) (H0 : Heap) : rl_Ri l ⟨"RightsLimitModel", "isNow", "(I)Z"⟩ (Cond.code ⟨"RightsLimitModel", "isNow", "(I)Z"⟩ prog_7_method_5_code 2 (some .boolean) :: rl_G) { frames := 1, cells := 0, slots := 0, locals := 22 } D rl_cl (rl_tys kI kZ) [] [.ref (a 0), .int jn] (rm_w a kI kZ F) H0 (fun (r : Int32) => (r = 1 ∧ True) ∨ (r = 0 ∧ True)) := by
  refine rl_metr (cc := prog_7_method_5_code) (maxL := 2) (ret := (some .boolean)) (by decide) rfl (Nat.le_of_ble_eq_true rfl) ?_
  intro p e s m below meth c ls hx hb hr hml hown hts hlocks hP hK hS hN hl
  have hown : s.vm.findClass "RightsLimitModel" = some m.cls := hown
  have hG : ∀ x ∈ rl_G, x.before _ s = true := fun x h => hts x (List.mem_cons_of_mem _ h)
  have hl : lv_has ls 2 [(0, .ref (a 0)), (1, .int jn)] := hl
  obtain ⟨hcnt, hR⟩ := id hI
  refine lv_iload_n hx hb d_m_isNow_0 rfl (lv_at hl 1 rfl) ?_
  refine lv_aload_n hx hb d_m_isNow_1 rfl (lv_at hl 0 rfl) ?_
  refine va_get (D := D) (ci := 5) (v := .int (F 27 1)) (C := "RightsLimitModel") (T := fT_m) (N := 33) hx hb hG fi_m hown hK hP 0 rfl rfl 1 (by decide) (hG _ wd_484) (fun _ h9 => h9) rfl d_m_isNow_2 ?_
  refine lv_ldc (v := 1000000000) hx hb hown (hG _ wd_606) d_m_isNow_5 ?_
  refine rl_callr hS (va_runS (As := [.int jn, .int (F 27 1), .int 1000000000]) (rest := []) ⟨hx, hb, hml, hown, hG⟩ (k_m_in l D a kI kZ jn (F 27 1) 1000000000 _) (cwS 3 hG (rl_gS wd_587 wd_588 wd_19 wd_589) rfl rfl rfl (by decide +kernel) ⟨Nat.le_of_ble_eq_true rfl, Nat.le_of_ble_eq_true rfl⟩) (rl_BR.pre rl_nw0 rl_P0 hK hN) rfl rfl hl.1 rfl (lv_room (Nat.le_of_ble_eq_true rfl)) d_m_isNow_7 ⟨Nat.le_of_ble_eq_true rfl, Nat.le_of_ble_eq_true rfl⟩) (fun r1 locs hw hS => ?_)
  try simp only [rl_n1000000000] at hw
  rcases hw with ⟨rfl, h2⟩ | ⟨rfl, h2⟩
  · exact W.zret (v := 1) hx hb hr rfl (fun t ht hW => ⟨⟨1, (), rfl, Or.inl ⟨rfl, trivial⟩, ht⟩, hS.F ht⟩) hS.2.2 d_m_isNow_10
  · exact W.zret (v := 0) hx hb hr rfl (fun t ht hW => ⟨⟨0, (), rfl, Or.inr ⟨rfl, trivial⟩, ht⟩, hS.F ht⟩) hS.2.2 d_m_isNow_10
set_option maxHeartbeats 4000000 in
set_option maxRecDepth 100000 in
theorem k_m_count (l : Launch) (D : va_G) (a : Nat → Nat) (kI kZ : ClassId) (F : Nat → Nat → Int32) (jt jk jd ju : Int32) (hI : rm_I F) (H0 : Heap) : rl_Ri l ⟨"RightsLimitModel", "count", "(IIII)I"⟩ (Cond.code ⟨"RightsLimitModel", "count", "(IIII)I"⟩ prog_7_method_11_code 7 (some .int) :: rl_G) { frames := 0, cells := 0, slots := 0, locals := 0 } D rl_cl (rl_tys kI kZ) [] [.ref (a 0), .int jt, .int jk, .int jd, .int ju] (rm_w a kI kZ F) H0 (fun (r : Int32) => True) := by
  refine rl_metr (cc := prog_7_method_11_code) (maxL := 7) (ret := (some .int)) (by decide) rfl (Nat.le_of_ble_eq_true rfl) ?_
  intro p e s m below meth c ls hx hb hr hml hown hts hlocks hP hK hS hN hl
  have hown : s.vm.findClass "RightsLimitModel" = some m.cls := hown
  have hG : ∀ x ∈ rl_G, x.before _ s = true := fun x h => hts x (List.mem_cons_of_mem _ h)
  have hl : lv_has ls 7 [(0, .ref (a 0)), (1, .int jt), (2, .int jk), (3, .int jd), (4, .int ju)] := hl
  obtain ⟨hcnt, hR⟩ := id hI
  refine lv_iconst (v := 0) hx hb d_m_count_0 (by decide) ?_
  refine lv_istore (lv' := [(5, .int 0), (0, .ref (a 0)), (1, .int jt), (2, .int jk), (3, .int jd), (4, .int ju)]) hx hb d_m_count_1 hl (by decide) rfl (fun ls hl => ?_)
  refine lv_iconst (v := 0) hx hb d_m_count_3 (by decide) ?_
  refine lv_istore (lv' := [(6, .int 0), (5, .int 0), (0, .ref (a 0)), (1, .int jt), (2, .int jk), (3, .int jd), (4, .int ju)]) hx hb d_m_count_4 hl (by decide) rfl (fun ls hl => ?_)
  have loop : ∀ (n : Nat) (fo i : Int32), 0 ≤ i.toInt → i.toInt ≤ (F 27 5).toInt → (F 27 5).toInt - i.toInt < n → ∀ (locs : List Loc) (ls : Array Slot), va_S (fun _ => False) s.heap s.heap locs → lv_has ls 7 [(0, .ref (a 0)), (1, .int jt), (2, .int jk), (3, .int jd), (4, .int ju), (5, .int fo), (6, .int i)] → W p l e ({ frames := 0, cells := 0, slots := 0, locals := 0 } : Room) s m ([.ref (a 0), .int jt, .int jk, .int jd, .int ju] : List Value).toArray below meth c s.heap locs 0 0 (MQ below (va_Qi (S := Unit) (fun (r : Int32) _ => True) (fun _ t => t.heap = s.heap) (fun _ => False)) ([.ref (a 0), .int jt, .int jk, .int jd, .int ju] : List Value).toArray s 0 0 (fun _ => False)) (F0 m 6 ls []) := by
    intro n
    induction n with
    | zero => intro fo i h1 h2 h3; exact absurd h3 (by omega)
    | succ n ih =>
      intro fo i h1 h2 h3 locs ls hS hl
      refine lv_iload hx hb d_m_count_6 (lv_at hl 6 rfl) ?_
      refine lv_aload_n hx hb d_m_count_8 rfl (lv_at hl 0 rfl) ?_
      refine va_get (D := D) (ci := 5) (v := .int (F 27 5)) (C := "RightsLimitModel") (T := fT_m) (N := 33) hx hb hG fi_m hown hK hP 0 rfl rfl 20 (by decide) (hG _ wd_503) (fun _ h9 => h9) rfl d_m_count_9 ?_
      refine lv_icmp_ge (tgt := 101) hx hb d_m_count_12 (by decide) (fun c1 => ?_) (fun c1 => ?_)
      · have ic1 := rl_ile c1
        refine lv_iload hx hb d_m_count_101 (lv_at hl 5 rfl) ?_
        exact W.iret (v := fo) hx hb hr (fun t ht hW => ⟨⟨fo, (), rfl, trivial, ht⟩, hS.F ht⟩) hS.2.2 d_m_count_103
      · have ic1 := rl_inle c1
        refine lv_aload_n hx hb d_m_count_15 rfl (lv_at hl 0 rfl) ?_
        refine va_get (D := D) (ci := 5) (v := .ref (a 17)) (C := "RightsLimitModel") (T := fT_m) (N := 33) hx hb hG fi_m hown hK hP 0 rfl rfl 22 (by decide) (hG _ wd_505) (fun _ h9 => h9) rfl d_m_count_16 ?_
        refine lv_iload hx hb d_m_count_19 (lv_at hl 6 rfl) ?_
        refine va_iald hx hb hK hP 17 0 rfl rfl (rl_in (n := 300) (by omega) (by omega)) d_m_count_21 ?_
        refine lv_topi (fun v2 ev2 => ?_)
        refine lv_iload_n hx hb d_m_count_22 rfl (lv_at hl 1 rfl) ?_
        refine lv_icmp_ne (tgt := 95) hx hb d_m_count_23 (by decide) (fun c3 => ?_) (fun c3 => ?_)
        · have ic3 := rl_ine c3
          obtain ⟨x4, ex4⟩ : ∃ y : Int32, y = i + 1 := ⟨_, rfl⟩
          refine lv_iinc (v := x4) (lv' := [(6, .int x4), (0, .ref (a 0)), (1, .int jt), (2, .int jk), (3, .int jd), (4, .int ju), (5, .int fo)]) hx hb d_m_count_95 hl (k := 6) rfl (by rw [ex4]; rfl) (by decide) rfl (fun ls hl => ?_)
          have ix4 : x4.toInt = i.toInt + 1 := by rw [ex4]; exact rl_inc (by omega)
          refine lv_goto (tgt := 6) hx hb d_m_count_98 (by decide) ?_
          exact ih fo x4 (by omega) (by omega) (by omega) _ _ hS (lv_sub hl [1, 2, 3, 4, 5, 6, 0] rfl)
        · have ic3 := rl_ieq c3
          refine lv_aload_n hx hb d_m_count_26 rfl (lv_at hl 0 rfl) ?_
          refine va_get (D := D) (ci := 5) (v := .ref (a 18)) (C := "RightsLimitModel") (T := fT_m) (N := 33) hx hb hG fi_m hown hK hP 0 rfl rfl 23 (by decide) (hG _ wd_506) (fun _ h9 => h9) rfl d_m_count_27 ?_
          refine lv_iload hx hb d_m_count_30 (lv_at hl 6 rfl) ?_
          refine va_iald hx hb hK hP 18 0 rfl rfl (rl_in (n := 300) (by omega) (by omega)) d_m_count_32 ?_
          refine lv_topi (fun v5 ev5 => ?_)
          refine lv_iload_n hx hb d_m_count_33 rfl (lv_at hl 2 rfl) ?_
          refine lv_icmp_ne (tgt := 95) hx hb d_m_count_34 (by decide) (fun c6 => ?_) (fun c6 => ?_)
          · have ic6 := rl_ine c6
            obtain ⟨x7, ex7⟩ : ∃ y : Int32, y = i + 1 := ⟨_, rfl⟩
            refine lv_iinc (v := x7) (lv' := [(6, .int x7), (0, .ref (a 0)), (1, .int jt), (2, .int jk), (3, .int jd), (4, .int ju), (5, .int fo)]) hx hb d_m_count_95 hl (k := 6) rfl (by rw [ex7]; rfl) (by decide) rfl (fun ls hl => ?_)
            have ix7 : x7.toInt = i.toInt + 1 := by rw [ex7]; exact rl_inc (by omega)
            refine lv_goto (tgt := 6) hx hb d_m_count_98 (by decide) ?_
            exact ih fo x7 (by omega) (by omega) (by omega) _ _ hS (lv_sub hl [1, 2, 3, 4, 5, 6, 0] rfl)
          · have ic6 := rl_ieq c6
            refine lv_aload_n hx hb d_m_count_37 rfl (lv_at hl 0 rfl) ?_
            refine va_get (D := D) (ci := 5) (v := .ref (a 21)) (C := "RightsLimitModel") (T := fT_m) (N := 33) hx hb hG fi_m hown hK hP 0 rfl rfl 26 (by decide) (hG _ wd_509) (fun _ h9 => h9) rfl d_m_count_38 ?_
            refine lv_iload hx hb d_m_count_41 (lv_at hl 6 rfl) ?_
            refine va_iald hx hb hK hP 21 0 rfl rfl (rl_in (n := 300) (by omega) (by omega)) d_m_count_43 ?_
            refine lv_topi (fun v8 ev8 => ?_)
            refine lv_iconst (v := 3) hx hb d_m_count_44 (by decide) ?_
            refine lv_icmp_ge (tgt := 51) hx hb d_m_count_45 (by decide) (fun c9 => ?_) (fun c9 => ?_)
            · have ic9 := rl_ile c9
              simp only [rl_n3] at ic9
              refine lv_iload hx hb d_m_count_51 (lv_at hl 5 rfl) ?_
              refine lv_aload_n hx hb d_m_count_53 rfl (lv_at hl 0 rfl) ?_
              refine va_get (D := D) (ci := 5) (v := .ref (a 20)) (C := "RightsLimitModel") (T := fT_m) (N := 33) hx hb hG fi_m hown hK hP 0 rfl rfl 25 (by decide) (hG _ wd_508) (fun _ h9 => h9) rfl d_m_count_54 ?_
              refine lv_iload hx hb d_m_count_57 (lv_at hl 6 rfl) ?_
              refine va_iald hx hb hK hP 20 0 rfl rfl (rl_in (n := 300) (by omega) (by omega)) d_m_count_59 ?_
              refine lv_topi (fun v10 ev10 => ?_)
              refine lv_iload hx hb d_m_count_60 (lv_at hl 4 rfl) ?_
              refine lv_icmp_gt (tgt := 91) hx hb d_m_count_62 (by decide) (fun c11 => ?_) (fun c11 => ?_)
              · have ic11 := rl_ilt c11
                refine lv_iconst (v := 0) hx hb d_m_count_91 (by decide) ?_
                refine lv_iadd hx hb d_m_count_92 ?_
                refine lv_topi (fun v12 ev12 => ?_)
                refine lv_istore (lv' := [(5, .int v12), (0, .ref (a 0)), (1, .int jt), (2, .int jk), (3, .int jd), (4, .int ju), (6, .int i)]) hx hb d_m_count_93 hl (by decide) rfl (fun ls hl => ?_)
                obtain ⟨x13, ex13⟩ : ∃ y : Int32, y = i + 1 := ⟨_, rfl⟩
                refine lv_iinc (v := x13) (lv' := [(6, .int x13), (5, .int v12), (0, .ref (a 0)), (1, .int jt), (2, .int jk), (3, .int jd), (4, .int ju)]) hx hb d_m_count_95 hl (k := 6) rfl (by rw [ex13]; rfl) (by decide) rfl (fun ls hl => ?_)
                have ix13 : x13.toInt = i.toInt + 1 := by rw [ex13]; exact rl_inc (by omega)
                refine lv_goto (tgt := 6) hx hb d_m_count_98 (by decide) ?_
                exact ih v12 x13 (by omega) (by omega) (by omega) _ _ hS (lv_sub hl [2, 3, 4, 5, 6, 1, 0] rfl)
              · have ic11 := rl_inlt c11
                refine lv_aload_n hx hb d_m_count_65 rfl (lv_at hl 0 rfl) ?_
                refine va_get (D := D) (ci := 5) (v := .ref (a 20)) (C := "RightsLimitModel") (T := fT_m) (N := 33) hx hb hG fi_m hown hK hP 0 rfl rfl 25 (by decide) (hG _ wd_508) (fun _ h9 => h9) rfl d_m_count_66 ?_
                refine lv_iload hx hb d_m_count_69 (lv_at hl 6 rfl) ?_
                refine va_iald hx hb hK hP 20 0 rfl rfl (rl_in (n := 300) (by omega) (by omega)) d_m_count_71 ?_
                refine lv_topi (fun v14 ev14 => ?_)
                refine lv_i2l hx hb d_m_count_72 rfl ?_
                refine lv_topl (fun y15 ey15 => ?_)
                refine lv_iload hx hb d_m_count_73 (lv_at hl 4 rfl) ?_
                refine lv_i2l hx hb d_m_count_75 rfl ?_
                refine lv_topl (fun y16 ey16 => ?_)
                refine lv_iload_n hx hb d_m_count_76 rfl (lv_at hl 3 rfl) ?_
                refine lv_i2l hx hb d_m_count_77 rfl ?_
                refine lv_topl (fun y17 ey17 => ?_)
                refine lv_ldc2 (v := 86400) hx hb hown (hG _ wd_635) d_m_count_78 ?_
                refine lv_lmul hx hb d_m_count_81 ?_
                refine lv_topl (fun y18 ey18 => ?_)
                refine lv_lsub hx hb d_m_count_82 ?_
                refine lv_topl (fun y19 ey19 => ?_)
                refine W.lcmp hx hb d_m_count_83 ?_
                refine lv_topi (fun v20 ev20 => ?_)
                refine lv_if_lt (tgt := 91) hx hb d_m_count_84 (by decide) (fun c21 => ?_) (fun c21 => ?_)
                · have ic21 := rl_ilt c21
                  simp only [rl_n0] at ic21
                  refine lv_iconst (v := 0) hx hb d_m_count_91 (by decide) ?_
                  refine lv_iadd hx hb d_m_count_92 ?_
                  refine lv_topi (fun v22 ev22 => ?_)
                  refine lv_istore (lv' := [(5, .int v22), (0, .ref (a 0)), (1, .int jt), (2, .int jk), (3, .int jd), (4, .int ju), (6, .int i)]) hx hb d_m_count_93 hl (by decide) rfl (fun ls hl => ?_)
                  obtain ⟨x23, ex23⟩ : ∃ y : Int32, y = i + 1 := ⟨_, rfl⟩
                  refine lv_iinc (v := x23) (lv' := [(6, .int x23), (5, .int v22), (0, .ref (a 0)), (1, .int jt), (2, .int jk), (3, .int jd), (4, .int ju)]) hx hb d_m_count_95 hl (k := 6) rfl (by rw [ex23]; rfl) (by decide) rfl (fun ls hl => ?_)
                  have ix23 : x23.toInt = i.toInt + 1 := by rw [ex23]; exact rl_inc (by omega)
                  refine lv_goto (tgt := 6) hx hb d_m_count_98 (by decide) ?_
                  exact ih v22 x23 (by omega) (by omega) (by omega) _ _ hS (lv_sub hl [2, 3, 4, 5, 6, 1, 0] rfl)
                · have ic21 := rl_inlt c21
                  simp only [rl_n0] at ic21
                  refine lv_iconst (v := 1) hx hb d_m_count_87 (by decide) ?_
                  refine lv_goto (tgt := 92) hx hb d_m_count_88 (by decide) ?_
                  refine lv_iadd hx hb d_m_count_92 ?_
                  refine lv_topi (fun v24 ev24 => ?_)
                  refine lv_istore (lv' := [(5, .int v24), (0, .ref (a 0)), (1, .int jt), (2, .int jk), (3, .int jd), (4, .int ju), (6, .int i)]) hx hb d_m_count_93 hl (by decide) rfl (fun ls hl => ?_)
                  obtain ⟨x25, ex25⟩ : ∃ y : Int32, y = i + 1 := ⟨_, rfl⟩
                  refine lv_iinc (v := x25) (lv' := [(6, .int x25), (5, .int v24), (0, .ref (a 0)), (1, .int jt), (2, .int jk), (3, .int jd), (4, .int ju)]) hx hb d_m_count_95 hl (k := 6) rfl (by rw [ex25]; rfl) (by decide) rfl (fun ls hl => ?_)
                  have ix25 : x25.toInt = i.toInt + 1 := by rw [ex25]; exact rl_inc (by omega)
                  refine lv_goto (tgt := 6) hx hb d_m_count_98 (by decide) ?_
                  exact ih v24 x25 (by omega) (by omega) (by omega) _ _ hS (lv_sub hl [2, 3, 4, 5, 6, 1, 0] rfl)
            · have ic9 := rl_inle c9
              simp only [rl_n3] at ic9
              refine lv_goto (tgt := 95) hx hb d_m_count_48 (by decide) ?_
              obtain ⟨x26, ex26⟩ : ∃ y : Int32, y = i + 1 := ⟨_, rfl⟩
              refine lv_iinc (v := x26) (lv' := [(6, .int x26), (0, .ref (a 0)), (1, .int jt), (2, .int jk), (3, .int jd), (4, .int ju), (5, .int fo)]) hx hb d_m_count_95 hl (k := 6) rfl (by rw [ex26]; rfl) (by decide) rfl (fun ls hl => ?_)
              have ix26 : x26.toInt = i.toInt + 1 := by rw [ex26]; exact rl_inc (by omega)
              refine lv_goto (tgt := 6) hx hb d_m_count_98 (by decide) ?_
              exact ih fo x26 (by omega) (by omega) (by omega) _ _ hS (lv_sub hl [1, 2, 3, 4, 5, 6, 0] rfl)
  exact loop 400 0 0 (by decide) (by simp only [rl_n0]; omega) (by simp only [rl_n0]; omega) _ _ hS (lv_sub hl [2, 3, 4, 5, 6, 1, 0] rfl)
set_option maxHeartbeats 4000000 in
set_option maxRecDepth 100000 in
theorem k_m_barrier (l : Launch) (D : va_G) (a : Nat → Nat) (kI kZ : ClassId) (F : Nat → Nat → Int32) (jt jk ju : Int32) (hI : rm_I F) (H0 : Heap) : rl_Ri l ⟨"RightsLimitModel", "barrier", "(III)I"⟩ (Cond.code ⟨"RightsLimitModel", "barrier", "(III)I"⟩ prog_7_method_12_code 5 (some .int) :: rl_G) { frames := 1, cells := 0, slots := 0, locals := 26 } D rl_cl (rl_tys kI kZ) [] [.ref (a 0), .int jt, .int jk, .int ju] (rm_w a kI kZ F) H0 (fun (r : Int32) => True) := by
  refine rl_metr (cc := prog_7_method_12_code) (maxL := 5) (ret := (some .int)) (by decide) rfl (Nat.le_of_ble_eq_true rfl) ?_
  intro p e s m below meth c ls hx hb hr hml hown hts hlocks hP hK hS hN hl
  have hown : s.vm.findClass "RightsLimitModel" = some m.cls := hown
  have hG : ∀ x ∈ rl_G, x.before _ s = true := fun x h => hts x (List.mem_cons_of_mem _ h)
  have hl : lv_has ls 5 [(0, .ref (a 0)), (1, .int jt), (2, .int jk), (3, .int ju)] := hl
  obtain ⟨hcnt, hR⟩ := id hI
  refine lv_iconst (v := 0) hx hb d_m_barrier_0 (by decide) ?_
  refine lv_istore (lv' := [(4, .int 0), (0, .ref (a 0)), (1, .int jt), (2, .int jk), (3, .int ju)]) hx hb d_m_barrier_1 hl (by decide) rfl (fun ls hl => ?_)
  have loop : ∀ (n : Nat) (i : Int32), 0 ≤ i.toInt → i.toInt ≤ (F 27 3).toInt → (F 27 3).toInt - i.toInt < n → ∀ (locs : List Loc) (ls : Array Slot), va_S (fun _ => False) s.heap s.heap locs → lv_has ls 5 [(0, .ref (a 0)), (1, .int jt), (2, .int jk), (3, .int ju), (4, .int i)] → W p l e ({ frames := 1, cells := 0, slots := 0, locals := 26 } : Room) s m ([.ref (a 0), .int jt, .int jk, .int ju] : List Value).toArray below meth c s.heap locs 0 0 (MQ below (va_Qi (S := Unit) (fun (r : Int32) _ => True) (fun _ t => t.heap = s.heap) (fun _ => False)) ([.ref (a 0), .int jt, .int jk, .int ju] : List Value).toArray s 0 0 (fun _ => False)) (F0 m 3 ls []) := by
    intro n
    induction n with
    | zero => intro i h1 h2 h3; exact absurd h3 (by omega)
    | succ n ih =>
      intro i h1 h2 h3 locs ls hS hl
      refine lv_iload hx hb d_m_barrier_3 (lv_at hl 4 rfl) ?_
      refine lv_aload_n hx hb d_m_barrier_5 rfl (lv_at hl 0 rfl) ?_
      refine va_get (D := D) (ci := 5) (v := .int (F 27 3)) (C := "RightsLimitModel") (T := fT_m) (N := 33) hx hb hG fi_m hown hK hP 0 rfl rfl 9 (by decide) (hG _ wd_492) (fun _ h9 => h9) rfl d_m_barrier_6 ?_
      refine lv_icmp_ge (tgt := 70) hx hb d_m_barrier_9 (by decide) (fun c1 => ?_) (fun c1 => ?_)
      · have ic1 := rl_ile c1
        refine lv_iconst (v := (-1)) hx hb d_m_barrier_70 (by decide) ?_
        exact W.iret (v := (-1)) hx hb hr (fun t ht hW => ⟨⟨(-1), (), rfl, trivial, ht⟩, hS.F ht⟩) hS.2.2 d_m_barrier_71
      · have ic1 := rl_inle c1
        refine lv_aload_n hx hb d_m_barrier_12 rfl (lv_at hl 0 rfl) ?_
        refine va_get (D := D) (ci := 5) (v := .ref (a 7)) (C := "RightsLimitModel") (T := fT_m) (N := 33) hx hb hG fi_m hown hK hP 0 rfl rfl 10 (by decide) (hG _ wd_493) (fun _ h9 => h9) rfl d_m_barrier_13 ?_
        refine lv_iload hx hb d_m_barrier_16 (lv_at hl 4 rfl) ?_
        refine va_iald hx hb hK hP 7 0 rfl rfl (rl_in (n := 100) (by omega) (by omega)) d_m_barrier_18 ?_
        refine lv_topi (fun v2 ev2 => ?_)
        refine lv_iload_n hx hb d_m_barrier_19 rfl (lv_at hl 1 rfl) ?_
        refine lv_icmp_ne (tgt := 64) hx hb d_m_barrier_20 (by decide) (fun c3 => ?_) (fun c3 => ?_)
        · have ic3 := rl_ine c3
          obtain ⟨x4, ex4⟩ : ∃ y : Int32, y = i + 1 := ⟨_, rfl⟩
          refine lv_iinc (v := x4) (lv' := [(4, .int x4), (0, .ref (a 0)), (1, .int jt), (2, .int jk), (3, .int ju)]) hx hb d_m_barrier_64 hl (k := 4) rfl (by rw [ex4]; rfl) (by decide) rfl (fun ls hl => ?_)
          have ix4 : x4.toInt = i.toInt + 1 := by rw [ex4]; exact rl_inc (by omega)
          refine lv_goto (tgt := 3) hx hb d_m_barrier_67 (by decide) ?_
          exact ih x4 (by omega) (by omega) (by omega) _ _ hS (lv_sub hl [1, 2, 3, 4, 0] rfl)
        · have ic3 := rl_ieq c3
          refine lv_aload_n hx hb d_m_barrier_23 rfl (lv_at hl 0 rfl) ?_
          refine va_get (D := D) (ci := 5) (v := .ref (a 8)) (C := "RightsLimitModel") (T := fT_m) (N := 33) hx hb hG fi_m hown hK hP 0 rfl rfl 11 (by decide) (hG _ wd_494) (fun _ h9 => h9) rfl d_m_barrier_24 ?_
          refine lv_iload hx hb d_m_barrier_27 (lv_at hl 4 rfl) ?_
          refine va_iald hx hb hK hP 8 0 rfl rfl (rl_in (n := 100) (by omega) (by omega)) d_m_barrier_29 ?_
          refine lv_topi (fun v5 ev5 => ?_)
          refine lv_iload_n hx hb d_m_barrier_30 rfl (lv_at hl 2 rfl) ?_
          refine lv_icmp_eq (tgt := 37) hx hb d_m_barrier_31 (by decide) (fun c6 => ?_) (fun c6 => ?_)
          · have ic6 := rl_ieq c6
            refine lv_aload_n hx hb d_m_barrier_37 rfl (lv_at hl 0 rfl) ?_
            refine lv_iload_n hx hb d_m_barrier_38 rfl (lv_at hl 1 rfl) ?_
            refine lv_iload_n hx hb d_m_barrier_39 rfl (lv_at hl 2 rfl) ?_
            refine lv_aload_n hx hb d_m_barrier_40 rfl (lv_at hl 0 rfl) ?_
            refine va_get (D := D) (ci := 5) (v := .ref (a 9)) (C := "RightsLimitModel") (T := fT_m) (N := 33) hx hb hG fi_m hown hK hP 0 rfl rfl 12 (by decide) (hG _ wd_495) (fun _ h9 => h9) rfl d_m_barrier_41 ?_
            refine lv_iload hx hb d_m_barrier_44 (lv_at hl 4 rfl) ?_
            refine va_iald hx hb hK hP 9 0 rfl rfl (rl_in (n := 100) (by omega) (by omega)) d_m_barrier_46 ?_
            refine lv_topi (fun v7 ev7 => ?_)
            refine lv_iload_n hx hb d_m_barrier_47 rfl (lv_at hl 3 rfl) ?_
            have hpre := rl_BR.pre (av := .ref (a 0) :: [.int jt, .int jk, .int v7, .int ju]) rl_nw0 hP hK hN
            refine rl_callr hS (va_runV (As := [.int jt, .int jk, .int v7, .int ju]) (rest := []) ⟨hx, hb, hml, hown, hG⟩ (k_m_count l D a kI kZ F jt jk v7 ju ⟨by omega, hR⟩ _) (cwV 4 hG (rl_gV wd_631 wd_633 wd_11 wd_19 wd_634) rfl rfl rfl (by decide +kernel) ⟨Nat.le_of_ble_eq_true rfl, Nat.le_of_ble_eq_true rfl⟩) ⟨hpre.1, (va_recv hK hP (ci := 5) (q0 := 0) rfl rfl), hpre.2⟩ rfl rfl hl.1 rfl (lv_room (Nat.le_of_ble_eq_true rfl)) d_m_barrier_48 ⟨Nat.le_of_ble_eq_true rfl, Nat.le_of_ble_eq_true rfl⟩) (fun r8 locs hw hS => ?_)
            have hwr8 := hw
            refine lv_aload_n hx hb d_m_barrier_51 rfl (lv_at hl 0 rfl) ?_
            refine va_get (D := D) (ci := 5) (v := .ref (a 10)) (C := "RightsLimitModel") (T := fT_m) (N := 33) hx hb hG fi_m hown hK hP 0 rfl rfl 13 (by decide) (hG _ wd_496) (fun _ h9 => h9) rfl d_m_barrier_52 ?_
            refine lv_iload hx hb d_m_barrier_55 (lv_at hl 4 rfl) ?_
            refine va_iald hx hb hK hP 10 0 rfl rfl (rl_in (n := 100) (by omega) (by omega)) d_m_barrier_57 ?_
            refine lv_topi (fun v9 ev9 => ?_)
            refine lv_icmp_lt (tgt := 64) hx hb d_m_barrier_58 (by decide) (fun c10 => ?_) (fun c10 => ?_)
            · have ic10 := rl_ilt c10
              obtain ⟨x11, ex11⟩ : ∃ y : Int32, y = i + 1 := ⟨_, rfl⟩
              refine lv_iinc (v := x11) (lv' := [(4, .int x11), (0, .ref (a 0)), (1, .int jt), (2, .int jk), (3, .int ju)]) hx hb d_m_barrier_64 hl (k := 4) rfl (by rw [ex11]; rfl) (by decide) rfl (fun ls hl => ?_)
              have ix11 : x11.toInt = i.toInt + 1 := by rw [ex11]; exact rl_inc (by omega)
              refine lv_goto (tgt := 3) hx hb d_m_barrier_67 (by decide) ?_
              exact ih x11 (by omega) (by omega) (by omega) _ _ hS (lv_sub hl [1, 2, 3, 4, 0] rfl)
            · have ic10 := rl_inlt c10
              refine lv_iload hx hb d_m_barrier_61 (lv_at hl 4 rfl) ?_
              exact W.iret (v := i) hx hb hr (fun t ht hW => ⟨⟨i, (), rfl, trivial, ht⟩, hS.F ht⟩) hS.2.2 d_m_barrier_63
          · have ic6 := rl_ine c6
            refine lv_goto (tgt := 64) hx hb d_m_barrier_34 (by decide) ?_
            obtain ⟨x12, ex12⟩ : ∃ y : Int32, y = i + 1 := ⟨_, rfl⟩
            refine lv_iinc (v := x12) (lv' := [(4, .int x12), (0, .ref (a 0)), (1, .int jt), (2, .int jk), (3, .int ju)]) hx hb d_m_barrier_64 hl (k := 4) rfl (by rw [ex12]; rfl) (by decide) rfl (fun ls hl => ?_)
            have ix12 : x12.toInt = i.toInt + 1 := by rw [ex12]; exact rl_inc (by omega)
            refine lv_goto (tgt := 3) hx hb d_m_barrier_67 (by decide) ?_
            exact ih x12 (by omega) (by omega) (by omega) _ _ hS (lv_sub hl [1, 2, 3, 4, 0] rfl)
  exact loop 400 0 (by decide) (by simp only [rl_n0]; omega) (by simp only [rl_n0]; omega) _ _ hS (lv_sub hl [1, 2, 3, 4, 0] rfl)
set_option maxHeartbeats 4000000 in
set_option maxRecDepth 100000 in
theorem k_m_licenceFor (l : Launch) (D : va_G) (a : Nat → Nat) (kI kZ : ClassId) (F : Nat → Nat → Int32) (jt jk ju : Int32) (hI : rm_I F) (H0 : Heap) : rl_Ri l ⟨"RightsLimitModel", "licenceFor", "(III)I"⟩ (Cond.code ⟨"RightsLimitModel", "licenceFor", "(III)I"⟩ prog_7_method_13_code 5 (some .int) :: rl_G) { frames := 1, cells := 0, slots := 0, locals := 22 } D rl_cl (rl_tys kI kZ) [] [.ref (a 0), .int jt, .int jk, .int ju] (rm_w a kI kZ F) H0 (fun (r : Int32) => (r.toInt = -1 ∧ ¬ rm_Ex F jt jk ju) ∨ ((0 ≤ r.toInt ∧ r.toInt < (F 27 4).toInt) ∧ rm_Ex F jt jk ju)) := by
  refine rl_metr (cc := prog_7_method_13_code) (maxL := 5) (ret := (some .int)) (by decide) rfl (Nat.le_of_ble_eq_true rfl) ?_
  intro p e s m below meth c ls hx hb hr hml hown hts hlocks hP hK hS hN hl
  have hown : s.vm.findClass "RightsLimitModel" = some m.cls := hown
  have hG : ∀ x ∈ rl_G, x.before _ s = true := fun x h => hts x (List.mem_cons_of_mem _ h)
  have hl : lv_has ls 5 [(0, .ref (a 0)), (1, .int jt), (2, .int jk), (3, .int ju)] := hl
  obtain ⟨hcnt, hR⟩ := id hI
  refine lv_iconst (v := 0) hx hb d_m_licenceFor_0 (by decide) ?_
  refine lv_istore (lv' := [(4, .int 0), (0, .ref (a 0)), (1, .int jt), (2, .int jk), (3, .int ju)]) hx hb d_m_licenceFor_1 hl (by decide) rfl (fun ls hl => ?_)
  have loop : ∀ (n : Nat) (i : Int32), 0 ≤ i.toInt → i.toInt ≤ (F 27 4).toInt → (F 27 4).toInt - i.toInt < n → ∀ (locs : List Loc) (ls : Array Slot), va_S (fun _ => False) s.heap s.heap locs → lv_has ls 5 [(0, .ref (a 0)), (1, .int jt), (2, .int jk), (3, .int ju), (4, .int i)] → (∀ j : Int32, 0 ≤ j.toInt → j.toInt < i.toInt → ¬ rm_C F jt jk ju j) → W p l e ({ frames := 1, cells := 0, slots := 0, locals := 22 } : Room) s m ([.ref (a 0), .int jt, .int jk, .int ju] : List Value).toArray below meth c s.heap locs 0 0 (MQ below (va_Qi (S := Unit) (fun (r : Int32) _ => (r.toInt = -1 ∧ ¬ rm_Ex F jt jk ju) ∨ ((0 ≤ r.toInt ∧ r.toInt < (F 27 4).toInt) ∧ rm_Ex F jt jk ju)) (fun _ t => t.heap = s.heap) (fun _ => False)) ([.ref (a 0), .int jt, .int jk, .int ju] : List Value).toArray s 0 0 (fun _ => False)) (F0 m 3 ls []) := by
    intro n
    induction n with
    | zero => intro i h1 h2 h3; exact absurd h3 (by omega)
    | succ n ih =>
      intro i h1 h2 h3 locs ls hS hl hj0
      refine lv_iload hx hb d_m_licenceFor_3 (lv_at hl 4 rfl) ?_
      refine lv_aload_n hx hb d_m_licenceFor_5 rfl (lv_at hl 0 rfl) ?_
      refine va_get (D := D) (ci := 5) (v := .int (F 27 4)) (C := "RightsLimitModel") (T := fT_m) (N := 33) hx hb hG fi_m hown hK hP 0 rfl rfl 14 (by decide) (hG _ wd_497) (fun _ h9 => h9) rfl d_m_licenceFor_6 ?_
      refine lv_icmp_ge (tgt := 74) hx hb d_m_licenceFor_9 (by decide) (fun c1 => ?_) (fun c1 => ?_)
      · have ic1 := rl_ile c1
        refine lv_iconst (v := (-1)) hx hb d_m_licenceFor_74 (by decide) ?_
        exact W.iret (v := (-1)) hx hb hr (fun t ht hW => ⟨⟨(-1), (), rfl, Or.inl ⟨by decide, fun ⟨j, h1, h2, h3⟩ => hj0 j h1 (by omega) h3⟩, ht⟩, hS.F ht⟩) hS.2.2 d_m_licenceFor_75
      · have ic1 := rl_inle c1
        refine lv_aload_n hx hb d_m_licenceFor_12 rfl (lv_at hl 0 rfl) ?_
        refine va_get (D := D) (ci := 5) (v := .ref (a 11)) (C := "RightsLimitModel") (T := fT_m) (N := 33) hx hb hG fi_m hown hK hP 0 rfl rfl 15 (by decide) (hG _ wd_498) (fun _ h9 => h9) rfl d_m_licenceFor_13 ?_
        refine lv_iload hx hb d_m_licenceFor_16 (lv_at hl 4 rfl) ?_
        refine va_iald hx hb hK hP 11 0 rfl rfl (rl_in (n := 50) (by omega) (by omega)) d_m_licenceFor_18 ?_
        refine lv_topi (fun v2 ev2 => ?_)
        have jv2 : v2.toInt = (F 10 i.toNatClampNeg).toInt := by rw [ev2]
        refine lv_iload_n hx hb d_m_licenceFor_19 rfl (lv_at hl 1 rfl) ?_
        refine lv_icmp_ne (tgt := 68) hx hb d_m_licenceFor_20 (by decide) (fun c3 => ?_) (fun c3 => ?_)
        · have ic3 := rl_ine c3
          obtain ⟨x4, ex4⟩ : ∃ y : Int32, y = i + 1 := ⟨_, rfl⟩
          refine lv_iinc (v := x4) (lv' := [(4, .int x4), (0, .ref (a 0)), (1, .int jt), (2, .int jk), (3, .int ju)]) hx hb d_m_licenceFor_68 hl (k := 4) rfl (by rw [ex4]; rfl) (by decide) rfl (fun ls hl => ?_)
          have ix4 : x4.toInt = i.toInt + 1 := by rw [ex4]; exact rl_inc (by omega)
          refine lv_goto (tgt := 3) hx hb d_m_licenceFor_71 (by decide) ?_
          exact ih x4 (by omega) (by omega) (by omega) _ _ hS (lv_sub hl [1, 2, 3, 4, 0] rfl) (fun j g1 g2 g3 => by
            rcases Classical.em (j.toInt < i.toInt) with g | g
            · exact hj0 j g1 g g3
            · have e9 : j = i := Int32.toInt_inj.mp (by omega)
              rw [e9] at g3
              obtain ⟨a1, a2, a3, a4, a5⟩ := g3
              omega)
        · have ic3 := rl_ieq c3
          refine lv_aload_n hx hb d_m_licenceFor_23 rfl (lv_at hl 0 rfl) ?_
          refine va_get (D := D) (ci := 5) (v := .ref (a 12)) (C := "RightsLimitModel") (T := fT_m) (N := 33) hx hb hG fi_m hown hK hP 0 rfl rfl 16 (by decide) (hG _ wd_499) (fun _ h9 => h9) rfl d_m_licenceFor_24 ?_
          refine lv_iload hx hb d_m_licenceFor_27 (lv_at hl 4 rfl) ?_
          refine va_iald hx hb hK hP 12 0 rfl rfl (rl_in (n := 50) (by omega) (by omega)) d_m_licenceFor_29 ?_
          refine lv_topi (fun v5 ev5 => ?_)
          have jv5 : v5.toInt = (F 11 i.toNatClampNeg).toInt := by rw [ev5]
          refine lv_iload_n hx hb d_m_licenceFor_30 rfl (lv_at hl 2 rfl) ?_
          refine lv_icmp_ne (tgt := 68) hx hb d_m_licenceFor_31 (by decide) (fun c6 => ?_) (fun c6 => ?_)
          · have ic6 := rl_ine c6
            obtain ⟨x7, ex7⟩ : ∃ y : Int32, y = i + 1 := ⟨_, rfl⟩
            refine lv_iinc (v := x7) (lv' := [(4, .int x7), (0, .ref (a 0)), (1, .int jt), (2, .int jk), (3, .int ju)]) hx hb d_m_licenceFor_68 hl (k := 4) rfl (by rw [ex7]; rfl) (by decide) rfl (fun ls hl => ?_)
            have ix7 : x7.toInt = i.toInt + 1 := by rw [ex7]; exact rl_inc (by omega)
            refine lv_goto (tgt := 3) hx hb d_m_licenceFor_71 (by decide) ?_
            exact ih x7 (by omega) (by omega) (by omega) _ _ hS (lv_sub hl [1, 2, 3, 4, 0] rfl) (fun j g1 g2 g3 => by
            rcases Classical.em (j.toInt < i.toInt) with g | g
            · exact hj0 j g1 g g3
            · have e9 : j = i := Int32.toInt_inj.mp (by omega)
              rw [e9] at g3
              obtain ⟨a1, a2, a3, a4, a5⟩ := g3
              omega)
          · have ic6 := rl_ieq c6
            refine lv_iload_n hx hb d_m_licenceFor_34 rfl (lv_at hl 3 rfl) ?_
            refine lv_aload_n hx hb d_m_licenceFor_35 rfl (lv_at hl 0 rfl) ?_
            refine va_get (D := D) (ci := 5) (v := .ref (a 14)) (C := "RightsLimitModel") (T := fT_m) (N := 33) hx hb hG fi_m hown hK hP 0 rfl rfl 18 (by decide) (hG _ wd_501) (fun _ h9 => h9) rfl d_m_licenceFor_36 ?_
            refine lv_iload hx hb d_m_licenceFor_39 (lv_at hl 4 rfl) ?_
            refine va_iald hx hb hK hP 14 0 rfl rfl (rl_in (n := 50) (by omega) (by omega)) d_m_licenceFor_41 ?_
            refine lv_topi (fun v8 ev8 => ?_)
            have jv8 : v8.toInt = (F 13 i.toNatClampNeg).toInt := by rw [ev8]
            refine lv_aload_n hx hb d_m_licenceFor_42 rfl (lv_at hl 0 rfl) ?_
            refine va_get (D := D) (ci := 5) (v := .ref (a 15)) (C := "RightsLimitModel") (T := fT_m) (N := 33) hx hb hG fi_m hown hK hP 0 rfl rfl 19 (by decide) (hG _ wd_502) (fun _ h9 => h9) rfl d_m_licenceFor_43 ?_
            refine lv_iload hx hb d_m_licenceFor_46 (lv_at hl 4 rfl) ?_
            refine va_iald hx hb hK hP 15 0 rfl rfl (rl_in (n := 50) (by omega) (by omega)) d_m_licenceFor_48 ?_
            refine lv_topi (fun v9 ev9 => ?_)
            have jv9 : v9.toInt = (F 14 i.toNatClampNeg).toInt := by rw [ev9]
            refine rl_callr hS (va_runS (As := [.int ju, .int v8, .int v9]) (rest := []) ⟨hx, hb, hml, hown, hG⟩ (k_m_in l D a kI kZ ju v8 v9 _) (cwS 3 hG (rl_gS wd_587 wd_588 wd_19 wd_589) rfl rfl rfl (by decide +kernel) ⟨Nat.le_of_ble_eq_true rfl, Nat.le_of_ble_eq_true rfl⟩) (rl_BR.pre rl_nw0 rl_P0 hK hN) rfl rfl hl.1 rfl (lv_room (Nat.le_of_ble_eq_true rfl)) d_m_licenceFor_49 ⟨Nat.le_of_ble_eq_true rfl, Nat.le_of_ble_eq_true rfl⟩) (fun r10 locs hw hS => ?_)
            rcases hw with ⟨rfl, h11⟩ | ⟨rfl, h11⟩
            · refine lv_if_eq (tgt := 68) hx hb d_m_licenceFor_52 (by decide) (fun c9 => absurd c9 (by decide)) (fun _ => ?_)
              refine lv_aload_n hx hb d_m_licenceFor_55 rfl (lv_at hl 0 rfl) ?_
              refine va_get (D := D) (ci := 5) (v := .ref (a 13)) (C := "RightsLimitModel") (T := fT_m) (N := 33) hx hb hG fi_m hown hK hP 0 rfl rfl 17 (by decide) (hG _ wd_500) (fun _ h9 => h9) rfl d_m_licenceFor_56 ?_
              refine lv_iload hx hb d_m_licenceFor_59 (lv_at hl 4 rfl) ?_
              refine va_iald hx hb hK hP 13 0 rfl rfl (rl_in (n := 50) (by omega) (by omega)) d_m_licenceFor_61 ?_
              refine lv_topi (fun v12 ev12 => ?_)
              have jv12 : v12.toInt = (F 12 i.toNatClampNeg).toInt := by rw [ev12]
              refine lv_if_le (tgt := 68) hx hb d_m_licenceFor_62 (by decide) (fun c13 => ?_) (fun c13 => ?_)
              · have ic13 := rl_ile c13
                simp only [rl_n0] at ic13
                obtain ⟨x14, ex14⟩ : ∃ y : Int32, y = i + 1 := ⟨_, rfl⟩
                refine lv_iinc (v := x14) (lv' := [(4, .int x14), (0, .ref (a 0)), (1, .int jt), (2, .int jk), (3, .int ju)]) hx hb d_m_licenceFor_68 hl (k := 4) rfl (by rw [ex14]; rfl) (by decide) rfl (fun ls hl => ?_)
                have ix14 : x14.toInt = i.toInt + 1 := by rw [ex14]; exact rl_inc (by omega)
                refine lv_goto (tgt := 3) hx hb d_m_licenceFor_71 (by decide) ?_
                exact ih x14 (by omega) (by omega) (by omega) _ _ hS (lv_sub hl [1, 2, 3, 4, 0] rfl) (fun j g1 g2 g3 => by
            rcases Classical.em (j.toInt < i.toInt) with g | g
            · exact hj0 j g1 g g3
            · have e9 : j = i := Int32.toInt_inj.mp (by omega)
              rw [e9] at g3
              obtain ⟨a1, a2, a3, a4, a5⟩ := g3
              omega)
              · have ic13 := rl_inle c13
                simp only [rl_n0] at ic13
                refine lv_iload hx hb d_m_licenceFor_65 (lv_at hl 4 rfl) ?_
                exact W.iret (v := i) hx hb hr (fun t ht hW => ⟨⟨i, (), rfl, Or.inr ⟨⟨by omega, by omega⟩, i, by omega, by omega, (show rm_C F jt jk ju i from ⟨by omega, by omega, by omega, by omega, by omega⟩)⟩, ht⟩, hS.F ht⟩) hS.2.2 d_m_licenceFor_67
            · refine lv_if_eq (tgt := 68) hx hb d_m_licenceFor_52 (by decide) (fun _ => ?_) (fun c9 => absurd c9 (by decide))
              obtain ⟨x15, ex15⟩ : ∃ y : Int32, y = i + 1 := ⟨_, rfl⟩
              refine lv_iinc (v := x15) (lv' := [(4, .int x15), (0, .ref (a 0)), (1, .int jt), (2, .int jk), (3, .int ju)]) hx hb d_m_licenceFor_68 hl (k := 4) rfl (by rw [ex15]; rfl) (by decide) rfl (fun ls hl => ?_)
              have ix15 : x15.toInt = i.toInt + 1 := by rw [ex15]; exact rl_inc (by omega)
              refine lv_goto (tgt := 3) hx hb d_m_licenceFor_71 (by decide) ?_
              exact ih x15 (by omega) (by omega) (by omega) _ _ hS (lv_sub hl [1, 2, 3, 4, 0] rfl) (fun j g1 g2 g3 => by
            rcases Classical.em (j.toInt < i.toInt) with g | g
            · exact hj0 j g1 g g3
            · have e9 : j = i := Int32.toInt_inj.mp (by omega)
              rw [e9] at g3
              obtain ⟨a1, a2, a3, a4, a5⟩ := g3
              omega)
  exact loop 400 0 (by decide) (by simp only [rl_n0]; omega) (by simp only [rl_n0]; omega) _ _ hS (lv_sub hl [1, 2, 3, 4, 0] rfl) (fun j h1 h2 _ => by simp only [rl_n0] at h2; omega)
set_option maxHeartbeats 4000000 in
set_option maxRecDepth 100000 in
theorem k_m_decide (l : Launch) (D : va_G) (a : Nat → Nat) (kI kZ : ClassId) (F : Nat → Nat → Int32) (jt jk ju : Int32) (hI : rm_I F) (ht0 : 0 ≤ jt.toInt) (ht1 : jt.toInt < 50) (H0 : Heap) : rl_Ri l ⟨"RightsLimitModel", "decide", "(III)I"⟩ (Cond.code ⟨"RightsLimitModel", "decide", "(III)I"⟩ prog_7_method_14_code 4 (some .int) :: rl_G) { frames := 2, cells := 0, slots := 0, locals := 50 } D rl_cl (rl_tys kI kZ) [] [.ref (a 0), .int jt, .int jk, .int ju] (rm_w a kI kZ F) H0 (fun (r : Int32) => (0 ≤ r.toInt ∧ r.toInt ≤ 5) ∧ rm_Ix r F jt jk ju) := by
  refine rl_metr (cc := prog_7_method_14_code) (maxL := 4) (ret := (some .int)) (by decide) rfl (Nat.le_of_ble_eq_true rfl) ?_
  intro p e s m below meth c ls hx hb hr hml hown hts hlocks hP hK hS hN hl
  have hown : s.vm.findClass "RightsLimitModel" = some m.cls := hown
  have hG : ∀ x ∈ rl_G, x.before _ s = true := fun x h => hts x (List.mem_cons_of_mem _ h)
  have hl : lv_has ls 4 [(0, .ref (a 0)), (1, .int jt), (2, .int jk), (3, .int ju)] := hl
  obtain ⟨hcnt, hR⟩ := id hI
  refine lv_aload_n hx hb d_m_decide_0 rfl (lv_at hl 0 rfl) ?_
  refine va_get (D := D) (ci := 5) (v := .ref (a 2)) (C := "RightsLimitModel") (T := fT_m) (N := 33) hx hb hG fi_m hown hK hP 0 rfl rfl 4 (by decide) (hG _ wd_487) (fun _ h9 => h9) rfl d_m_decide_1 ?_
  refine lv_iload_n hx hb d_m_decide_4 rfl (lv_at hl 1 rfl) ?_
  refine va_zald hx hb hK hP 2 1 rfl rfl (rl_in (n := 50) (by omega) (by omega)) d_m_decide_5 ?_
  refine lv_topi (fun v1 ev1 => ?_)
  refine lv_if_eq (tgt := 11) hx hb d_m_decide_6 (by decide) (fun c2 => ?_) (fun c2 => ?_)
  · have ic2 := rl_ieq c2
    simp only [rl_n0] at ic2
    refine lv_aload_n hx hb d_m_decide_11 rfl (lv_at hl 0 rfl) ?_
    refine lv_iload_n hx hb d_m_decide_12 rfl (lv_at hl 1 rfl) ?_
    refine lv_iload_n hx hb d_m_decide_13 rfl (lv_at hl 2 rfl) ?_
    refine lv_iload_n hx hb d_m_decide_14 rfl (lv_at hl 3 rfl) ?_
    have hpre := rl_BR.pre (av := .ref (a 0) :: [.int jt, .int jk, .int ju]) rl_nw0 hP hK hN
    refine rl_callr hS (va_runV (As := [.int jt, .int jk, .int ju]) (rest := []) ⟨hx, hb, hml, hown, hG⟩ (k_m_licenceFor l D a kI kZ F jt jk ju ⟨by omega, hR⟩ _) (cwV 3 hG (rl_gV wd_623 wd_625 wd_9 wd_19 wd_626) rfl rfl rfl (by decide +kernel) ⟨Nat.le_of_ble_eq_true rfl, Nat.le_of_ble_eq_true rfl⟩) ⟨hpre.1, (va_recv hK hP (ci := 5) (q0 := 0) rfl rfl), hpre.2⟩ rfl rfl hl.1 rfl (lv_room (Nat.le_of_ble_eq_true rfl)) d_m_decide_15 ⟨Nat.le_of_ble_eq_true rfl, Nat.le_of_ble_eq_true rfl⟩) (fun r3 locs hw hS => ?_)
    have hwr3 := hw
    refine lv_if_lt (tgt := 23) hx hb d_m_decide_18 (by decide) (fun c4 => ?_) (fun c4 => ?_)
    · have ic4 := rl_ilt c4
      simp only [rl_n0] at ic4
      refine lv_aload_n hx hb d_m_decide_23 rfl (lv_at hl 0 rfl) ?_
      refine lv_iload_n hx hb d_m_decide_24 rfl (lv_at hl 1 rfl) ?_
      refine lv_iload_n hx hb d_m_decide_25 rfl (lv_at hl 2 rfl) ?_
      refine lv_iload_n hx hb d_m_decide_26 rfl (lv_at hl 3 rfl) ?_
      have hpre := rl_BR.pre (av := .ref (a 0) :: [.int jt, .int jk, .int ju]) rl_nw0 hP hK hN
      refine rl_callr hS (va_runV (As := [.int jt, .int jk, .int ju]) (rest := []) ⟨hx, hb, hml, hown, hG⟩ (k_m_barrier l D a kI kZ F jt jk ju ⟨by omega, hR⟩ _) (cwV 3 hG (rl_gV wd_627 wd_629 wd_10 wd_19 wd_630) rfl rfl rfl (by decide +kernel) ⟨Nat.le_of_ble_eq_true rfl, Nat.le_of_ble_eq_true rfl⟩) ⟨hpre.1, (va_recv hK hP (ci := 5) (q0 := 0) rfl rfl), hpre.2⟩ rfl rfl hl.1 rfl (lv_room (Nat.le_of_ble_eq_true rfl)) d_m_decide_27 ⟨Nat.le_of_ble_eq_true rfl, Nat.le_of_ble_eq_true rfl⟩) (fun r5 locs hw hS => ?_)
      have hwr5 := hw
      refine lv_if_ge (tgt := 35) hx hb d_m_decide_30 (by decide) (fun c6 => ?_) (fun c6 => ?_)
      · have ic6 := rl_ile c6
        simp only [rl_n0] at ic6
        refine lv_aload_n hx hb d_m_decide_35 rfl (lv_at hl 0 rfl) ?_
        refine va_get (D := D) (ci := 5) (v := .ref (a 4)) (C := "RightsLimitModel") (T := fT_m) (N := 33) hx hb hG fi_m hown hK hP 0 rfl rfl 6 (by decide) (hG _ wd_489) (fun _ h9 => h9) rfl d_m_decide_36 ?_
        refine lv_iload_n hx hb d_m_decide_39 rfl (lv_at hl 1 rfl) ?_
        refine va_iald hx hb hK hP 4 0 rfl rfl (rl_in (n := 50) (by omega) (by omega)) d_m_decide_40 ?_
        refine lv_topi (fun v7 ev7 => ?_)
        refine lv_if_le (tgt := 46) hx hb d_m_decide_41 (by decide) (fun c8 => ?_) (fun c8 => ?_)
        · have ic8 := rl_ile c8
          simp only [rl_n0] at ic8
          refine lv_aload_n hx hb d_m_decide_46 rfl (lv_at hl 0 rfl) ?_
          refine va_get (D := D) (ci := 5) (v := .ref (a 5)) (C := "RightsLimitModel") (T := fT_m) (N := 33) hx hb hG fi_m hown hK hP 0 rfl rfl 7 (by decide) (hG _ wd_490) (fun _ h9 => h9) rfl d_m_decide_47 ?_
          refine lv_aload_n hx hb d_m_decide_50 rfl (lv_at hl 0 rfl) ?_
          refine va_get (D := D) (ci := 5) (v := .ref (a 1)) (C := "RightsLimitModel") (T := fT_m) (N := 33) hx hb hG fi_m hown hK hP 0 rfl rfl 3 (by decide) (hG _ wd_486) (fun _ h9 => h9) rfl d_m_decide_51 ?_
          refine lv_iload_n hx hb d_m_decide_54 rfl (lv_at hl 1 rfl) ?_
          refine va_iald hx hb hK hP 1 0 rfl rfl (rl_in (n := 50) (by omega) (by omega)) d_m_decide_55 ?_
          refine lv_topi (fun v9 ev9 => ?_)
          have iv9 : 0 ≤ v9.toInt ∧ v9.toInt < 100 := by rw [ev9]; exact hR.1 _
          refine va_iald hx hb hK hP 5 0 rfl rfl (rl_in (n := 100) (by omega) (by omega)) d_m_decide_56 ?_
          refine lv_topi (fun v10 ev10 => ?_)
          refine lv_if_le (tgt := 64) hx hb d_m_decide_57 (by decide) (fun c11 => ?_) (fun c11 => ?_)
          · have ic11 := rl_ile c11
            simp only [rl_n0] at ic11
            refine lv_iconst (v := 0) hx hb d_m_decide_64 (by decide) ?_
            exact W.iret (v := 0) hx hb hr (fun t ht hW => ⟨⟨0, (), rfl, ⟨by have q9 := rl_n0; omega, fun h => absurd h (by decide)⟩, ht⟩, hS.F ht⟩) hS.2.2 d_m_decide_65
          · have ic11 := rl_inle c11
            simp only [rl_n0] at ic11
            refine lv_iconst (v := 5) hx hb d_m_decide_60 (by decide) ?_
            refine lv_goto (tgt := 65) hx hb d_m_decide_61 (by decide) ?_
            exact W.iret (v := 5) hx hb hr (fun t ht hW => ⟨⟨5, (), rfl, ⟨by have q9 := rl_n5; omega, fun h => absurd h (by decide)⟩, ht⟩, hS.F ht⟩) hS.2.2 d_m_decide_65
        · have ic8 := rl_inle c8
          simp only [rl_n0] at ic8
          refine lv_iconst (v := 4) hx hb d_m_decide_44 (by decide) ?_
          exact W.iret (v := 4) hx hb hr (fun t ht hW => ⟨⟨4, (), rfl, ⟨by have q9 := rl_n4; omega, fun h => absurd h (by decide)⟩, ht⟩, hS.F ht⟩) hS.2.2 d_m_decide_45
      · have ic6 := rl_inle c6
        simp only [rl_n0] at ic6
        refine lv_iconst (v := 3) hx hb d_m_decide_33 (by decide) ?_
        exact W.iret (v := 3) hx hb hr (fun t ht hW => ⟨⟨3, (), rfl, ⟨by have q9 := rl_n3; omega, fun h => absurd h (by decide)⟩, ht⟩, hS.F ht⟩) hS.2.2 d_m_decide_34
    · have ic4 := rl_inlt c4
      simp only [rl_n0] at ic4
      refine lv_iconst (v := 2) hx hb d_m_decide_21 (by decide) ?_
      exact W.iret (v := 2) hx hb hr (fun t ht hW => ⟨⟨2, (), rfl, ⟨by have q9 := rl_n2; omega, fun h => (by rcases hwr3 with ⟨h1, _⟩ | h1 <;> first | exact h1.2 | (exfalso; omega))⟩, ht⟩, hS.F ht⟩) hS.2.2 d_m_decide_22
  · have ic2 := rl_ine c2
    simp only [rl_n0] at ic2
    refine lv_iconst (v := 1) hx hb d_m_decide_9 (by decide) ?_
    exact W.iret (v := 1) hx hb hr (fun t ht hW => ⟨⟨1, (), rfl, ⟨by have q9 := rl_n1; omega, fun h => absurd h (by decide)⟩, ht⟩, hS.F ht⟩) hS.2.2 d_m_decide_10
set_option maxHeartbeats 4000000 in
set_option maxRecDepth 100000 in
theorem k_m_cents (l : Launch) (D : va_G) (a : Nat → Nat) (kI kZ : ClassId) (F : Nat → Nat → Int32) (jn : Int32) (hI : rm_I F) (hn0 : 0 ≤ jn.toInt) (hn1 : jn.toInt < 300) (H0 : Heap) : rl_Ri l ⟨"RightsLimitModel", "cents", "(I)I"⟩ (Cond.code ⟨"RightsLimitModel", "cents", "(I)I"⟩ prog_7_method_23_code 2 (some .int) :: rl_G) { frames := 0, cells := 0, slots := 0, locals := 0 } D rl_cl (rl_tys kI kZ) [] [.ref (a 0), .int jn] (rm_w a kI kZ F) H0 (fun (r : Int32) => True) := by
  refine rl_metr (cc := prog_7_method_23_code) (maxL := 2) (ret := (some .int)) (by decide) rfl (Nat.le_of_ble_eq_true rfl) ?_
  intro p e s m below meth c ls hx hb hr hml hown hts hlocks hP hK hS hN hl
  have hown : s.vm.findClass "RightsLimitModel" = some m.cls := hown
  have hG : ∀ x ∈ rl_G, x.before _ s = true := fun x h => hts x (List.mem_cons_of_mem _ h)
  have hl : lv_has ls 2 [(0, .ref (a 0)), (1, .int jn)] := hl
  obtain ⟨hcnt, hR⟩ := id hI
  refine lv_aload_n hx hb d_m_cents_0 rfl (lv_at hl 0 rfl) ?_
  refine va_get (D := D) (ci := 5) (v := .ref (a 23)) (C := "RightsLimitModel") (T := fT_m) (N := 33) hx hb hG fi_m hown hK hP 0 rfl rfl 28 (by decide) (hG _ wd_511) (fun _ h9 => h9) rfl d_m_cents_1 ?_
  refine lv_iload_n hx hb d_m_cents_4 rfl (lv_at hl 1 rfl) ?_
  refine va_iald hx hb hK hP 23 0 rfl rfl (rl_in (n := 300) (by omega) (by omega)) d_m_cents_5 ?_
  refine lv_topi (fun v1 ev1 => ?_)
  refine lv_iconst (v := 1) hx hb d_m_cents_6 (by decide) ?_
  refine lv_aload_n hx hb d_m_cents_7 rfl (lv_at hl 0 rfl) ?_
  refine va_get (D := D) (ci := 5) (v := .ref (a 25)) (C := "RightsLimitModel") (T := fT_m) (N := 33) hx hb hG fi_m hown hK hP 0 rfl rfl 30 (by decide) (hG _ wd_513) (fun _ h9 => h9) rfl d_m_cents_8 ?_
  refine lv_iload_n hx hb d_m_cents_11 rfl (lv_at hl 1 rfl) ?_
  refine va_iald hx hb hK hP 25 0 rfl rfl (rl_in (n := 300) (by omega) (by omega)) d_m_cents_12 ?_
  refine lv_topi (fun v2 ev2 => ?_)
  refine lv_iadd hx hb d_m_cents_13 ?_
  refine lv_topi (fun v3 ev3 => ?_)
  refine lv_imul hx hb d_m_cents_14 ?_
  refine lv_topi (fun v4 ev4 => ?_)
  exact W.iret (v := v4) hx hb hr (fun t ht hW => ⟨⟨v4, (), rfl, trivial, ht⟩, hS.F ht⟩) hS.2.2 d_m_cents_15
end
section
set_option maxHeartbeats 4000000 in
set_option maxRecDepth 100000 in
theorem k_m_title (l : Launch) (D : va_G) (a : Nat → Nat) (kI kZ : ClassId) (F : Nat → Nat → Int32) (jp : Int32) (hI : rm_I F) (sz : Nat) : rl_Ci (S := Nat → Nat → Int32) l ⟨"RightsLimitModel", "title", "(I)I"⟩ (Cond.code ⟨"RightsLimitModel", "title", "(I)I"⟩ prog_7_method_6_code 2 (some .int) :: rl_G) { frames := 1, cells := 0, slots := 0, locals := 22 } D rl_cl (rl_tys kI kZ) [] [.ref (a 0), .int jp] (rm_w a kI kZ F) sz (fun (r : Int32) (F' : Nat → Nat → Int32) => rm_R F' ∧ (((0 ≤ jp.toInt ∧ jp.toInt ≤ 99) ∧ (F 27 2).toInt < 50 ∧ r.toInt = (F 27 2).toInt ∧ (F' 27 2).toInt = (F 27 2).toInt + 1 ∧ (F' 27 3).toInt = (F 27 3).toInt ∧ (F' 27 4).toInt = (F 27 4).toInt ∧ (F' 27 5).toInt = (F 27 5).toInt) ∨ ((0 ≤ jp.toInt ∧ jp.toInt ≤ 99) ∧ 50 ≤ (F 27 2).toInt ∧ r.toInt = -4 ∧ (F' 27 2).toInt = (F 27 2).toInt ∧ (F' 27 3).toInt = (F 27 3).toInt ∧ (F' 27 4).toInt = (F 27 4).toInt ∧ (F' 27 5).toInt = (F 27 5).toInt) ∨ (¬ (0 ≤ jp.toInt ∧ jp.toInt ≤ 99) ∧ r.toInt = -2 ∧ (F' 27 2).toInt = (F 27 2).toInt ∧ (F' 27 3).toInt = (F 27 3).toInt ∧ (F' 27 4).toInt = (F 27 4).toInt ∧ (F' 27 5).toInt = (F 27 5).toInt))) (fun F' => rm_w a kI kZ F') 0 0 := by
  refine rl_meti (cc := prog_7_method_6_code) (maxL := 2) (ret := (some .int)) (by decide) rfl (Nat.le_of_ble_eq_true rfl) ?_
  intro p e s m below meth c A ls hx hb hr hml hown hts hlocks hnm hP hK hD hS hA hN hl
  have hown : s.vm.findClass "RightsLimitModel" = some m.cls := hown
  have hG : ∀ x ∈ rl_G, x.before _ s = true := fun x h => hts x (List.mem_cons_of_mem _ h)
  have hl : lv_has ls 2 [(0, .ref (a 0)), (1, .int jp)] := hl
  obtain ⟨hcnt, hR⟩ := id hI
  refine lv_aload_n hx hb d_m_title_0 rfl (lv_at hl 0 rfl) ?_
  refine lv_iconst (v := 0) hx hb d_m_title_1 (by decide) ?_
  refine va_put (D := D) (ci := 5) (v := .int 0) (ty := .int) (C := "RightsLimitModel") (T := fT_m) (N := 33) hx hb hG fi_m fy_m fo_m fn_m hown hK hP hD hS 0 rfl rfl 0 (by decide) (hG _ wd_483) (fun _ h9 => h9) rfl (by decide +kernel) rfl rfl (Nat.le_of_ble_eq_true rfl) d_m_title_2 (fun H locs hP hD hS => ?_)
  obtain ⟨F1, eF1⟩ : ∃ G, G = rl_st F 27 0 0 := ⟨_, rfl⟩
  have hP : va_P D rl_cl (rm_w a kI kZ F1) H := by rw [eF1]; exact hP
  have hD : va_D A (rm_w a kI kZ F1) := by rw [eF1]; exact hD
  obtain ⟨tF1, hRF1⟩ := rm_putS eF1 (by decide) (by decide) (by decide) (by decide) hR
  refine lv_iload_n hx hb d_m_title_5 rfl (lv_at hl 1 rfl) ?_
  refine lv_iconst (v := 0) hx hb d_m_title_6 (by decide) ?_
  refine lv_bipush (v := 99) hx hb d_m_title_7 (by decide) ?_
  refine rl_callr hS (va_runS (As := [.int jp, .int 0, .int 99]) (rest := []) ⟨hx, hb, hml, hown, hG⟩ (k_m_in l D a kI kZ jp 0 99 _) (cwS 3 hG (rl_gS wd_587 wd_588 wd_19 wd_589) rfl rfl rfl (by decide +kernel) ⟨Nat.le_of_ble_eq_true rfl, Nat.le_of_ble_eq_true rfl⟩) (rl_BR.pre rl_nw0 rl_P0 hK hN) rfl rfl hl.1 rfl (lv_room (Nat.le_of_ble_eq_true rfl)) d_m_title_9 ⟨Nat.le_of_ble_eq_true rfl, Nat.le_of_ble_eq_true rfl⟩) (fun r2 locs hw hS => ?_)
  try simp only [rl_n0, rl_n99] at hw
  rcases hw with ⟨rfl, h3⟩ | ⟨rfl, h3⟩
  · refine lv_if_ne (tgt := 18) hx hb d_m_title_12 (by decide) (fun _ => ?_) (fun c9 => absurd c9 (by decide))
    refine lv_aload_n hx hb d_m_title_18 rfl (lv_at hl 0 rfl) ?_
    refine va_get (D := D) (ci := 5) (v := .int (F1 27 2)) (C := "RightsLimitModel") (T := fT_m) (N := 33) hx hb hG fi_m hown hK hP 0 rfl rfl 2 (by decide) (hG _ wd_485) (fun _ h9 => h9) rfl d_m_title_19 ?_
    refine lv_bipush (v := 50) hx hb d_m_title_22 (by decide) ?_
    refine lv_icmp_ne (tgt := 30) hx hb d_m_title_24 (by decide) (fun c4 => ?_) (fun c4 => ?_)
    · have ic4 := rl_ine c4
      simp only [rl_n50] at ic4
      refine lv_aload_n hx hb d_m_title_30 rfl (lv_at hl 0 rfl) ?_
      refine va_get (D := D) (ci := 5) (v := .ref (a 1)) (C := "RightsLimitModel") (T := fT_m) (N := 33) hx hb hG fi_m hown hK hP 0 rfl rfl 3 (by decide) (hG _ wd_486) (fun _ h9 => h9) rfl d_m_title_31 ?_
      refine lv_aload_n hx hb d_m_title_34 rfl (lv_at hl 0 rfl) ?_
      refine va_get (D := D) (ci := 5) (v := .int (F1 27 2)) (C := "RightsLimitModel") (T := fT_m) (N := 33) hx hb hG fi_m hown hK hP 0 rfl rfl 2 (by decide) (hG _ wd_485) (fun _ h9 => h9) rfl d_m_title_35 ?_
      refine lv_iload_n hx hb d_m_title_38 rfl (lv_at hl 1 rfl) ?_
      refine va_iast hx hb hK hP hD hS 1 0 rfl rfl (rl_in (n := 50) (by omega) (by omega)) d_m_title_39 (fun H locs hP hD hS => ?_)
      obtain ⟨F5, eF5⟩ : ∃ G, G = rl_st F1 0 ((F1 27 2).toNatClampNeg) jp := ⟨_, rfl⟩
      have hP : va_P D rl_cl (rm_w a kI kZ F5) H := by rw [eF5]; exact hP
      have hD : va_D A (rm_w a kI kZ F5) := by rw [eF5]; exact hD
      obtain ⟨tF5, hRF5⟩ := rm_keep0 eF5 (⟨by omega, by omega⟩) hRF1
      refine lv_aload_n hx hb d_m_title_40 rfl (lv_at hl 0 rfl) ?_
      refine lv_dup hx hb d_m_title_41 rfl ?_
      refine va_get (D := D) (ci := 5) (v := .int (F5 27 2)) (C := "RightsLimitModel") (T := fT_m) (N := 33) hx hb hG fi_m hown hK hP 0 rfl rfl 2 (by decide) (hG _ wd_485) (fun _ h9 => h9) rfl d_m_title_42 ?_
      refine lv_iconst (v := 1) hx hb d_m_title_45 (by decide) ?_
      refine lv_iadd hx hb d_m_title_46 ?_
      refine lv_topi (fun v6 ev6 => ?_)
      have iv6 : v6.toInt = (F5 27 2).toInt + 1 := by rw [ev6]; exact rl_addk (by decide) (by omega) (by omega)
      refine va_put (D := D) (ci := 5) (v := .int v6) (ty := .int) (C := "RightsLimitModel") (T := fT_m) (N := 33) hx hb hG fi_m fy_m fo_m fn_m hown hK hP hD hS 0 rfl rfl 2 (by decide) (hG _ wd_485) (fun _ h9 => h9) rfl (by decide +kernel) rfl rfl (Nat.le_of_ble_eq_true rfl) d_m_title_47 (fun H locs hP hD hS => ?_)
      obtain ⟨F7, eF7⟩ : ∃ G, G = rl_st F5 27 2 v6 := ⟨_, rfl⟩
      have hP : va_P D rl_cl (rm_w a kI kZ F7) H := by rw [eF7]; exact hP
      have hD : va_D A (rm_w a kI kZ F7) := by rw [eF7]; exact hD
      obtain ⟨tF7, hRF7⟩ := rm_put2 eF7 hRF5
      refine lv_aload_n hx hb d_m_title_50 rfl (lv_at hl 0 rfl) ?_
      refine va_get (D := D) (ci := 5) (v := .int (F7 27 2)) (C := "RightsLimitModel") (T := fT_m) (N := 33) hx hb hG fi_m hown hK hP 0 rfl rfl 2 (by decide) (hG _ wd_485) (fun _ h9 => h9) rfl d_m_title_51 ?_
      refine lv_iconst (v := 1) hx hb d_m_title_54 (by decide) ?_
      refine lv_isub hx hb d_m_title_55 ?_
      refine lv_topi (fun v8 ev8 => ?_)
      have iv8 : v8.toInt = (F7 27 2).toInt - 1 := by rw [ev8]; exact rl_subk (by decide) (by omega) (by omega)
      exact W.iret (v := v8) hx hb hr (fun t ht hW => ⟨⟨v8, F7, rfl, ⟨hRF7, (show ((0 ≤ jp.toInt ∧ jp.toInt ≤ 99) ∧ (F 27 2).toInt < 50 ∧ v8.toInt = (F 27 2).toInt ∧ (F7 27 2).toInt = (F 27 2).toInt + 1 ∧ (F7 27 3).toInt = (F 27 3).toInt ∧ (F7 27 4).toInt = (F 27 4).toInt ∧ (F7 27 5).toInt = (F 27 5).toInt) ∨ ((0 ≤ jp.toInt ∧ jp.toInt ≤ 99) ∧ 50 ≤ (F 27 2).toInt ∧ v8.toInt = -4 ∧ (F7 27 2).toInt = (F 27 2).toInt ∧ (F7 27 3).toInt = (F 27 3).toInt ∧ (F7 27 4).toInt = (F 27 4).toInt ∧ (F7 27 5).toInt = (F 27 5).toInt) ∨ (¬ (0 ≤ jp.toInt ∧ jp.toInt ≤ 99) ∧ v8.toInt = -2 ∧ (F7 27 2).toInt = (F 27 2).toInt ∧ (F7 27 3).toInt = (F 27 3).toInt ∧ (F7 27 4).toInt = (F 27 4).toInt ∧ (F7 27 5).toInt = (F 27 5).toInt) by omega)⟩, ⟨by rw [ht]; exact hP, hD⟩⟩, hS.F ht⟩) hS.2.2 d_m_title_56
    · have ic4 := rl_ieq c4
      simp only [rl_n50] at ic4
      refine lv_bipush (v := (-4)) hx hb d_m_title_27 (by decide) ?_
      exact W.iret (v := (-4)) hx hb hr (fun t ht hW => ⟨⟨(-4), F1, rfl, ⟨hRF1, (show ((0 ≤ jp.toInt ∧ jp.toInt ≤ 99) ∧ (F 27 2).toInt < 50 ∧ ((-4) : Int32).toInt = (F 27 2).toInt ∧ (F1 27 2).toInt = (F 27 2).toInt + 1 ∧ (F1 27 3).toInt = (F 27 3).toInt ∧ (F1 27 4).toInt = (F 27 4).toInt ∧ (F1 27 5).toInt = (F 27 5).toInt) ∨ ((0 ≤ jp.toInt ∧ jp.toInt ≤ 99) ∧ 50 ≤ (F 27 2).toInt ∧ ((-4) : Int32).toInt = -4 ∧ (F1 27 2).toInt = (F 27 2).toInt ∧ (F1 27 3).toInt = (F 27 3).toInt ∧ (F1 27 4).toInt = (F 27 4).toInt ∧ (F1 27 5).toInt = (F 27 5).toInt) ∨ (¬ (0 ≤ jp.toInt ∧ jp.toInt ≤ 99) ∧ ((-4) : Int32).toInt = -2 ∧ (F1 27 2).toInt = (F 27 2).toInt ∧ (F1 27 3).toInt = (F 27 3).toInt ∧ (F1 27 4).toInt = (F 27 4).toInt ∧ (F1 27 5).toInt = (F 27 5).toInt) by have q9 := rl_nm4; omega)⟩, ⟨by rw [ht]; exact hP, hD⟩⟩, hS.F ht⟩) hS.2.2 d_m_title_29
  · refine lv_if_ne (tgt := 18) hx hb d_m_title_12 (by decide) (fun c9 => absurd c9 (by decide)) (fun _ => ?_)
    refine lv_bipush (v := (-2)) hx hb d_m_title_15 (by decide) ?_
    exact W.iret (v := (-2)) hx hb hr (fun t ht hW => ⟨⟨(-2), F1, rfl, ⟨hRF1, (show ((0 ≤ jp.toInt ∧ jp.toInt ≤ 99) ∧ (F 27 2).toInt < 50 ∧ ((-2) : Int32).toInt = (F 27 2).toInt ∧ (F1 27 2).toInt = (F 27 2).toInt + 1 ∧ (F1 27 3).toInt = (F 27 3).toInt ∧ (F1 27 4).toInt = (F 27 4).toInt ∧ (F1 27 5).toInt = (F 27 5).toInt) ∨ ((0 ≤ jp.toInt ∧ jp.toInt ≤ 99) ∧ 50 ≤ (F 27 2).toInt ∧ ((-2) : Int32).toInt = -4 ∧ (F1 27 2).toInt = (F 27 2).toInt ∧ (F1 27 3).toInt = (F 27 3).toInt ∧ (F1 27 4).toInt = (F 27 4).toInt ∧ (F1 27 5).toInt = (F 27 5).toInt) ∨ (¬ (0 ≤ jp.toInt ∧ jp.toInt ≤ 99) ∧ ((-2) : Int32).toInt = -2 ∧ (F1 27 2).toInt = (F 27 2).toInt ∧ (F1 27 3).toInt = (F 27 3).toInt ∧ (F1 27 4).toInt = (F 27 4).toInt ∧ (F1 27 5).toInt = (F 27 5).toInt) by have q9 := rl_nm2; omega)⟩, ⟨by rw [ht]; exact hP, hD⟩⟩, hS.F ht⟩) hS.2.2 d_m_title_17
set_option maxHeartbeats 4000000 in
set_option maxRecDepth 100000 in
theorem k_m_open (l : Launch) (D : va_G) (a : Nat → Nat) (kI kZ : ClassId) (F : Nat → Nat → Int32) (jt jb : Int32) (hI : rm_I F) (sz : Nat) : rl_Ci (S := Nat → Nat → Int32) l ⟨"RightsLimitModel", "open", "(IZ)I"⟩ (Cond.code ⟨"RightsLimitModel", "open", "(IZ)I"⟩ prog_7_method_7_code 3 (some .int) :: rl_G) { frames := 2, cells := 0, slots := 0, locals := 43 } D rl_cl (rl_tys kI kZ) [] [.ref (a 0), .int jt, .int jb] (rm_w a kI kZ F) sz (fun (r : Int32) (F' : Nat → Nat → Int32) => rm_R F' ∧ ((((0 ≤ jt.toInt ∧ jt.toInt < (F 27 2).toInt) ∧ r.toInt = 1) ∨ (¬ (0 ≤ jt.toInt ∧ jt.toInt < (F 27 2).toInt) ∧ r.toInt = -1)) ∧ (F' 27 2).toInt = (F 27 2).toInt ∧ (F' 27 3).toInt = (F 27 3).toInt ∧ (F' 27 4).toInt = (F 27 4).toInt ∧ (F' 27 5).toInt = (F 27 5).toInt)) (fun F' => rm_w a kI kZ F') 0 0 := by
  refine rl_meti (cc := prog_7_method_7_code) (maxL := 3) (ret := (some .int)) (by decide) rfl (Nat.le_of_ble_eq_true rfl) ?_
  intro p e s m below meth c A ls hx hb hr hml hown hts hlocks hnm hP hK hD hS hA hN hl
  have hown : s.vm.findClass "RightsLimitModel" = some m.cls := hown
  have hG : ∀ x ∈ rl_G, x.before _ s = true := fun x h => hts x (List.mem_cons_of_mem _ h)
  have hl : lv_has ls 3 [(0, .ref (a 0)), (1, .int jt), (2, .int jb)] := hl
  obtain ⟨hcnt, hR⟩ := id hI
  refine lv_aload_n hx hb d_m_open_0 rfl (lv_at hl 0 rfl) ?_
  refine lv_iconst (v := 0) hx hb d_m_open_1 (by decide) ?_
  refine va_put (D := D) (ci := 5) (v := .int 0) (ty := .int) (C := "RightsLimitModel") (T := fT_m) (N := 33) hx hb hG fi_m fy_m fo_m fn_m hown hK hP hD hS 0 rfl rfl 0 (by decide) (hG _ wd_483) (fun _ h9 => h9) rfl (by decide +kernel) rfl rfl (Nat.le_of_ble_eq_true rfl) d_m_open_2 (fun H locs hP hD hS => ?_)
  obtain ⟨F1, eF1⟩ : ∃ G, G = rl_st F 27 0 0 := ⟨_, rfl⟩
  have hP : va_P D rl_cl (rm_w a kI kZ F1) H := by rw [eF1]; exact hP
  have hD : va_D A (rm_w a kI kZ F1) := by rw [eF1]; exact hD
  obtain ⟨tF1, hRF1⟩ := rm_putS eF1 (by decide) (by decide) (by decide) (by decide) hR
  refine lv_aload_n hx hb d_m_open_5 rfl (lv_at hl 0 rfl) ?_
  refine lv_iload_n hx hb d_m_open_6 rfl (lv_at hl 1 rfl) ?_
  have hpre := rl_BR.pre (av := .ref (a 0) :: [.int jt]) rl_nw0 hP hK hN
  refine rl_callr hS (va_runV (As := [.int jt]) (rest := []) ⟨hx, hb, hml, hown, hG⟩ (k_m_isTitle l D a kI kZ F1 jt ⟨by omega, hRF1⟩ _) (cwV 1 hG (rl_gV wd_594 wd_596 wd_6 wd_19 wd_597) rfl rfl rfl (by decide +kernel) ⟨Nat.le_of_ble_eq_true rfl, Nat.le_of_ble_eq_true rfl⟩) ⟨hpre.1, (va_recv hK hP (ci := 5) (q0 := 0) rfl rfl), hpre.2⟩ rfl rfl hl.1 rfl (lv_room (Nat.le_of_ble_eq_true rfl)) d_m_open_7 ⟨Nat.le_of_ble_eq_true rfl, Nat.le_of_ble_eq_true rfl⟩) (fun r2 locs hw hS => ?_)
  rcases hw with ⟨rfl, h3⟩ | ⟨rfl, h3⟩
  · refine lv_if_ne (tgt := 15) hx hb d_m_open_10 (by decide) (fun _ => ?_) (fun c9 => absurd c9 (by decide))
    refine lv_aload_n hx hb d_m_open_15 rfl (lv_at hl 0 rfl) ?_
    refine va_get (D := D) (ci := 5) (v := .ref (a 2)) (C := "RightsLimitModel") (T := fT_m) (N := 33) hx hb hG fi_m hown hK hP 0 rfl rfl 4 (by decide) (hG _ wd_487) (fun _ h9 => h9) rfl d_m_open_16 ?_
    refine lv_iload_n hx hb d_m_open_19 rfl (lv_at hl 1 rfl) ?_
    refine lv_iload_n hx hb d_m_open_20 rfl (lv_at hl 2 rfl) ?_
    refine va_zast hx hb hK hP hD hS 2 1 rfl rfl (rl_in (n := 50) (by omega) (by omega)) d_m_open_21 (fun H locs hP hD hS => ?_)
    obtain ⟨F4, eF4⟩ : ∃ G, G = rl_st F1 1 jt.toNatClampNeg (vp_nar .boolean jb) := ⟨_, rfl⟩
    have hP : va_P D rl_cl (rm_w a kI kZ F4) H := by rw [eF4]; exact hP
    have hD : va_D A (rm_w a kI kZ F4) := by rw [eF4]; exact hD
    obtain ⟨tF4, hRF4⟩ := rm_keep eF4 (by decide) (by decide) (by decide) hRF1
    refine lv_iconst (v := 1) hx hb d_m_open_22 (by decide) ?_
    exact W.iret (v := 1) hx hb hr (fun t ht hW => ⟨⟨1, F4, rfl, ⟨hRF4, (show (((0 ≤ jt.toInt ∧ jt.toInt < (F 27 2).toInt) ∧ (1 : Int32).toInt = 1) ∨ (¬ (0 ≤ jt.toInt ∧ jt.toInt < (F 27 2).toInt) ∧ (1 : Int32).toInt = -1)) ∧ (F4 27 2).toInt = (F 27 2).toInt ∧ (F4 27 3).toInt = (F 27 3).toInt ∧ (F4 27 4).toInt = (F 27 4).toInt ∧ (F4 27 5).toInt = (F 27 5).toInt by have q9 := rl_n1; omega)⟩, ⟨by rw [ht]; exact hP, hD⟩⟩, hS.F ht⟩) hS.2.2 d_m_open_23
  · refine lv_if_ne (tgt := 15) hx hb d_m_open_10 (by decide) (fun c9 => absurd c9 (by decide)) (fun _ => ?_)
    refine lv_iconst (v := (-1)) hx hb d_m_open_13 (by decide) ?_
    exact W.iret (v := (-1)) hx hb hr (fun t ht hW => ⟨⟨(-1), F1, rfl, ⟨hRF1, (show (((0 ≤ jt.toInt ∧ jt.toInt < (F 27 2).toInt) ∧ ((-1) : Int32).toInt = 1) ∨ (¬ (0 ≤ jt.toInt ∧ jt.toInt < (F 27 2).toInt) ∧ ((-1) : Int32).toInt = -1)) ∧ (F1 27 2).toInt = (F 27 2).toInt ∧ (F1 27 3).toInt = (F 27 3).toInt ∧ (F1 27 4).toInt = (F 27 4).toInt ∧ (F1 27 5).toInt = (F 27 5).toInt by have q9 := rl_nm1; omega)⟩, ⟨by rw [ht]; exact hP, hD⟩⟩, hS.F ht⟩) hS.2.2 d_m_open_14
set_option maxHeartbeats 4000000 in
set_option maxRecDepth 100000 in
theorem k_m_limit (l : Launch) (D : va_G) (a : Nat → Nat) (kI kZ : ClassId) (F : Nat → Nat → Int32) (jt jk jd jn : Int32) (hI : rm_I F) (sz : Nat) : rl_Ci (S := Nat → Nat → Int32) l ⟨"RightsLimitModel", "limit", "(IIII)I"⟩ (Cond.code ⟨"RightsLimitModel", "limit", "(IIII)I"⟩ prog_7_method_8_code 5 (some .int) :: rl_G) { frames := 2, cells := 0, slots := 0, locals := 43 } D rl_cl (rl_tys kI kZ) [] [.ref (a 0), .int jt, .int jk, .int jd, .int jn] (rm_w a kI kZ F) sz (fun (r : Int32) (F' : Nat → Nat → Int32) => rm_R F' ∧ (((0 ≤ jt.toInt ∧ jt.toInt < (F 27 2).toInt) ∧ ((0 ≤ jk.toInt ∧ jk.toInt ≤ 1) ∧ (1 ≤ jd.toInt ∧ jd.toInt ≤ 5000) ∧ (0 ≤ jn.toInt ∧ jn.toInt ≤ 1000)) ∧ (F 27 3).toInt < 100 ∧ r.toInt = (F 27 3).toInt ∧ (F' 27 3).toInt = (F 27 3).toInt + 1 ∧ (F' 27 2).toInt = (F 27 2).toInt ∧ (F' 27 4).toInt = (F 27 4).toInt ∧ (F' 27 5).toInt = (F 27 5).toInt) ∨ ((((0 ≤ jt.toInt ∧ jt.toInt < (F 27 2).toInt) ∧ ((0 ≤ jk.toInt ∧ jk.toInt ≤ 1) ∧ (1 ≤ jd.toInt ∧ jd.toInt ≤ 5000) ∧ (0 ≤ jn.toInt ∧ jn.toInt ≤ 1000)) ∧ 100 ≤ (F 27 3).toInt ∧ r.toInt = -4) ∨ ((0 ≤ jt.toInt ∧ jt.toInt < (F 27 2).toInt) ∧ ¬ ((0 ≤ jk.toInt ∧ jk.toInt ≤ 1) ∧ (1 ≤ jd.toInt ∧ jd.toInt ≤ 5000) ∧ (0 ≤ jn.toInt ∧ jn.toInt ≤ 1000)) ∧ r.toInt = -2) ∨ (¬ (0 ≤ jt.toInt ∧ jt.toInt < (F 27 2).toInt) ∧ r.toInt = -1)) ∧ (F' 27 2).toInt = (F 27 2).toInt ∧ (F' 27 3).toInt = (F 27 3).toInt ∧ (F' 27 4).toInt = (F 27 4).toInt ∧ (F' 27 5).toInt = (F 27 5).toInt))) (fun F' => rm_w a kI kZ F') 0 0 := by
  refine rl_meti (cc := prog_7_method_8_code) (maxL := 5) (ret := (some .int)) (by decide) rfl (Nat.le_of_ble_eq_true rfl) ?_
  intro p e s m below meth c A ls hx hb hr hml hown hts hlocks hnm hP hK hD hS hA hN hl
  have hown : s.vm.findClass "RightsLimitModel" = some m.cls := hown
  have hG : ∀ x ∈ rl_G, x.before _ s = true := fun x h => hts x (List.mem_cons_of_mem _ h)
  have hl : lv_has ls 5 [(0, .ref (a 0)), (1, .int jt), (2, .int jk), (3, .int jd), (4, .int jn)] := hl
  obtain ⟨hcnt, hR⟩ := id hI
  refine lv_aload_n hx hb d_m_limit_0 rfl (lv_at hl 0 rfl) ?_
  refine lv_iconst (v := 0) hx hb d_m_limit_1 (by decide) ?_
  refine va_put (D := D) (ci := 5) (v := .int 0) (ty := .int) (C := "RightsLimitModel") (T := fT_m) (N := 33) hx hb hG fi_m fy_m fo_m fn_m hown hK hP hD hS 0 rfl rfl 0 (by decide) (hG _ wd_483) (fun _ h9 => h9) rfl (by decide +kernel) rfl rfl (Nat.le_of_ble_eq_true rfl) d_m_limit_2 (fun H locs hP hD hS => ?_)
  obtain ⟨F1, eF1⟩ : ∃ G, G = rl_st F 27 0 0 := ⟨_, rfl⟩
  have hP : va_P D rl_cl (rm_w a kI kZ F1) H := by rw [eF1]; exact hP
  have hD : va_D A (rm_w a kI kZ F1) := by rw [eF1]; exact hD
  obtain ⟨tF1, hRF1⟩ := rm_putS eF1 (by decide) (by decide) (by decide) (by decide) hR
  refine lv_aload_n hx hb d_m_limit_5 rfl (lv_at hl 0 rfl) ?_
  refine lv_iload_n hx hb d_m_limit_6 rfl (lv_at hl 1 rfl) ?_
  have hpre := rl_BR.pre (av := .ref (a 0) :: [.int jt]) rl_nw0 hP hK hN
  refine rl_callr hS (va_runV (As := [.int jt]) (rest := []) ⟨hx, hb, hml, hown, hG⟩ (k_m_isTitle l D a kI kZ F1 jt ⟨by omega, hRF1⟩ _) (cwV 1 hG (rl_gV wd_594 wd_596 wd_6 wd_19 wd_597) rfl rfl rfl (by decide +kernel) ⟨Nat.le_of_ble_eq_true rfl, Nat.le_of_ble_eq_true rfl⟩) ⟨hpre.1, (va_recv hK hP (ci := 5) (q0 := 0) rfl rfl), hpre.2⟩ rfl rfl hl.1 rfl (lv_room (Nat.le_of_ble_eq_true rfl)) d_m_limit_7 ⟨Nat.le_of_ble_eq_true rfl, Nat.le_of_ble_eq_true rfl⟩) (fun r2 locs hw hS => ?_)
  rcases hw with ⟨rfl, h3⟩ | ⟨rfl, h3⟩
  · refine lv_if_ne (tgt := 15) hx hb d_m_limit_10 (by decide) (fun _ => ?_) (fun c9 => absurd c9 (by decide))
    refine lv_iload_n hx hb d_m_limit_15 rfl (lv_at hl 2 rfl) ?_
    refine lv_iconst (v := 0) hx hb d_m_limit_16 (by decide) ?_
    refine lv_iconst (v := 1) hx hb d_m_limit_17 (by decide) ?_
    refine rl_callr hS (va_runS (As := [.int jk, .int 0, .int 1]) (rest := []) ⟨hx, hb, hml, hown, hG⟩ (k_m_in l D a kI kZ jk 0 1 _) (cwS 3 hG (rl_gS wd_587 wd_588 wd_19 wd_589) rfl rfl rfl (by decide +kernel) ⟨Nat.le_of_ble_eq_true rfl, Nat.le_of_ble_eq_true rfl⟩) (rl_BR.pre rl_nw0 rl_P0 hK hN) rfl rfl hl.1 rfl (lv_room (Nat.le_of_ble_eq_true rfl)) d_m_limit_18 ⟨Nat.le_of_ble_eq_true rfl, Nat.le_of_ble_eq_true rfl⟩) (fun r4 locs hw hS => ?_)
    try simp only [rl_n0, rl_n1] at hw
    rcases hw with ⟨rfl, h5⟩ | ⟨rfl, h5⟩
    · refine lv_if_eq (tgt := 47) hx hb d_m_limit_21 (by decide) (fun c9 => absurd c9 (by decide)) (fun _ => ?_)
      refine lv_iload_n hx hb d_m_limit_24 rfl (lv_at hl 3 rfl) ?_
      refine lv_iconst (v := 1) hx hb d_m_limit_25 (by decide) ?_
      refine lv_sipush (v := 5000) hx hb d_m_limit_26 (by decide) ?_
      refine rl_callr hS (va_runS (As := [.int jd, .int 1, .int 5000]) (rest := []) ⟨hx, hb, hml, hown, hG⟩ (k_m_in l D a kI kZ jd 1 5000 _) (cwS 3 hG (rl_gS wd_587 wd_588 wd_19 wd_589) rfl rfl rfl (by decide +kernel) ⟨Nat.le_of_ble_eq_true rfl, Nat.le_of_ble_eq_true rfl⟩) (rl_BR.pre rl_nw0 rl_P0 hK hN) rfl rfl hl.1 rfl (lv_room (Nat.le_of_ble_eq_true rfl)) d_m_limit_29 ⟨Nat.le_of_ble_eq_true rfl, Nat.le_of_ble_eq_true rfl⟩) (fun r6 locs hw hS => ?_)
      try simp only [rl_n1, rl_n5000] at hw
      rcases hw with ⟨rfl, h7⟩ | ⟨rfl, h7⟩
      · refine lv_if_eq (tgt := 47) hx hb d_m_limit_32 (by decide) (fun c9 => absurd c9 (by decide)) (fun _ => ?_)
        refine lv_iload hx hb d_m_limit_35 (lv_at hl 4 rfl) ?_
        refine lv_iconst (v := 0) hx hb d_m_limit_37 (by decide) ?_
        refine lv_sipush (v := 1000) hx hb d_m_limit_38 (by decide) ?_
        refine rl_callr hS (va_runS (As := [.int jn, .int 0, .int 1000]) (rest := []) ⟨hx, hb, hml, hown, hG⟩ (k_m_in l D a kI kZ jn 0 1000 _) (cwS 3 hG (rl_gS wd_587 wd_588 wd_19 wd_589) rfl rfl rfl (by decide +kernel) ⟨Nat.le_of_ble_eq_true rfl, Nat.le_of_ble_eq_true rfl⟩) (rl_BR.pre rl_nw0 rl_P0 hK hN) rfl rfl hl.1 rfl (lv_room (Nat.le_of_ble_eq_true rfl)) d_m_limit_41 ⟨Nat.le_of_ble_eq_true rfl, Nat.le_of_ble_eq_true rfl⟩) (fun r8 locs hw hS => ?_)
        try simp only [rl_n0, rl_n1000] at hw
        rcases hw with ⟨rfl, h9⟩ | ⟨rfl, h9⟩
        · refine lv_if_ne (tgt := 50) hx hb d_m_limit_44 (by decide) (fun _ => ?_) (fun c9 => absurd c9 (by decide))
          refine lv_aload_n hx hb d_m_limit_50 rfl (lv_at hl 0 rfl) ?_
          refine va_get (D := D) (ci := 5) (v := .int (F1 27 3)) (C := "RightsLimitModel") (T := fT_m) (N := 33) hx hb hG fi_m hown hK hP 0 rfl rfl 9 (by decide) (hG _ wd_492) (fun _ h9 => h9) rfl d_m_limit_51 ?_
          refine lv_bipush (v := 100) hx hb d_m_limit_54 (by decide) ?_
          refine lv_icmp_ne (tgt := 62) hx hb d_m_limit_56 (by decide) (fun c10 => ?_) (fun c10 => ?_)
          · have ic10 := rl_ine c10
            simp only [rl_n100] at ic10
            refine lv_aload_n hx hb d_m_limit_62 rfl (lv_at hl 0 rfl) ?_
            refine va_get (D := D) (ci := 5) (v := .ref (a 7)) (C := "RightsLimitModel") (T := fT_m) (N := 33) hx hb hG fi_m hown hK hP 0 rfl rfl 10 (by decide) (hG _ wd_493) (fun _ h9 => h9) rfl d_m_limit_63 ?_
            refine lv_aload_n hx hb d_m_limit_66 rfl (lv_at hl 0 rfl) ?_
            refine va_get (D := D) (ci := 5) (v := .int (F1 27 3)) (C := "RightsLimitModel") (T := fT_m) (N := 33) hx hb hG fi_m hown hK hP 0 rfl rfl 9 (by decide) (hG _ wd_492) (fun _ h9 => h9) rfl d_m_limit_67 ?_
            refine lv_iload_n hx hb d_m_limit_70 rfl (lv_at hl 1 rfl) ?_
            refine va_iast hx hb hK hP hD hS 7 0 rfl rfl (rl_in (n := 100) (by omega) (by omega)) d_m_limit_71 (fun H locs hP hD hS => ?_)
            obtain ⟨F11, eF11⟩ : ∃ G, G = rl_st F1 6 ((F1 27 3).toNatClampNeg) jt := ⟨_, rfl⟩
            have hP : va_P D rl_cl (rm_w a kI kZ F11) H := by rw [eF11]; exact hP
            have hD : va_D A (rm_w a kI kZ F11) := by rw [eF11]; exact hD
            obtain ⟨tF11, hRF11⟩ := rm_keep eF11 (by decide) (by decide) (by decide) hRF1
            refine lv_aload_n hx hb d_m_limit_72 rfl (lv_at hl 0 rfl) ?_
            refine va_get (D := D) (ci := 5) (v := .ref (a 8)) (C := "RightsLimitModel") (T := fT_m) (N := 33) hx hb hG fi_m hown hK hP 0 rfl rfl 11 (by decide) (hG _ wd_494) (fun _ h9 => h9) rfl d_m_limit_73 ?_
            refine lv_aload_n hx hb d_m_limit_76 rfl (lv_at hl 0 rfl) ?_
            refine va_get (D := D) (ci := 5) (v := .int (F11 27 3)) (C := "RightsLimitModel") (T := fT_m) (N := 33) hx hb hG fi_m hown hK hP 0 rfl rfl 9 (by decide) (hG _ wd_492) (fun _ h9 => h9) rfl d_m_limit_77 ?_
            refine lv_iload_n hx hb d_m_limit_80 rfl (lv_at hl 2 rfl) ?_
            refine va_iast hx hb hK hP hD hS 8 0 rfl rfl (rl_in (n := 100) (by omega) (by omega)) d_m_limit_81 (fun H locs hP hD hS => ?_)
            obtain ⟨F12, eF12⟩ : ∃ G, G = rl_st F11 7 ((F11 27 3).toNatClampNeg) jk := ⟨_, rfl⟩
            have hP : va_P D rl_cl (rm_w a kI kZ F12) H := by rw [eF12]; exact hP
            have hD : va_D A (rm_w a kI kZ F12) := by rw [eF12]; exact hD
            obtain ⟨tF12, hRF12⟩ := rm_keep eF12 (by decide) (by decide) (by decide) hRF11
            refine lv_aload_n hx hb d_m_limit_82 rfl (lv_at hl 0 rfl) ?_
            refine va_get (D := D) (ci := 5) (v := .ref (a 9)) (C := "RightsLimitModel") (T := fT_m) (N := 33) hx hb hG fi_m hown hK hP 0 rfl rfl 12 (by decide) (hG _ wd_495) (fun _ h9 => h9) rfl d_m_limit_83 ?_
            refine lv_aload_n hx hb d_m_limit_86 rfl (lv_at hl 0 rfl) ?_
            refine va_get (D := D) (ci := 5) (v := .int (F12 27 3)) (C := "RightsLimitModel") (T := fT_m) (N := 33) hx hb hG fi_m hown hK hP 0 rfl rfl 9 (by decide) (hG _ wd_492) (fun _ h9 => h9) rfl d_m_limit_87 ?_
            refine lv_iload_n hx hb d_m_limit_90 rfl (lv_at hl 3 rfl) ?_
            refine va_iast hx hb hK hP hD hS 9 0 rfl rfl (rl_in (n := 100) (by omega) (by omega)) d_m_limit_91 (fun H locs hP hD hS => ?_)
            obtain ⟨F13, eF13⟩ : ∃ G, G = rl_st F12 8 ((F12 27 3).toNatClampNeg) jd := ⟨_, rfl⟩
            have hP : va_P D rl_cl (rm_w a kI kZ F13) H := by rw [eF13]; exact hP
            have hD : va_D A (rm_w a kI kZ F13) := by rw [eF13]; exact hD
            obtain ⟨tF13, hRF13⟩ := rm_keep eF13 (by decide) (by decide) (by decide) hRF12
            refine lv_aload_n hx hb d_m_limit_92 rfl (lv_at hl 0 rfl) ?_
            refine va_get (D := D) (ci := 5) (v := .ref (a 10)) (C := "RightsLimitModel") (T := fT_m) (N := 33) hx hb hG fi_m hown hK hP 0 rfl rfl 13 (by decide) (hG _ wd_496) (fun _ h9 => h9) rfl d_m_limit_93 ?_
            refine lv_aload_n hx hb d_m_limit_96 rfl (lv_at hl 0 rfl) ?_
            refine va_get (D := D) (ci := 5) (v := .int (F13 27 3)) (C := "RightsLimitModel") (T := fT_m) (N := 33) hx hb hG fi_m hown hK hP 0 rfl rfl 9 (by decide) (hG _ wd_492) (fun _ h9 => h9) rfl d_m_limit_97 ?_
            refine lv_iload hx hb d_m_limit_100 (lv_at hl 4 rfl) ?_
            refine va_iast hx hb hK hP hD hS 10 0 rfl rfl (rl_in (n := 100) (by omega) (by omega)) d_m_limit_102 (fun H locs hP hD hS => ?_)
            obtain ⟨F14, eF14⟩ : ∃ G, G = rl_st F13 9 ((F13 27 3).toNatClampNeg) jn := ⟨_, rfl⟩
            have hP : va_P D rl_cl (rm_w a kI kZ F14) H := by rw [eF14]; exact hP
            have hD : va_D A (rm_w a kI kZ F14) := by rw [eF14]; exact hD
            obtain ⟨tF14, hRF14⟩ := rm_keep eF14 (by decide) (by decide) (by decide) hRF13
            refine lv_aload_n hx hb d_m_limit_103 rfl (lv_at hl 0 rfl) ?_
            refine lv_dup hx hb d_m_limit_104 rfl ?_
            refine va_get (D := D) (ci := 5) (v := .int (F14 27 3)) (C := "RightsLimitModel") (T := fT_m) (N := 33) hx hb hG fi_m hown hK hP 0 rfl rfl 9 (by decide) (hG _ wd_492) (fun _ h9 => h9) rfl d_m_limit_105 ?_
            refine lv_iconst (v := 1) hx hb d_m_limit_108 (by decide) ?_
            refine lv_iadd hx hb d_m_limit_109 ?_
            refine lv_topi (fun v15 ev15 => ?_)
            have iv15 : v15.toInt = (F14 27 3).toInt + 1 := by rw [ev15]; exact rl_addk (by decide) (by omega) (by omega)
            refine va_put (D := D) (ci := 5) (v := .int v15) (ty := .int) (C := "RightsLimitModel") (T := fT_m) (N := 33) hx hb hG fi_m fy_m fo_m fn_m hown hK hP hD hS 0 rfl rfl 9 (by decide) (hG _ wd_492) (fun _ h9 => h9) rfl (by decide +kernel) rfl rfl (Nat.le_of_ble_eq_true rfl) d_m_limit_110 (fun H locs hP hD hS => ?_)
            obtain ⟨F16, eF16⟩ : ∃ G, G = rl_st F14 27 3 v15 := ⟨_, rfl⟩
            have hP : va_P D rl_cl (rm_w a kI kZ F16) H := by rw [eF16]; exact hP
            have hD : va_D A (rm_w a kI kZ F16) := by rw [eF16]; exact hD
            obtain ⟨tF16, hRF16⟩ := rm_put3 eF16 hRF14
            refine lv_aload_n hx hb d_m_limit_113 rfl (lv_at hl 0 rfl) ?_
            refine va_get (D := D) (ci := 5) (v := .int (F16 27 3)) (C := "RightsLimitModel") (T := fT_m) (N := 33) hx hb hG fi_m hown hK hP 0 rfl rfl 9 (by decide) (hG _ wd_492) (fun _ h9 => h9) rfl d_m_limit_114 ?_
            refine lv_iconst (v := 1) hx hb d_m_limit_117 (by decide) ?_
            refine lv_isub hx hb d_m_limit_118 ?_
            refine lv_topi (fun v17 ev17 => ?_)
            have iv17 : v17.toInt = (F16 27 3).toInt - 1 := by rw [ev17]; exact rl_subk (by decide) (by omega) (by omega)
            exact W.iret (v := v17) hx hb hr (fun t ht hW => ⟨⟨v17, F16, rfl, ⟨hRF16, (show ((0 ≤ jt.toInt ∧ jt.toInt < (F 27 2).toInt) ∧ ((0 ≤ jk.toInt ∧ jk.toInt ≤ 1) ∧ (1 ≤ jd.toInt ∧ jd.toInt ≤ 5000) ∧ (0 ≤ jn.toInt ∧ jn.toInt ≤ 1000)) ∧ (F 27 3).toInt < 100 ∧ v17.toInt = (F 27 3).toInt ∧ (F16 27 3).toInt = (F 27 3).toInt + 1 ∧ (F16 27 2).toInt = (F 27 2).toInt ∧ (F16 27 4).toInt = (F 27 4).toInt ∧ (F16 27 5).toInt = (F 27 5).toInt) ∨ ((((0 ≤ jt.toInt ∧ jt.toInt < (F 27 2).toInt) ∧ ((0 ≤ jk.toInt ∧ jk.toInt ≤ 1) ∧ (1 ≤ jd.toInt ∧ jd.toInt ≤ 5000) ∧ (0 ≤ jn.toInt ∧ jn.toInt ≤ 1000)) ∧ 100 ≤ (F 27 3).toInt ∧ v17.toInt = -4) ∨ ((0 ≤ jt.toInt ∧ jt.toInt < (F 27 2).toInt) ∧ ¬ ((0 ≤ jk.toInt ∧ jk.toInt ≤ 1) ∧ (1 ≤ jd.toInt ∧ jd.toInt ≤ 5000) ∧ (0 ≤ jn.toInt ∧ jn.toInt ≤ 1000)) ∧ v17.toInt = -2) ∨ (¬ (0 ≤ jt.toInt ∧ jt.toInt < (F 27 2).toInt) ∧ v17.toInt = -1)) ∧ (F16 27 2).toInt = (F 27 2).toInt ∧ (F16 27 3).toInt = (F 27 3).toInt ∧ (F16 27 4).toInt = (F 27 4).toInt ∧ (F16 27 5).toInt = (F 27 5).toInt) by omega)⟩, ⟨by rw [ht]; exact hP, hD⟩⟩, hS.F ht⟩) hS.2.2 d_m_limit_119
          · have ic10 := rl_ieq c10
            simp only [rl_n100] at ic10
            refine lv_bipush (v := (-4)) hx hb d_m_limit_59 (by decide) ?_
            exact W.iret (v := (-4)) hx hb hr (fun t ht hW => ⟨⟨(-4), F1, rfl, ⟨hRF1, (show ((0 ≤ jt.toInt ∧ jt.toInt < (F 27 2).toInt) ∧ ((0 ≤ jk.toInt ∧ jk.toInt ≤ 1) ∧ (1 ≤ jd.toInt ∧ jd.toInt ≤ 5000) ∧ (0 ≤ jn.toInt ∧ jn.toInt ≤ 1000)) ∧ (F 27 3).toInt < 100 ∧ ((-4) : Int32).toInt = (F 27 3).toInt ∧ (F1 27 3).toInt = (F 27 3).toInt + 1 ∧ (F1 27 2).toInt = (F 27 2).toInt ∧ (F1 27 4).toInt = (F 27 4).toInt ∧ (F1 27 5).toInt = (F 27 5).toInt) ∨ ((((0 ≤ jt.toInt ∧ jt.toInt < (F 27 2).toInt) ∧ ((0 ≤ jk.toInt ∧ jk.toInt ≤ 1) ∧ (1 ≤ jd.toInt ∧ jd.toInt ≤ 5000) ∧ (0 ≤ jn.toInt ∧ jn.toInt ≤ 1000)) ∧ 100 ≤ (F 27 3).toInt ∧ ((-4) : Int32).toInt = -4) ∨ ((0 ≤ jt.toInt ∧ jt.toInt < (F 27 2).toInt) ∧ ¬ ((0 ≤ jk.toInt ∧ jk.toInt ≤ 1) ∧ (1 ≤ jd.toInt ∧ jd.toInt ≤ 5000) ∧ (0 ≤ jn.toInt ∧ jn.toInt ≤ 1000)) ∧ ((-4) : Int32).toInt = -2) ∨ (¬ (0 ≤ jt.toInt ∧ jt.toInt < (F 27 2).toInt) ∧ ((-4) : Int32).toInt = -1)) ∧ (F1 27 2).toInt = (F 27 2).toInt ∧ (F1 27 3).toInt = (F 27 3).toInt ∧ (F1 27 4).toInt = (F 27 4).toInt ∧ (F1 27 5).toInt = (F 27 5).toInt) by have q9 := rl_nm4; omega)⟩, ⟨by rw [ht]; exact hP, hD⟩⟩, hS.F ht⟩) hS.2.2 d_m_limit_61
        · refine lv_if_ne (tgt := 50) hx hb d_m_limit_44 (by decide) (fun c9 => absurd c9 (by decide)) (fun _ => ?_)
          refine lv_bipush (v := (-2)) hx hb d_m_limit_47 (by decide) ?_
          exact W.iret (v := (-2)) hx hb hr (fun t ht hW => ⟨⟨(-2), F1, rfl, ⟨hRF1, (show ((0 ≤ jt.toInt ∧ jt.toInt < (F 27 2).toInt) ∧ ((0 ≤ jk.toInt ∧ jk.toInt ≤ 1) ∧ (1 ≤ jd.toInt ∧ jd.toInt ≤ 5000) ∧ (0 ≤ jn.toInt ∧ jn.toInt ≤ 1000)) ∧ (F 27 3).toInt < 100 ∧ ((-2) : Int32).toInt = (F 27 3).toInt ∧ (F1 27 3).toInt = (F 27 3).toInt + 1 ∧ (F1 27 2).toInt = (F 27 2).toInt ∧ (F1 27 4).toInt = (F 27 4).toInt ∧ (F1 27 5).toInt = (F 27 5).toInt) ∨ ((((0 ≤ jt.toInt ∧ jt.toInt < (F 27 2).toInt) ∧ ((0 ≤ jk.toInt ∧ jk.toInt ≤ 1) ∧ (1 ≤ jd.toInt ∧ jd.toInt ≤ 5000) ∧ (0 ≤ jn.toInt ∧ jn.toInt ≤ 1000)) ∧ 100 ≤ (F 27 3).toInt ∧ ((-2) : Int32).toInt = -4) ∨ ((0 ≤ jt.toInt ∧ jt.toInt < (F 27 2).toInt) ∧ ¬ ((0 ≤ jk.toInt ∧ jk.toInt ≤ 1) ∧ (1 ≤ jd.toInt ∧ jd.toInt ≤ 5000) ∧ (0 ≤ jn.toInt ∧ jn.toInt ≤ 1000)) ∧ ((-2) : Int32).toInt = -2) ∨ (¬ (0 ≤ jt.toInt ∧ jt.toInt < (F 27 2).toInt) ∧ ((-2) : Int32).toInt = -1)) ∧ (F1 27 2).toInt = (F 27 2).toInt ∧ (F1 27 3).toInt = (F 27 3).toInt ∧ (F1 27 4).toInt = (F 27 4).toInt ∧ (F1 27 5).toInt = (F 27 5).toInt) by have q9 := rl_nm2; omega)⟩, ⟨by rw [ht]; exact hP, hD⟩⟩, hS.F ht⟩) hS.2.2 d_m_limit_49
      · refine lv_if_eq (tgt := 47) hx hb d_m_limit_32 (by decide) (fun _ => ?_) (fun c9 => absurd c9 (by decide))
        refine lv_bipush (v := (-2)) hx hb d_m_limit_47 (by decide) ?_
        exact W.iret (v := (-2)) hx hb hr (fun t ht hW => ⟨⟨(-2), F1, rfl, ⟨hRF1, (show ((0 ≤ jt.toInt ∧ jt.toInt < (F 27 2).toInt) ∧ ((0 ≤ jk.toInt ∧ jk.toInt ≤ 1) ∧ (1 ≤ jd.toInt ∧ jd.toInt ≤ 5000) ∧ (0 ≤ jn.toInt ∧ jn.toInt ≤ 1000)) ∧ (F 27 3).toInt < 100 ∧ ((-2) : Int32).toInt = (F 27 3).toInt ∧ (F1 27 3).toInt = (F 27 3).toInt + 1 ∧ (F1 27 2).toInt = (F 27 2).toInt ∧ (F1 27 4).toInt = (F 27 4).toInt ∧ (F1 27 5).toInt = (F 27 5).toInt) ∨ ((((0 ≤ jt.toInt ∧ jt.toInt < (F 27 2).toInt) ∧ ((0 ≤ jk.toInt ∧ jk.toInt ≤ 1) ∧ (1 ≤ jd.toInt ∧ jd.toInt ≤ 5000) ∧ (0 ≤ jn.toInt ∧ jn.toInt ≤ 1000)) ∧ 100 ≤ (F 27 3).toInt ∧ ((-2) : Int32).toInt = -4) ∨ ((0 ≤ jt.toInt ∧ jt.toInt < (F 27 2).toInt) ∧ ¬ ((0 ≤ jk.toInt ∧ jk.toInt ≤ 1) ∧ (1 ≤ jd.toInt ∧ jd.toInt ≤ 5000) ∧ (0 ≤ jn.toInt ∧ jn.toInt ≤ 1000)) ∧ ((-2) : Int32).toInt = -2) ∨ (¬ (0 ≤ jt.toInt ∧ jt.toInt < (F 27 2).toInt) ∧ ((-2) : Int32).toInt = -1)) ∧ (F1 27 2).toInt = (F 27 2).toInt ∧ (F1 27 3).toInt = (F 27 3).toInt ∧ (F1 27 4).toInt = (F 27 4).toInt ∧ (F1 27 5).toInt = (F 27 5).toInt) by have q9 := rl_nm2; omega)⟩, ⟨by rw [ht]; exact hP, hD⟩⟩, hS.F ht⟩) hS.2.2 d_m_limit_49
    · refine lv_if_eq (tgt := 47) hx hb d_m_limit_21 (by decide) (fun _ => ?_) (fun c9 => absurd c9 (by decide))
      refine lv_bipush (v := (-2)) hx hb d_m_limit_47 (by decide) ?_
      exact W.iret (v := (-2)) hx hb hr (fun t ht hW => ⟨⟨(-2), F1, rfl, ⟨hRF1, (show ((0 ≤ jt.toInt ∧ jt.toInt < (F 27 2).toInt) ∧ ((0 ≤ jk.toInt ∧ jk.toInt ≤ 1) ∧ (1 ≤ jd.toInt ∧ jd.toInt ≤ 5000) ∧ (0 ≤ jn.toInt ∧ jn.toInt ≤ 1000)) ∧ (F 27 3).toInt < 100 ∧ ((-2) : Int32).toInt = (F 27 3).toInt ∧ (F1 27 3).toInt = (F 27 3).toInt + 1 ∧ (F1 27 2).toInt = (F 27 2).toInt ∧ (F1 27 4).toInt = (F 27 4).toInt ∧ (F1 27 5).toInt = (F 27 5).toInt) ∨ ((((0 ≤ jt.toInt ∧ jt.toInt < (F 27 2).toInt) ∧ ((0 ≤ jk.toInt ∧ jk.toInt ≤ 1) ∧ (1 ≤ jd.toInt ∧ jd.toInt ≤ 5000) ∧ (0 ≤ jn.toInt ∧ jn.toInt ≤ 1000)) ∧ 100 ≤ (F 27 3).toInt ∧ ((-2) : Int32).toInt = -4) ∨ ((0 ≤ jt.toInt ∧ jt.toInt < (F 27 2).toInt) ∧ ¬ ((0 ≤ jk.toInt ∧ jk.toInt ≤ 1) ∧ (1 ≤ jd.toInt ∧ jd.toInt ≤ 5000) ∧ (0 ≤ jn.toInt ∧ jn.toInt ≤ 1000)) ∧ ((-2) : Int32).toInt = -2) ∨ (¬ (0 ≤ jt.toInt ∧ jt.toInt < (F 27 2).toInt) ∧ ((-2) : Int32).toInt = -1)) ∧ (F1 27 2).toInt = (F 27 2).toInt ∧ (F1 27 3).toInt = (F 27 3).toInt ∧ (F1 27 4).toInt = (F 27 4).toInt ∧ (F1 27 5).toInt = (F 27 5).toInt) by have q9 := rl_nm2; omega)⟩, ⟨by rw [ht]; exact hP, hD⟩⟩, hS.F ht⟩) hS.2.2 d_m_limit_49
  · refine lv_if_ne (tgt := 15) hx hb d_m_limit_10 (by decide) (fun c9 => absurd c9 (by decide)) (fun _ => ?_)
    refine lv_iconst (v := (-1)) hx hb d_m_limit_13 (by decide) ?_
    exact W.iret (v := (-1)) hx hb hr (fun t ht hW => ⟨⟨(-1), F1, rfl, ⟨hRF1, (show ((0 ≤ jt.toInt ∧ jt.toInt < (F 27 2).toInt) ∧ ((0 ≤ jk.toInt ∧ jk.toInt ≤ 1) ∧ (1 ≤ jd.toInt ∧ jd.toInt ≤ 5000) ∧ (0 ≤ jn.toInt ∧ jn.toInt ≤ 1000)) ∧ (F 27 3).toInt < 100 ∧ ((-1) : Int32).toInt = (F 27 3).toInt ∧ (F1 27 3).toInt = (F 27 3).toInt + 1 ∧ (F1 27 2).toInt = (F 27 2).toInt ∧ (F1 27 4).toInt = (F 27 4).toInt ∧ (F1 27 5).toInt = (F 27 5).toInt) ∨ ((((0 ≤ jt.toInt ∧ jt.toInt < (F 27 2).toInt) ∧ ((0 ≤ jk.toInt ∧ jk.toInt ≤ 1) ∧ (1 ≤ jd.toInt ∧ jd.toInt ≤ 5000) ∧ (0 ≤ jn.toInt ∧ jn.toInt ≤ 1000)) ∧ 100 ≤ (F 27 3).toInt ∧ ((-1) : Int32).toInt = -4) ∨ ((0 ≤ jt.toInt ∧ jt.toInt < (F 27 2).toInt) ∧ ¬ ((0 ≤ jk.toInt ∧ jk.toInt ≤ 1) ∧ (1 ≤ jd.toInt ∧ jd.toInt ≤ 5000) ∧ (0 ≤ jn.toInt ∧ jn.toInt ≤ 1000)) ∧ ((-1) : Int32).toInt = -2) ∨ (¬ (0 ≤ jt.toInt ∧ jt.toInt < (F 27 2).toInt) ∧ ((-1) : Int32).toInt = -1)) ∧ (F1 27 2).toInt = (F 27 2).toInt ∧ (F1 27 3).toInt = (F 27 3).toInt ∧ (F1 27 4).toInt = (F 27 4).toInt ∧ (F1 27 5).toInt = (F 27 5).toInt) by have q9 := rl_nm1; omega)⟩, ⟨by rw [ht]; exact hP, hD⟩⟩, hS.F ht⟩) hS.2.2 d_m_limit_14
set_option maxHeartbeats 4000000 in
set_option maxRecDepth 100000 in
theorem k_m_licence (l : Launch) (D : va_G) (a : Nat → Nat) (kI kZ : ClassId) (F : Nat → Nat → Int32) (jt jk jn ju jv : Int32) (hI : rm_I F) (sz : Nat) : rl_Ci (S := Nat → Nat → Int32) l ⟨"RightsLimitModel", "licence", "(IIIII)I"⟩ (Cond.code ⟨"RightsLimitModel", "licence", "(IIIII)I"⟩ prog_7_method_9_code 6 (some .int) :: rl_G) { frames := 2, cells := 0, slots := 0, locals := 43 } D rl_cl (rl_tys kI kZ) [] [.ref (a 0), .int jt, .int jk, .int jn, .int ju, .int jv] (rm_w a kI kZ F) sz (fun (r : Int32) (F' : Nat → Nat → Int32) => rm_R F' ∧ (((0 ≤ jt.toInt ∧ jt.toInt < (F 27 2).toInt) ∧ ((0 ≤ jk.toInt ∧ jk.toInt ≤ 1) ∧ (0 ≤ jn.toInt ∧ jn.toInt ≤ 1000) ∧ (0 ≤ ju.toInt ∧ ju.toInt ≤ 1000000000) ∧ (0 ≤ jv.toInt ∧ jv.toInt ≤ 1000000000) ∧ ju.toInt ≤ jv.toInt) ∧ (F 27 4).toInt < 50 ∧ r.toInt = (F 27 4).toInt ∧ (F' 27 4).toInt = (F 27 4).toInt + 1 ∧ (F' 27 2).toInt = (F 27 2).toInt ∧ (F' 27 3).toInt = (F 27 3).toInt ∧ (F' 27 5).toInt = (F 27 5).toInt) ∨ ((((0 ≤ jt.toInt ∧ jt.toInt < (F 27 2).toInt) ∧ ((0 ≤ jk.toInt ∧ jk.toInt ≤ 1) ∧ (0 ≤ jn.toInt ∧ jn.toInt ≤ 1000) ∧ (0 ≤ ju.toInt ∧ ju.toInt ≤ 1000000000) ∧ (0 ≤ jv.toInt ∧ jv.toInt ≤ 1000000000) ∧ ju.toInt ≤ jv.toInt) ∧ 50 ≤ (F 27 4).toInt ∧ r.toInt = -4) ∨ ((0 ≤ jt.toInt ∧ jt.toInt < (F 27 2).toInt) ∧ ¬ ((0 ≤ jk.toInt ∧ jk.toInt ≤ 1) ∧ (0 ≤ jn.toInt ∧ jn.toInt ≤ 1000) ∧ (0 ≤ ju.toInt ∧ ju.toInt ≤ 1000000000) ∧ (0 ≤ jv.toInt ∧ jv.toInt ≤ 1000000000) ∧ ju.toInt ≤ jv.toInt) ∧ r.toInt = -2) ∨ (¬ (0 ≤ jt.toInt ∧ jt.toInt < (F 27 2).toInt) ∧ r.toInt = -1)) ∧ (F' 27 2).toInt = (F 27 2).toInt ∧ (F' 27 3).toInt = (F 27 3).toInt ∧ (F' 27 4).toInt = (F 27 4).toInt ∧ (F' 27 5).toInt = (F 27 5).toInt))) (fun F' => rm_w a kI kZ F') 0 0 := by
  refine rl_meti (cc := prog_7_method_9_code) (maxL := 6) (ret := (some .int)) (by decide) rfl (Nat.le_of_ble_eq_true rfl) ?_
  intro p e s m below meth c A ls hx hb hr hml hown hts hlocks hnm hP hK hD hS hA hN hl
  have hown : s.vm.findClass "RightsLimitModel" = some m.cls := hown
  have hG : ∀ x ∈ rl_G, x.before _ s = true := fun x h => hts x (List.mem_cons_of_mem _ h)
  have hl : lv_has ls 6 [(0, .ref (a 0)), (1, .int jt), (2, .int jk), (3, .int jn), (4, .int ju), (5, .int jv)] := hl
  obtain ⟨hcnt, hR⟩ := id hI
  refine lv_aload_n hx hb d_m_licence_0 rfl (lv_at hl 0 rfl) ?_
  refine lv_iconst (v := 0) hx hb d_m_licence_1 (by decide) ?_
  refine va_put (D := D) (ci := 5) (v := .int 0) (ty := .int) (C := "RightsLimitModel") (T := fT_m) (N := 33) hx hb hG fi_m fy_m fo_m fn_m hown hK hP hD hS 0 rfl rfl 0 (by decide) (hG _ wd_483) (fun _ h9 => h9) rfl (by decide +kernel) rfl rfl (Nat.le_of_ble_eq_true rfl) d_m_licence_2 (fun H locs hP hD hS => ?_)
  obtain ⟨F1, eF1⟩ : ∃ G, G = rl_st F 27 0 0 := ⟨_, rfl⟩
  have hP : va_P D rl_cl (rm_w a kI kZ F1) H := by rw [eF1]; exact hP
  have hD : va_D A (rm_w a kI kZ F1) := by rw [eF1]; exact hD
  obtain ⟨tF1, hRF1⟩ := rm_putS eF1 (by decide) (by decide) (by decide) (by decide) hR
  refine lv_aload_n hx hb d_m_licence_5 rfl (lv_at hl 0 rfl) ?_
  refine lv_iload_n hx hb d_m_licence_6 rfl (lv_at hl 1 rfl) ?_
  have hpre := rl_BR.pre (av := .ref (a 0) :: [.int jt]) rl_nw0 hP hK hN
  refine rl_callr hS (va_runV (As := [.int jt]) (rest := []) ⟨hx, hb, hml, hown, hG⟩ (k_m_isTitle l D a kI kZ F1 jt ⟨by omega, hRF1⟩ _) (cwV 1 hG (rl_gV wd_594 wd_596 wd_6 wd_19 wd_597) rfl rfl rfl (by decide +kernel) ⟨Nat.le_of_ble_eq_true rfl, Nat.le_of_ble_eq_true rfl⟩) ⟨hpre.1, (va_recv hK hP (ci := 5) (q0 := 0) rfl rfl), hpre.2⟩ rfl rfl hl.1 rfl (lv_room (Nat.le_of_ble_eq_true rfl)) d_m_licence_7 ⟨Nat.le_of_ble_eq_true rfl, Nat.le_of_ble_eq_true rfl⟩) (fun r2 locs hw hS => ?_)
  rcases hw with ⟨rfl, h3⟩ | ⟨rfl, h3⟩
  · refine lv_if_ne (tgt := 15) hx hb d_m_licence_10 (by decide) (fun _ => ?_) (fun c9 => absurd c9 (by decide))
    refine lv_iload_n hx hb d_m_licence_15 rfl (lv_at hl 2 rfl) ?_
    refine lv_iconst (v := 0) hx hb d_m_licence_16 (by decide) ?_
    refine lv_iconst (v := 1) hx hb d_m_licence_17 (by decide) ?_
    refine rl_callr hS (va_runS (As := [.int jk, .int 0, .int 1]) (rest := []) ⟨hx, hb, hml, hown, hG⟩ (k_m_in l D a kI kZ jk 0 1 _) (cwS 3 hG (rl_gS wd_587 wd_588 wd_19 wd_589) rfl rfl rfl (by decide +kernel) ⟨Nat.le_of_ble_eq_true rfl, Nat.le_of_ble_eq_true rfl⟩) (rl_BR.pre rl_nw0 rl_P0 hK hN) rfl rfl hl.1 rfl (lv_room (Nat.le_of_ble_eq_true rfl)) d_m_licence_18 ⟨Nat.le_of_ble_eq_true rfl, Nat.le_of_ble_eq_true rfl⟩) (fun r4 locs hw hS => ?_)
    try simp only [rl_n0, rl_n1] at hw
    rcases hw with ⟨rfl, h5⟩ | ⟨rfl, h5⟩
    · refine lv_if_eq (tgt := 58) hx hb d_m_licence_21 (by decide) (fun c9 => absurd c9 (by decide)) (fun _ => ?_)
      refine lv_iload_n hx hb d_m_licence_24 rfl (lv_at hl 3 rfl) ?_
      refine lv_iconst (v := 0) hx hb d_m_licence_25 (by decide) ?_
      refine lv_sipush (v := 1000) hx hb d_m_licence_26 (by decide) ?_
      refine rl_callr hS (va_runS (As := [.int jn, .int 0, .int 1000]) (rest := []) ⟨hx, hb, hml, hown, hG⟩ (k_m_in l D a kI kZ jn 0 1000 _) (cwS 3 hG (rl_gS wd_587 wd_588 wd_19 wd_589) rfl rfl rfl (by decide +kernel) ⟨Nat.le_of_ble_eq_true rfl, Nat.le_of_ble_eq_true rfl⟩) (rl_BR.pre rl_nw0 rl_P0 hK hN) rfl rfl hl.1 rfl (lv_room (Nat.le_of_ble_eq_true rfl)) d_m_licence_29 ⟨Nat.le_of_ble_eq_true rfl, Nat.le_of_ble_eq_true rfl⟩) (fun r6 locs hw hS => ?_)
      try simp only [rl_n0, rl_n1000] at hw
      rcases hw with ⟨rfl, h7⟩ | ⟨rfl, h7⟩
      · refine lv_if_eq (tgt := 58) hx hb d_m_licence_32 (by decide) (fun c9 => absurd c9 (by decide)) (fun _ => ?_)
        refine lv_iload hx hb d_m_licence_35 (lv_at hl 4 rfl) ?_
        refine lv_iconst (v := 0) hx hb d_m_licence_37 (by decide) ?_
        refine lv_ldc (v := 1000000000) hx hb hown (hG _ wd_606) d_m_licence_38 ?_
        refine rl_callr hS (va_runS (As := [.int ju, .int 0, .int 1000000000]) (rest := []) ⟨hx, hb, hml, hown, hG⟩ (k_m_in l D a kI kZ ju 0 1000000000 _) (cwS 3 hG (rl_gS wd_587 wd_588 wd_19 wd_589) rfl rfl rfl (by decide +kernel) ⟨Nat.le_of_ble_eq_true rfl, Nat.le_of_ble_eq_true rfl⟩) (rl_BR.pre rl_nw0 rl_P0 hK hN) rfl rfl hl.1 rfl (lv_room (Nat.le_of_ble_eq_true rfl)) d_m_licence_40 ⟨Nat.le_of_ble_eq_true rfl, Nat.le_of_ble_eq_true rfl⟩) (fun r8 locs hw hS => ?_)
        try simp only [rl_n0, rl_n1000000000] at hw
        rcases hw with ⟨rfl, h9⟩ | ⟨rfl, h9⟩
        · refine lv_if_eq (tgt := 58) hx hb d_m_licence_43 (by decide) (fun c9 => absurd c9 (by decide)) (fun _ => ?_)
          refine lv_iload hx hb d_m_licence_46 (lv_at hl 5 rfl) ?_
          refine lv_iload hx hb d_m_licence_48 (lv_at hl 4 rfl) ?_
          refine lv_ldc (v := 1000000000) hx hb hown (hG _ wd_606) d_m_licence_50 ?_
          refine rl_callr hS (va_runS (As := [.int jv, .int ju, .int 1000000000]) (rest := []) ⟨hx, hb, hml, hown, hG⟩ (k_m_in l D a kI kZ jv ju 1000000000 _) (cwS 3 hG (rl_gS wd_587 wd_588 wd_19 wd_589) rfl rfl rfl (by decide +kernel) ⟨Nat.le_of_ble_eq_true rfl, Nat.le_of_ble_eq_true rfl⟩) (rl_BR.pre rl_nw0 rl_P0 hK hN) rfl rfl hl.1 rfl (lv_room (Nat.le_of_ble_eq_true rfl)) d_m_licence_52 ⟨Nat.le_of_ble_eq_true rfl, Nat.le_of_ble_eq_true rfl⟩) (fun r10 locs hw hS => ?_)
          try simp only [rl_n1000000000] at hw
          rcases hw with ⟨rfl, h11⟩ | ⟨rfl, h11⟩
          · refine lv_if_ne (tgt := 61) hx hb d_m_licence_55 (by decide) (fun _ => ?_) (fun c9 => absurd c9 (by decide))
            refine lv_aload_n hx hb d_m_licence_61 rfl (lv_at hl 0 rfl) ?_
            refine va_get (D := D) (ci := 5) (v := .int (F1 27 4)) (C := "RightsLimitModel") (T := fT_m) (N := 33) hx hb hG fi_m hown hK hP 0 rfl rfl 14 (by decide) (hG _ wd_497) (fun _ h9 => h9) rfl d_m_licence_62 ?_
            refine lv_bipush (v := 50) hx hb d_m_licence_65 (by decide) ?_
            refine lv_icmp_ne (tgt := 73) hx hb d_m_licence_67 (by decide) (fun c12 => ?_) (fun c12 => ?_)
            · have ic12 := rl_ine c12
              simp only [rl_n50] at ic12
              refine lv_aload_n hx hb d_m_licence_73 rfl (lv_at hl 0 rfl) ?_
              refine va_get (D := D) (ci := 5) (v := .ref (a 11)) (C := "RightsLimitModel") (T := fT_m) (N := 33) hx hb hG fi_m hown hK hP 0 rfl rfl 15 (by decide) (hG _ wd_498) (fun _ h9 => h9) rfl d_m_licence_74 ?_
              refine lv_aload_n hx hb d_m_licence_77 rfl (lv_at hl 0 rfl) ?_
              refine va_get (D := D) (ci := 5) (v := .int (F1 27 4)) (C := "RightsLimitModel") (T := fT_m) (N := 33) hx hb hG fi_m hown hK hP 0 rfl rfl 14 (by decide) (hG _ wd_497) (fun _ h9 => h9) rfl d_m_licence_78 ?_
              refine lv_iload_n hx hb d_m_licence_81 rfl (lv_at hl 1 rfl) ?_
              refine va_iast hx hb hK hP hD hS 11 0 rfl rfl (rl_in (n := 50) (by omega) (by omega)) d_m_licence_82 (fun H locs hP hD hS => ?_)
              obtain ⟨F13, eF13⟩ : ∃ G, G = rl_st F1 10 ((F1 27 4).toNatClampNeg) jt := ⟨_, rfl⟩
              have hP : va_P D rl_cl (rm_w a kI kZ F13) H := by rw [eF13]; exact hP
              have hD : va_D A (rm_w a kI kZ F13) := by rw [eF13]; exact hD
              obtain ⟨tF13, hRF13⟩ := rm_keep eF13 (by decide) (by decide) (by decide) hRF1
              refine lv_aload_n hx hb d_m_licence_83 rfl (lv_at hl 0 rfl) ?_
              refine va_get (D := D) (ci := 5) (v := .ref (a 12)) (C := "RightsLimitModel") (T := fT_m) (N := 33) hx hb hG fi_m hown hK hP 0 rfl rfl 16 (by decide) (hG _ wd_499) (fun _ h9 => h9) rfl d_m_licence_84 ?_
              refine lv_aload_n hx hb d_m_licence_87 rfl (lv_at hl 0 rfl) ?_
              refine va_get (D := D) (ci := 5) (v := .int (F13 27 4)) (C := "RightsLimitModel") (T := fT_m) (N := 33) hx hb hG fi_m hown hK hP 0 rfl rfl 14 (by decide) (hG _ wd_497) (fun _ h9 => h9) rfl d_m_licence_88 ?_
              refine lv_iload_n hx hb d_m_licence_91 rfl (lv_at hl 2 rfl) ?_
              refine va_iast hx hb hK hP hD hS 12 0 rfl rfl (rl_in (n := 50) (by omega) (by omega)) d_m_licence_92 (fun H locs hP hD hS => ?_)
              obtain ⟨F14, eF14⟩ : ∃ G, G = rl_st F13 11 ((F13 27 4).toNatClampNeg) jk := ⟨_, rfl⟩
              have hP : va_P D rl_cl (rm_w a kI kZ F14) H := by rw [eF14]; exact hP
              have hD : va_D A (rm_w a kI kZ F14) := by rw [eF14]; exact hD
              obtain ⟨tF14, hRF14⟩ := rm_keep eF14 (by decide) (by decide) (by decide) hRF13
              refine lv_aload_n hx hb d_m_licence_93 rfl (lv_at hl 0 rfl) ?_
              refine va_get (D := D) (ci := 5) (v := .ref (a 13)) (C := "RightsLimitModel") (T := fT_m) (N := 33) hx hb hG fi_m hown hK hP 0 rfl rfl 17 (by decide) (hG _ wd_500) (fun _ h9 => h9) rfl d_m_licence_94 ?_
              refine lv_aload_n hx hb d_m_licence_97 rfl (lv_at hl 0 rfl) ?_
              refine va_get (D := D) (ci := 5) (v := .int (F14 27 4)) (C := "RightsLimitModel") (T := fT_m) (N := 33) hx hb hG fi_m hown hK hP 0 rfl rfl 14 (by decide) (hG _ wd_497) (fun _ h9 => h9) rfl d_m_licence_98 ?_
              refine lv_iload_n hx hb d_m_licence_101 rfl (lv_at hl 3 rfl) ?_
              refine va_iast hx hb hK hP hD hS 13 0 rfl rfl (rl_in (n := 50) (by omega) (by omega)) d_m_licence_102 (fun H locs hP hD hS => ?_)
              obtain ⟨F15, eF15⟩ : ∃ G, G = rl_st F14 12 ((F14 27 4).toNatClampNeg) jn := ⟨_, rfl⟩
              have hP : va_P D rl_cl (rm_w a kI kZ F15) H := by rw [eF15]; exact hP
              have hD : va_D A (rm_w a kI kZ F15) := by rw [eF15]; exact hD
              obtain ⟨tF15, hRF15⟩ := rm_keep eF15 (by decide) (by decide) (by decide) hRF14
              refine lv_aload_n hx hb d_m_licence_103 rfl (lv_at hl 0 rfl) ?_
              refine va_get (D := D) (ci := 5) (v := .ref (a 14)) (C := "RightsLimitModel") (T := fT_m) (N := 33) hx hb hG fi_m hown hK hP 0 rfl rfl 18 (by decide) (hG _ wd_501) (fun _ h9 => h9) rfl d_m_licence_104 ?_
              refine lv_aload_n hx hb d_m_licence_107 rfl (lv_at hl 0 rfl) ?_
              refine va_get (D := D) (ci := 5) (v := .int (F15 27 4)) (C := "RightsLimitModel") (T := fT_m) (N := 33) hx hb hG fi_m hown hK hP 0 rfl rfl 14 (by decide) (hG _ wd_497) (fun _ h9 => h9) rfl d_m_licence_108 ?_
              refine lv_iload hx hb d_m_licence_111 (lv_at hl 4 rfl) ?_
              refine va_iast hx hb hK hP hD hS 14 0 rfl rfl (rl_in (n := 50) (by omega) (by omega)) d_m_licence_113 (fun H locs hP hD hS => ?_)
              obtain ⟨F16, eF16⟩ : ∃ G, G = rl_st F15 13 ((F15 27 4).toNatClampNeg) ju := ⟨_, rfl⟩
              have hP : va_P D rl_cl (rm_w a kI kZ F16) H := by rw [eF16]; exact hP
              have hD : va_D A (rm_w a kI kZ F16) := by rw [eF16]; exact hD
              obtain ⟨tF16, hRF16⟩ := rm_keep eF16 (by decide) (by decide) (by decide) hRF15
              refine lv_aload_n hx hb d_m_licence_114 rfl (lv_at hl 0 rfl) ?_
              refine va_get (D := D) (ci := 5) (v := .ref (a 15)) (C := "RightsLimitModel") (T := fT_m) (N := 33) hx hb hG fi_m hown hK hP 0 rfl rfl 19 (by decide) (hG _ wd_502) (fun _ h9 => h9) rfl d_m_licence_115 ?_
              refine lv_aload_n hx hb d_m_licence_118 rfl (lv_at hl 0 rfl) ?_
              refine va_get (D := D) (ci := 5) (v := .int (F16 27 4)) (C := "RightsLimitModel") (T := fT_m) (N := 33) hx hb hG fi_m hown hK hP 0 rfl rfl 14 (by decide) (hG _ wd_497) (fun _ h9 => h9) rfl d_m_licence_119 ?_
              refine lv_iload hx hb d_m_licence_122 (lv_at hl 5 rfl) ?_
              refine va_iast hx hb hK hP hD hS 15 0 rfl rfl (rl_in (n := 50) (by omega) (by omega)) d_m_licence_124 (fun H locs hP hD hS => ?_)
              obtain ⟨F17, eF17⟩ : ∃ G, G = rl_st F16 14 ((F16 27 4).toNatClampNeg) jv := ⟨_, rfl⟩
              have hP : va_P D rl_cl (rm_w a kI kZ F17) H := by rw [eF17]; exact hP
              have hD : va_D A (rm_w a kI kZ F17) := by rw [eF17]; exact hD
              obtain ⟨tF17, hRF17⟩ := rm_keep eF17 (by decide) (by decide) (by decide) hRF16
              refine lv_aload_n hx hb d_m_licence_125 rfl (lv_at hl 0 rfl) ?_
              refine lv_dup hx hb d_m_licence_126 rfl ?_
              refine va_get (D := D) (ci := 5) (v := .int (F17 27 4)) (C := "RightsLimitModel") (T := fT_m) (N := 33) hx hb hG fi_m hown hK hP 0 rfl rfl 14 (by decide) (hG _ wd_497) (fun _ h9 => h9) rfl d_m_licence_127 ?_
              refine lv_iconst (v := 1) hx hb d_m_licence_130 (by decide) ?_
              refine lv_iadd hx hb d_m_licence_131 ?_
              refine lv_topi (fun v18 ev18 => ?_)
              have iv18 : v18.toInt = (F17 27 4).toInt + 1 := by rw [ev18]; exact rl_addk (by decide) (by omega) (by omega)
              refine va_put (D := D) (ci := 5) (v := .int v18) (ty := .int) (C := "RightsLimitModel") (T := fT_m) (N := 33) hx hb hG fi_m fy_m fo_m fn_m hown hK hP hD hS 0 rfl rfl 14 (by decide) (hG _ wd_497) (fun _ h9 => h9) rfl (by decide +kernel) rfl rfl (Nat.le_of_ble_eq_true rfl) d_m_licence_132 (fun H locs hP hD hS => ?_)
              obtain ⟨F19, eF19⟩ : ∃ G, G = rl_st F17 27 4 v18 := ⟨_, rfl⟩
              have hP : va_P D rl_cl (rm_w a kI kZ F19) H := by rw [eF19]; exact hP
              have hD : va_D A (rm_w a kI kZ F19) := by rw [eF19]; exact hD
              obtain ⟨tF19, hRF19⟩ := rm_put4 eF19 hRF17
              refine lv_aload_n hx hb d_m_licence_135 rfl (lv_at hl 0 rfl) ?_
              refine va_get (D := D) (ci := 5) (v := .int (F19 27 4)) (C := "RightsLimitModel") (T := fT_m) (N := 33) hx hb hG fi_m hown hK hP 0 rfl rfl 14 (by decide) (hG _ wd_497) (fun _ h9 => h9) rfl d_m_licence_136 ?_
              refine lv_iconst (v := 1) hx hb d_m_licence_139 (by decide) ?_
              refine lv_isub hx hb d_m_licence_140 ?_
              refine lv_topi (fun v20 ev20 => ?_)
              have iv20 : v20.toInt = (F19 27 4).toInt - 1 := by rw [ev20]; exact rl_subk (by decide) (by omega) (by omega)
              exact W.iret (v := v20) hx hb hr (fun t ht hW => ⟨⟨v20, F19, rfl, ⟨hRF19, (show ((0 ≤ jt.toInt ∧ jt.toInt < (F 27 2).toInt) ∧ ((0 ≤ jk.toInt ∧ jk.toInt ≤ 1) ∧ (0 ≤ jn.toInt ∧ jn.toInt ≤ 1000) ∧ (0 ≤ ju.toInt ∧ ju.toInt ≤ 1000000000) ∧ (0 ≤ jv.toInt ∧ jv.toInt ≤ 1000000000) ∧ ju.toInt ≤ jv.toInt) ∧ (F 27 4).toInt < 50 ∧ v20.toInt = (F 27 4).toInt ∧ (F19 27 4).toInt = (F 27 4).toInt + 1 ∧ (F19 27 2).toInt = (F 27 2).toInt ∧ (F19 27 3).toInt = (F 27 3).toInt ∧ (F19 27 5).toInt = (F 27 5).toInt) ∨ ((((0 ≤ jt.toInt ∧ jt.toInt < (F 27 2).toInt) ∧ ((0 ≤ jk.toInt ∧ jk.toInt ≤ 1) ∧ (0 ≤ jn.toInt ∧ jn.toInt ≤ 1000) ∧ (0 ≤ ju.toInt ∧ ju.toInt ≤ 1000000000) ∧ (0 ≤ jv.toInt ∧ jv.toInt ≤ 1000000000) ∧ ju.toInt ≤ jv.toInt) ∧ 50 ≤ (F 27 4).toInt ∧ v20.toInt = -4) ∨ ((0 ≤ jt.toInt ∧ jt.toInt < (F 27 2).toInt) ∧ ¬ ((0 ≤ jk.toInt ∧ jk.toInt ≤ 1) ∧ (0 ≤ jn.toInt ∧ jn.toInt ≤ 1000) ∧ (0 ≤ ju.toInt ∧ ju.toInt ≤ 1000000000) ∧ (0 ≤ jv.toInt ∧ jv.toInt ≤ 1000000000) ∧ ju.toInt ≤ jv.toInt) ∧ v20.toInt = -2) ∨ (¬ (0 ≤ jt.toInt ∧ jt.toInt < (F 27 2).toInt) ∧ v20.toInt = -1)) ∧ (F19 27 2).toInt = (F 27 2).toInt ∧ (F19 27 3).toInt = (F 27 3).toInt ∧ (F19 27 4).toInt = (F 27 4).toInt ∧ (F19 27 5).toInt = (F 27 5).toInt) by omega)⟩, ⟨by rw [ht]; exact hP, hD⟩⟩, hS.F ht⟩) hS.2.2 d_m_licence_141
            · have ic12 := rl_ieq c12
              simp only [rl_n50] at ic12
              refine lv_bipush (v := (-4)) hx hb d_m_licence_70 (by decide) ?_
              exact W.iret (v := (-4)) hx hb hr (fun t ht hW => ⟨⟨(-4), F1, rfl, ⟨hRF1, (show ((0 ≤ jt.toInt ∧ jt.toInt < (F 27 2).toInt) ∧ ((0 ≤ jk.toInt ∧ jk.toInt ≤ 1) ∧ (0 ≤ jn.toInt ∧ jn.toInt ≤ 1000) ∧ (0 ≤ ju.toInt ∧ ju.toInt ≤ 1000000000) ∧ (0 ≤ jv.toInt ∧ jv.toInt ≤ 1000000000) ∧ ju.toInt ≤ jv.toInt) ∧ (F 27 4).toInt < 50 ∧ ((-4) : Int32).toInt = (F 27 4).toInt ∧ (F1 27 4).toInt = (F 27 4).toInt + 1 ∧ (F1 27 2).toInt = (F 27 2).toInt ∧ (F1 27 3).toInt = (F 27 3).toInt ∧ (F1 27 5).toInt = (F 27 5).toInt) ∨ ((((0 ≤ jt.toInt ∧ jt.toInt < (F 27 2).toInt) ∧ ((0 ≤ jk.toInt ∧ jk.toInt ≤ 1) ∧ (0 ≤ jn.toInt ∧ jn.toInt ≤ 1000) ∧ (0 ≤ ju.toInt ∧ ju.toInt ≤ 1000000000) ∧ (0 ≤ jv.toInt ∧ jv.toInt ≤ 1000000000) ∧ ju.toInt ≤ jv.toInt) ∧ 50 ≤ (F 27 4).toInt ∧ ((-4) : Int32).toInt = -4) ∨ ((0 ≤ jt.toInt ∧ jt.toInt < (F 27 2).toInt) ∧ ¬ ((0 ≤ jk.toInt ∧ jk.toInt ≤ 1) ∧ (0 ≤ jn.toInt ∧ jn.toInt ≤ 1000) ∧ (0 ≤ ju.toInt ∧ ju.toInt ≤ 1000000000) ∧ (0 ≤ jv.toInt ∧ jv.toInt ≤ 1000000000) ∧ ju.toInt ≤ jv.toInt) ∧ ((-4) : Int32).toInt = -2) ∨ (¬ (0 ≤ jt.toInt ∧ jt.toInt < (F 27 2).toInt) ∧ ((-4) : Int32).toInt = -1)) ∧ (F1 27 2).toInt = (F 27 2).toInt ∧ (F1 27 3).toInt = (F 27 3).toInt ∧ (F1 27 4).toInt = (F 27 4).toInt ∧ (F1 27 5).toInt = (F 27 5).toInt) by have q9 := rl_nm4; omega)⟩, ⟨by rw [ht]; exact hP, hD⟩⟩, hS.F ht⟩) hS.2.2 d_m_licence_72
          · refine lv_if_ne (tgt := 61) hx hb d_m_licence_55 (by decide) (fun c9 => absurd c9 (by decide)) (fun _ => ?_)
            refine lv_bipush (v := (-2)) hx hb d_m_licence_58 (by decide) ?_
            exact W.iret (v := (-2)) hx hb hr (fun t ht hW => ⟨⟨(-2), F1, rfl, ⟨hRF1, (show ((0 ≤ jt.toInt ∧ jt.toInt < (F 27 2).toInt) ∧ ((0 ≤ jk.toInt ∧ jk.toInt ≤ 1) ∧ (0 ≤ jn.toInt ∧ jn.toInt ≤ 1000) ∧ (0 ≤ ju.toInt ∧ ju.toInt ≤ 1000000000) ∧ (0 ≤ jv.toInt ∧ jv.toInt ≤ 1000000000) ∧ ju.toInt ≤ jv.toInt) ∧ (F 27 4).toInt < 50 ∧ ((-2) : Int32).toInt = (F 27 4).toInt ∧ (F1 27 4).toInt = (F 27 4).toInt + 1 ∧ (F1 27 2).toInt = (F 27 2).toInt ∧ (F1 27 3).toInt = (F 27 3).toInt ∧ (F1 27 5).toInt = (F 27 5).toInt) ∨ ((((0 ≤ jt.toInt ∧ jt.toInt < (F 27 2).toInt) ∧ ((0 ≤ jk.toInt ∧ jk.toInt ≤ 1) ∧ (0 ≤ jn.toInt ∧ jn.toInt ≤ 1000) ∧ (0 ≤ ju.toInt ∧ ju.toInt ≤ 1000000000) ∧ (0 ≤ jv.toInt ∧ jv.toInt ≤ 1000000000) ∧ ju.toInt ≤ jv.toInt) ∧ 50 ≤ (F 27 4).toInt ∧ ((-2) : Int32).toInt = -4) ∨ ((0 ≤ jt.toInt ∧ jt.toInt < (F 27 2).toInt) ∧ ¬ ((0 ≤ jk.toInt ∧ jk.toInt ≤ 1) ∧ (0 ≤ jn.toInt ∧ jn.toInt ≤ 1000) ∧ (0 ≤ ju.toInt ∧ ju.toInt ≤ 1000000000) ∧ (0 ≤ jv.toInt ∧ jv.toInt ≤ 1000000000) ∧ ju.toInt ≤ jv.toInt) ∧ ((-2) : Int32).toInt = -2) ∨ (¬ (0 ≤ jt.toInt ∧ jt.toInt < (F 27 2).toInt) ∧ ((-2) : Int32).toInt = -1)) ∧ (F1 27 2).toInt = (F 27 2).toInt ∧ (F1 27 3).toInt = (F 27 3).toInt ∧ (F1 27 4).toInt = (F 27 4).toInt ∧ (F1 27 5).toInt = (F 27 5).toInt) by have q9 := rl_nm2; omega)⟩, ⟨by rw [ht]; exact hP, hD⟩⟩, hS.F ht⟩) hS.2.2 d_m_licence_60
        · refine lv_if_eq (tgt := 58) hx hb d_m_licence_43 (by decide) (fun _ => ?_) (fun c9 => absurd c9 (by decide))
          refine lv_bipush (v := (-2)) hx hb d_m_licence_58 (by decide) ?_
          exact W.iret (v := (-2)) hx hb hr (fun t ht hW => ⟨⟨(-2), F1, rfl, ⟨hRF1, (show ((0 ≤ jt.toInt ∧ jt.toInt < (F 27 2).toInt) ∧ ((0 ≤ jk.toInt ∧ jk.toInt ≤ 1) ∧ (0 ≤ jn.toInt ∧ jn.toInt ≤ 1000) ∧ (0 ≤ ju.toInt ∧ ju.toInt ≤ 1000000000) ∧ (0 ≤ jv.toInt ∧ jv.toInt ≤ 1000000000) ∧ ju.toInt ≤ jv.toInt) ∧ (F 27 4).toInt < 50 ∧ ((-2) : Int32).toInt = (F 27 4).toInt ∧ (F1 27 4).toInt = (F 27 4).toInt + 1 ∧ (F1 27 2).toInt = (F 27 2).toInt ∧ (F1 27 3).toInt = (F 27 3).toInt ∧ (F1 27 5).toInt = (F 27 5).toInt) ∨ ((((0 ≤ jt.toInt ∧ jt.toInt < (F 27 2).toInt) ∧ ((0 ≤ jk.toInt ∧ jk.toInt ≤ 1) ∧ (0 ≤ jn.toInt ∧ jn.toInt ≤ 1000) ∧ (0 ≤ ju.toInt ∧ ju.toInt ≤ 1000000000) ∧ (0 ≤ jv.toInt ∧ jv.toInt ≤ 1000000000) ∧ ju.toInt ≤ jv.toInt) ∧ 50 ≤ (F 27 4).toInt ∧ ((-2) : Int32).toInt = -4) ∨ ((0 ≤ jt.toInt ∧ jt.toInt < (F 27 2).toInt) ∧ ¬ ((0 ≤ jk.toInt ∧ jk.toInt ≤ 1) ∧ (0 ≤ jn.toInt ∧ jn.toInt ≤ 1000) ∧ (0 ≤ ju.toInt ∧ ju.toInt ≤ 1000000000) ∧ (0 ≤ jv.toInt ∧ jv.toInt ≤ 1000000000) ∧ ju.toInt ≤ jv.toInt) ∧ ((-2) : Int32).toInt = -2) ∨ (¬ (0 ≤ jt.toInt ∧ jt.toInt < (F 27 2).toInt) ∧ ((-2) : Int32).toInt = -1)) ∧ (F1 27 2).toInt = (F 27 2).toInt ∧ (F1 27 3).toInt = (F 27 3).toInt ∧ (F1 27 4).toInt = (F 27 4).toInt ∧ (F1 27 5).toInt = (F 27 5).toInt) by have q9 := rl_nm2; omega)⟩, ⟨by rw [ht]; exact hP, hD⟩⟩, hS.F ht⟩) hS.2.2 d_m_licence_60
      · refine lv_if_eq (tgt := 58) hx hb d_m_licence_32 (by decide) (fun _ => ?_) (fun c9 => absurd c9 (by decide))
        refine lv_bipush (v := (-2)) hx hb d_m_licence_58 (by decide) ?_
        exact W.iret (v := (-2)) hx hb hr (fun t ht hW => ⟨⟨(-2), F1, rfl, ⟨hRF1, (show ((0 ≤ jt.toInt ∧ jt.toInt < (F 27 2).toInt) ∧ ((0 ≤ jk.toInt ∧ jk.toInt ≤ 1) ∧ (0 ≤ jn.toInt ∧ jn.toInt ≤ 1000) ∧ (0 ≤ ju.toInt ∧ ju.toInt ≤ 1000000000) ∧ (0 ≤ jv.toInt ∧ jv.toInt ≤ 1000000000) ∧ ju.toInt ≤ jv.toInt) ∧ (F 27 4).toInt < 50 ∧ ((-2) : Int32).toInt = (F 27 4).toInt ∧ (F1 27 4).toInt = (F 27 4).toInt + 1 ∧ (F1 27 2).toInt = (F 27 2).toInt ∧ (F1 27 3).toInt = (F 27 3).toInt ∧ (F1 27 5).toInt = (F 27 5).toInt) ∨ ((((0 ≤ jt.toInt ∧ jt.toInt < (F 27 2).toInt) ∧ ((0 ≤ jk.toInt ∧ jk.toInt ≤ 1) ∧ (0 ≤ jn.toInt ∧ jn.toInt ≤ 1000) ∧ (0 ≤ ju.toInt ∧ ju.toInt ≤ 1000000000) ∧ (0 ≤ jv.toInt ∧ jv.toInt ≤ 1000000000) ∧ ju.toInt ≤ jv.toInt) ∧ 50 ≤ (F 27 4).toInt ∧ ((-2) : Int32).toInt = -4) ∨ ((0 ≤ jt.toInt ∧ jt.toInt < (F 27 2).toInt) ∧ ¬ ((0 ≤ jk.toInt ∧ jk.toInt ≤ 1) ∧ (0 ≤ jn.toInt ∧ jn.toInt ≤ 1000) ∧ (0 ≤ ju.toInt ∧ ju.toInt ≤ 1000000000) ∧ (0 ≤ jv.toInt ∧ jv.toInt ≤ 1000000000) ∧ ju.toInt ≤ jv.toInt) ∧ ((-2) : Int32).toInt = -2) ∨ (¬ (0 ≤ jt.toInt ∧ jt.toInt < (F 27 2).toInt) ∧ ((-2) : Int32).toInt = -1)) ∧ (F1 27 2).toInt = (F 27 2).toInt ∧ (F1 27 3).toInt = (F 27 3).toInt ∧ (F1 27 4).toInt = (F 27 4).toInt ∧ (F1 27 5).toInt = (F 27 5).toInt) by have q9 := rl_nm2; omega)⟩, ⟨by rw [ht]; exact hP, hD⟩⟩, hS.F ht⟩) hS.2.2 d_m_licence_60
    · refine lv_if_eq (tgt := 58) hx hb d_m_licence_21 (by decide) (fun _ => ?_) (fun c9 => absurd c9 (by decide))
      refine lv_bipush (v := (-2)) hx hb d_m_licence_58 (by decide) ?_
      exact W.iret (v := (-2)) hx hb hr (fun t ht hW => ⟨⟨(-2), F1, rfl, ⟨hRF1, (show ((0 ≤ jt.toInt ∧ jt.toInt < (F 27 2).toInt) ∧ ((0 ≤ jk.toInt ∧ jk.toInt ≤ 1) ∧ (0 ≤ jn.toInt ∧ jn.toInt ≤ 1000) ∧ (0 ≤ ju.toInt ∧ ju.toInt ≤ 1000000000) ∧ (0 ≤ jv.toInt ∧ jv.toInt ≤ 1000000000) ∧ ju.toInt ≤ jv.toInt) ∧ (F 27 4).toInt < 50 ∧ ((-2) : Int32).toInt = (F 27 4).toInt ∧ (F1 27 4).toInt = (F 27 4).toInt + 1 ∧ (F1 27 2).toInt = (F 27 2).toInt ∧ (F1 27 3).toInt = (F 27 3).toInt ∧ (F1 27 5).toInt = (F 27 5).toInt) ∨ ((((0 ≤ jt.toInt ∧ jt.toInt < (F 27 2).toInt) ∧ ((0 ≤ jk.toInt ∧ jk.toInt ≤ 1) ∧ (0 ≤ jn.toInt ∧ jn.toInt ≤ 1000) ∧ (0 ≤ ju.toInt ∧ ju.toInt ≤ 1000000000) ∧ (0 ≤ jv.toInt ∧ jv.toInt ≤ 1000000000) ∧ ju.toInt ≤ jv.toInt) ∧ 50 ≤ (F 27 4).toInt ∧ ((-2) : Int32).toInt = -4) ∨ ((0 ≤ jt.toInt ∧ jt.toInt < (F 27 2).toInt) ∧ ¬ ((0 ≤ jk.toInt ∧ jk.toInt ≤ 1) ∧ (0 ≤ jn.toInt ∧ jn.toInt ≤ 1000) ∧ (0 ≤ ju.toInt ∧ ju.toInt ≤ 1000000000) ∧ (0 ≤ jv.toInt ∧ jv.toInt ≤ 1000000000) ∧ ju.toInt ≤ jv.toInt) ∧ ((-2) : Int32).toInt = -2) ∨ (¬ (0 ≤ jt.toInt ∧ jt.toInt < (F 27 2).toInt) ∧ ((-2) : Int32).toInt = -1)) ∧ (F1 27 2).toInt = (F 27 2).toInt ∧ (F1 27 3).toInt = (F 27 3).toInt ∧ (F1 27 4).toInt = (F 27 4).toInt ∧ (F1 27 5).toInt = (F 27 5).toInt) by have q9 := rl_nm2; omega)⟩, ⟨by rw [ht]; exact hP, hD⟩⟩, hS.F ht⟩) hS.2.2 d_m_licence_60
  · refine lv_if_ne (tgt := 15) hx hb d_m_licence_10 (by decide) (fun c9 => absurd c9 (by decide)) (fun _ => ?_)
    refine lv_iconst (v := (-1)) hx hb d_m_licence_13 (by decide) ?_
    exact W.iret (v := (-1)) hx hb hr (fun t ht hW => ⟨⟨(-1), F1, rfl, ⟨hRF1, (show ((0 ≤ jt.toInt ∧ jt.toInt < (F 27 2).toInt) ∧ ((0 ≤ jk.toInt ∧ jk.toInt ≤ 1) ∧ (0 ≤ jn.toInt ∧ jn.toInt ≤ 1000) ∧ (0 ≤ ju.toInt ∧ ju.toInt ≤ 1000000000) ∧ (0 ≤ jv.toInt ∧ jv.toInt ≤ 1000000000) ∧ ju.toInt ≤ jv.toInt) ∧ (F 27 4).toInt < 50 ∧ ((-1) : Int32).toInt = (F 27 4).toInt ∧ (F1 27 4).toInt = (F 27 4).toInt + 1 ∧ (F1 27 2).toInt = (F 27 2).toInt ∧ (F1 27 3).toInt = (F 27 3).toInt ∧ (F1 27 5).toInt = (F 27 5).toInt) ∨ ((((0 ≤ jt.toInt ∧ jt.toInt < (F 27 2).toInt) ∧ ((0 ≤ jk.toInt ∧ jk.toInt ≤ 1) ∧ (0 ≤ jn.toInt ∧ jn.toInt ≤ 1000) ∧ (0 ≤ ju.toInt ∧ ju.toInt ≤ 1000000000) ∧ (0 ≤ jv.toInt ∧ jv.toInt ≤ 1000000000) ∧ ju.toInt ≤ jv.toInt) ∧ 50 ≤ (F 27 4).toInt ∧ ((-1) : Int32).toInt = -4) ∨ ((0 ≤ jt.toInt ∧ jt.toInt < (F 27 2).toInt) ∧ ¬ ((0 ≤ jk.toInt ∧ jk.toInt ≤ 1) ∧ (0 ≤ jn.toInt ∧ jn.toInt ≤ 1000) ∧ (0 ≤ ju.toInt ∧ ju.toInt ≤ 1000000000) ∧ (0 ≤ jv.toInt ∧ jv.toInt ≤ 1000000000) ∧ ju.toInt ≤ jv.toInt) ∧ ((-1) : Int32).toInt = -2) ∨ (¬ (0 ≤ jt.toInt ∧ jt.toInt < (F 27 2).toInt) ∧ ((-1) : Int32).toInt = -1)) ∧ (F1 27 2).toInt = (F 27 2).toInt ∧ (F1 27 3).toInt = (F 27 3).toInt ∧ (F1 27 4).toInt = (F 27 4).toInt ∧ (F1 27 5).toInt = (F 27 5).toInt) by have q9 := rl_nm1; omega)⟩, ⟨by rw [ht]; exact hP, hD⟩⟩, hS.F ht⟩) hS.2.2 d_m_licence_14
set_option maxHeartbeats 4000000 in
set_option maxRecDepth 100000 in
theorem k_m_fee (l : Launch) (D : va_G) (a : Nat → Nat) (kI kZ : ClassId) (F : Nat → Nat → Int32) (jp jn : Int32) (hI : rm_I F) (sz : Nat) : rl_Ci (S := Nat → Nat → Int32) l ⟨"RightsLimitModel", "fee", "(II)I"⟩ (Cond.code ⟨"RightsLimitModel", "fee", "(II)I"⟩ prog_7_method_10_code 3 (some .int) :: rl_G) { frames := 1, cells := 0, slots := 0, locals := 22 } D rl_cl (rl_tys kI kZ) [] [.ref (a 0), .int jp, .int jn] (rm_w a kI kZ F) sz (fun (r : Int32) (F' : Nat → Nat → Int32) => rm_R F' ∧ (((((0 ≤ jp.toInt ∧ jp.toInt ≤ 99) ∧ (0 ≤ jn.toInt ∧ jn.toInt ≤ 10000)) ∧ r.toInt = 1) ∨ (¬ ((0 ≤ jp.toInt ∧ jp.toInt ≤ 99) ∧ (0 ≤ jn.toInt ∧ jn.toInt ≤ 10000)) ∧ r.toInt = -2)) ∧ (F' 27 2).toInt = (F 27 2).toInt ∧ (F' 27 3).toInt = (F 27 3).toInt ∧ (F' 27 4).toInt = (F 27 4).toInt ∧ (F' 27 5).toInt = (F 27 5).toInt)) (fun F' => rm_w a kI kZ F') 0 0 := by
  refine rl_meti (cc := prog_7_method_10_code) (maxL := 3) (ret := (some .int)) (by decide) rfl (Nat.le_of_ble_eq_true rfl) ?_
  intro p e s m below meth c A ls hx hb hr hml hown hts hlocks hnm hP hK hD hS hA hN hl
  have hown : s.vm.findClass "RightsLimitModel" = some m.cls := hown
  have hG : ∀ x ∈ rl_G, x.before _ s = true := fun x h => hts x (List.mem_cons_of_mem _ h)
  have hl : lv_has ls 3 [(0, .ref (a 0)), (1, .int jp), (2, .int jn)] := hl
  obtain ⟨hcnt, hR⟩ := id hI
  refine lv_aload_n hx hb d_m_fee_0 rfl (lv_at hl 0 rfl) ?_
  refine lv_iconst (v := 0) hx hb d_m_fee_1 (by decide) ?_
  refine va_put (D := D) (ci := 5) (v := .int 0) (ty := .int) (C := "RightsLimitModel") (T := fT_m) (N := 33) hx hb hG fi_m fy_m fo_m fn_m hown hK hP hD hS 0 rfl rfl 0 (by decide) (hG _ wd_483) (fun _ h9 => h9) rfl (by decide +kernel) rfl rfl (Nat.le_of_ble_eq_true rfl) d_m_fee_2 (fun H locs hP hD hS => ?_)
  obtain ⟨F1, eF1⟩ : ∃ G, G = rl_st F 27 0 0 := ⟨_, rfl⟩
  have hP : va_P D rl_cl (rm_w a kI kZ F1) H := by rw [eF1]; exact hP
  have hD : va_D A (rm_w a kI kZ F1) := by rw [eF1]; exact hD
  obtain ⟨tF1, hRF1⟩ := rm_putS eF1 (by decide) (by decide) (by decide) (by decide) hR
  refine lv_iload_n hx hb d_m_fee_5 rfl (lv_at hl 1 rfl) ?_
  refine lv_iconst (v := 0) hx hb d_m_fee_6 (by decide) ?_
  refine lv_bipush (v := 99) hx hb d_m_fee_7 (by decide) ?_
  refine rl_callr hS (va_runS (As := [.int jp, .int 0, .int 99]) (rest := []) ⟨hx, hb, hml, hown, hG⟩ (k_m_in l D a kI kZ jp 0 99 _) (cwS 3 hG (rl_gS wd_587 wd_588 wd_19 wd_589) rfl rfl rfl (by decide +kernel) ⟨Nat.le_of_ble_eq_true rfl, Nat.le_of_ble_eq_true rfl⟩) (rl_BR.pre rl_nw0 rl_P0 hK hN) rfl rfl hl.1 rfl (lv_room (Nat.le_of_ble_eq_true rfl)) d_m_fee_9 ⟨Nat.le_of_ble_eq_true rfl, Nat.le_of_ble_eq_true rfl⟩) (fun r2 locs hw hS => ?_)
  try simp only [rl_n0, rl_n99] at hw
  rcases hw with ⟨rfl, h3⟩ | ⟨rfl, h3⟩
  · refine lv_if_eq (tgt := 26) hx hb d_m_fee_12 (by decide) (fun c9 => absurd c9 (by decide)) (fun _ => ?_)
    refine lv_iload_n hx hb d_m_fee_15 rfl (lv_at hl 2 rfl) ?_
    refine lv_iconst (v := 0) hx hb d_m_fee_16 (by decide) ?_
    refine lv_sipush (v := 10000) hx hb d_m_fee_17 (by decide) ?_
    refine rl_callr hS (va_runS (As := [.int jn, .int 0, .int 10000]) (rest := []) ⟨hx, hb, hml, hown, hG⟩ (k_m_in l D a kI kZ jn 0 10000 _) (cwS 3 hG (rl_gS wd_587 wd_588 wd_19 wd_589) rfl rfl rfl (by decide +kernel) ⟨Nat.le_of_ble_eq_true rfl, Nat.le_of_ble_eq_true rfl⟩) (rl_BR.pre rl_nw0 rl_P0 hK hN) rfl rfl hl.1 rfl (lv_room (Nat.le_of_ble_eq_true rfl)) d_m_fee_20 ⟨Nat.le_of_ble_eq_true rfl, Nat.le_of_ble_eq_true rfl⟩) (fun r4 locs hw hS => ?_)
    try simp only [rl_n0, rl_n10000] at hw
    rcases hw with ⟨rfl, h5⟩ | ⟨rfl, h5⟩
    · refine lv_if_ne (tgt := 29) hx hb d_m_fee_23 (by decide) (fun _ => ?_) (fun c9 => absurd c9 (by decide))
      refine lv_aload_n hx hb d_m_fee_29 rfl (lv_at hl 0 rfl) ?_
      refine va_get (D := D) (ci := 5) (v := .ref (a 5)) (C := "RightsLimitModel") (T := fT_m) (N := 33) hx hb hG fi_m hown hK hP 0 rfl rfl 7 (by decide) (hG _ wd_490) (fun _ h9 => h9) rfl d_m_fee_30 ?_
      refine lv_iload_n hx hb d_m_fee_33 rfl (lv_at hl 1 rfl) ?_
      refine lv_iload_n hx hb d_m_fee_34 rfl (lv_at hl 2 rfl) ?_
      refine va_iast hx hb hK hP hD hS 5 0 rfl rfl (rl_in (n := 100) (by omega) (by omega)) d_m_fee_35 (fun H locs hP hD hS => ?_)
      obtain ⟨F6, eF6⟩ : ∃ G, G = rl_st F1 4 jp.toNatClampNeg jn := ⟨_, rfl⟩
      have hP : va_P D rl_cl (rm_w a kI kZ F6) H := by rw [eF6]; exact hP
      have hD : va_D A (rm_w a kI kZ F6) := by rw [eF6]; exact hD
      obtain ⟨tF6, hRF6⟩ := rm_keep eF6 (by decide) (by decide) (by decide) hRF1
      refine lv_iconst (v := 1) hx hb d_m_fee_36 (by decide) ?_
      exact W.iret (v := 1) hx hb hr (fun t ht hW => ⟨⟨1, F6, rfl, ⟨hRF6, (show ((((0 ≤ jp.toInt ∧ jp.toInt ≤ 99) ∧ (0 ≤ jn.toInt ∧ jn.toInt ≤ 10000)) ∧ (1 : Int32).toInt = 1) ∨ (¬ ((0 ≤ jp.toInt ∧ jp.toInt ≤ 99) ∧ (0 ≤ jn.toInt ∧ jn.toInt ≤ 10000)) ∧ (1 : Int32).toInt = -2)) ∧ (F6 27 2).toInt = (F 27 2).toInt ∧ (F6 27 3).toInt = (F 27 3).toInt ∧ (F6 27 4).toInt = (F 27 4).toInt ∧ (F6 27 5).toInt = (F 27 5).toInt by have q9 := rl_n1; omega)⟩, ⟨by rw [ht]; exact hP, hD⟩⟩, hS.F ht⟩) hS.2.2 d_m_fee_37
    · refine lv_if_ne (tgt := 29) hx hb d_m_fee_23 (by decide) (fun c9 => absurd c9 (by decide)) (fun _ => ?_)
      refine lv_bipush (v := (-2)) hx hb d_m_fee_26 (by decide) ?_
      exact W.iret (v := (-2)) hx hb hr (fun t ht hW => ⟨⟨(-2), F1, rfl, ⟨hRF1, (show ((((0 ≤ jp.toInt ∧ jp.toInt ≤ 99) ∧ (0 ≤ jn.toInt ∧ jn.toInt ≤ 10000)) ∧ ((-2) : Int32).toInt = 1) ∨ (¬ ((0 ≤ jp.toInt ∧ jp.toInt ≤ 99) ∧ (0 ≤ jn.toInt ∧ jn.toInt ≤ 10000)) ∧ ((-2) : Int32).toInt = -2)) ∧ (F1 27 2).toInt = (F 27 2).toInt ∧ (F1 27 3).toInt = (F 27 3).toInt ∧ (F1 27 4).toInt = (F 27 4).toInt ∧ (F1 27 5).toInt = (F 27 5).toInt by have q9 := rl_nm2; omega)⟩, ⟨by rw [ht]; exact hP, hD⟩⟩, hS.F ht⟩) hS.2.2 d_m_fee_28
  · refine lv_if_eq (tgt := 26) hx hb d_m_fee_12 (by decide) (fun _ => ?_) (fun c9 => absurd c9 (by decide))
    refine lv_bipush (v := (-2)) hx hb d_m_fee_26 (by decide) ?_
    exact W.iret (v := (-2)) hx hb hr (fun t ht hW => ⟨⟨(-2), F1, rfl, ⟨hRF1, (show ((((0 ≤ jp.toInt ∧ jp.toInt ≤ 99) ∧ (0 ≤ jn.toInt ∧ jn.toInt ≤ 10000)) ∧ ((-2) : Int32).toInt = 1) ∨ (¬ ((0 ≤ jp.toInt ∧ jp.toInt ≤ 99) ∧ (0 ≤ jn.toInt ∧ jn.toInt ≤ 10000)) ∧ ((-2) : Int32).toInt = -2)) ∧ (F1 27 2).toInt = (F 27 2).toInt ∧ (F1 27 3).toInt = (F 27 3).toInt ∧ (F1 27 4).toInt = (F 27 4).toInt ∧ (F1 27 5).toInt = (F 27 5).toInt by have q9 := rl_nm2; omega)⟩, ⟨by rw [ht]; exact hP, hD⟩⟩, hS.F ht⟩) hS.2.2 d_m_fee_28
end
section
set_option maxHeartbeats 4000000 in
set_option maxRecDepth 100000 in
theorem k_m_ask_292 (l : Launch) (D : va_G) (a : Nat → Nat) (kI kZ : ClassId) (F : Nat → Nat → Int32) (jn jt jk jg ju : Int32) (hI : rm_I F) {p : Program} {e : Env} {s : State} {m : MethodId} {below : List Frame} {meth : Method} {c : Code} {A : Nat → Prop} (hx : p.tables.exec = Jvm.exec) (hb : c.code = prog_7_method_15_code) (hr : meth.sig.returnType = (some .int)) (hml : c.maxLocals = 8) (hown : s.vm.findClass "RightsLimitModel" = some m.cls) (hG : ∀ x ∈ rl_G, x.before ([.ref (a 0), .int jn, .int jt, .int jk, .int jg, .int ju] : List Value).toArray s = true) (hlocks : meth.locks = false) (hK : va_K D rl_cl (rl_tys kI kZ) s) (hA : ∀ q : Nat, s.heap.size ≤ q → A q) (hN : ∀ x ∈ ([] : List Cond), va_Nw x s) (Fz : Nat → Nat → Int32) (tFz : (Fz 27 2).toInt = (F 27 2).toInt ∧ (Fz 27 3).toInt = (F 27 3).toInt ∧ (Fz 27 4).toInt = (F 27 4).toInt ∧ (Fz 27 5).toInt = (F 27 5).toInt) (hRFz : rm_R Fz) (i6 how : Int32) (h6 : i6.toInt = (F 27 5).toInt) (h6a : i6.toInt < 300) (hh0 : 0 ≤ how.toInt) (hh5 : how.toInt ≤ 5) (hjt0 : 0 ≤ jt.toInt) (hjt1 : jt.toInt < (F 27 2).toInt) {H : Heap} {locs : List Loc} {ls : Array Slot} (hP : va_P D rl_cl (rm_w a kI kZ Fz) H) (hD : va_D A (rm_w a kI kZ Fz)) (hS : va_S A s.heap H locs) (hl : lv_has ls 8 [(7, .int how), (6, .int i6), (0, .ref (a 0)), (1, .int jn), (2, .int jt), (3, .int jk), (4, .int jg), (5, .int ju)]) : W p l e ({ frames := 3, cells := 0, slots := 0, locals := 73 } : Room) s m ([.ref (a 0), .int jn, .int jt, .int jk, .int jg, .int ju] : List Value).toArray below meth c H locs 0 0 (MQ below (va_Qi (S := Nat → Nat → Int32) (fun (r : Int32) (F' : Nat → Nat → Int32) => rm_R F' ∧ ((F' 27 2).toInt = (F 27 2).toInt ∧ (F' 27 3).toInt = (F 27 3).toInt ∧ (F' 27 4).toInt = (F 27 4).toInt ∧ 0 ≤ (F' 27 5).toInt ∧ (F' 27 5).toInt ≤ 300)) (fun u t => va_P D rl_cl (rm_w a kI kZ u) t.heap ∧ va_D A (rm_w a kI kZ u)) A) ([.ref (a 0), .int jn, .int jt, .int jk, .int jg, .int ju] : List Value).toArray s 0 0 A) (F0 m 292 ls []) := by
  obtain ⟨hcnt, hR⟩ := id hI
  refine lv_aload_n hx hb d_m_ask_292 rfl (lv_at hl 2 rfl) ?_
  refine lv_dup hx hb d_m_ask_293 rfl ?_
  refine va_get (D := D) (ci := 5) (v := .int (Fz 27 5)) (C := "RightsLimitModel") (T := fT_m) (N := 33) hx hb hG fi_m hown hK hP 0 rfl rfl 20 (by decide) (hG _ wd_503) (fun _ h9 => h9) rfl d_m_ask_294 ?_
  refine lv_iconst (v := 1) hx hb d_m_ask_297 (by decide) ?_
  refine lv_iadd hx hb d_m_ask_298 ?_
  refine lv_topi (fun v1 ev1 => ?_)
  have iv1 : v1.toInt = (Fz 27 5).toInt + 1 := by rw [ev1]; exact rl_addk (by decide) (by omega) (by omega)
  refine va_put (D := D) (ci := 5) (v := .int v1) (ty := .int) (C := "RightsLimitModel") (T := fT_m) (N := 33) hx hb hG fi_m fy_m fo_m fn_m hown hK hP hD hS 0 rfl rfl 20 (by decide) (hG _ wd_503) (fun _ h9 => h9) rfl (by decide +kernel) rfl rfl (Nat.le_of_ble_eq_true rfl) d_m_ask_299 (fun H locs hP hD hS => ?_)
  obtain ⟨F2, eF2⟩ : ∃ G, G = rl_st Fz 27 5 v1 := ⟨_, rfl⟩
  have hP : va_P D rl_cl (rm_w a kI kZ F2) H := by rw [eF2]; exact hP
  have hD : va_D A (rm_w a kI kZ F2) := by rw [eF2]; exact hD
  obtain ⟨tF2, hRF2⟩ := rm_put5 eF2 hRFz
  rw [tFz.1, tFz.2.1, tFz.2.2.1] at tF2
  refine lv_iload hx hb d_m_ask_302 (lv_at hl 0 rfl) ?_
  refine lv_if_ne (tgt := 315) hx hb d_m_ask_304 (by decide) (fun c3 => ?_) (fun c3 => ?_)
  · have ic3 := rl_ine c3
    simp only [rl_n0] at ic3
    have nc3 : 0 < how.toInt := by omega
    clear ic3
    refine lv_iload hx hb d_m_ask_315 (lv_at hl 1 rfl) ?_
    exact W.iret (v := i6) hx hb hr (fun t ht hW => ⟨⟨i6, F2, rfl, ⟨hRF2, (show (F2 27 2).toInt = (F 27 2).toInt ∧ (F2 27 3).toInt = (F 27 3).toInt ∧ (F2 27 4).toInt = (F 27 4).toInt ∧ 0 ≤ (F2 27 5).toInt ∧ (F2 27 5).toInt ≤ 300 by omega)⟩, ⟨by rw [ht]; exact hP, hD⟩⟩, hS.F ht⟩) hS.2.2 d_m_ask_317
  · have ic3 := rl_ieq c3
    simp only [rl_n0] at ic3
    refine lv_bipush (v := (-10)) hx hb d_m_ask_307 (by decide) ?_
    refine lv_iload hx hb d_m_ask_309 (lv_at hl 1 rfl) ?_
    refine lv_isub hx hb d_m_ask_311 ?_
    refine lv_topi (fun v4 ev4 => ?_)
    refine lv_goto (tgt := 317) hx hb d_m_ask_312 (by decide) ?_
    exact W.iret (v := v4) hx hb hr (fun t ht hW => ⟨⟨v4, F2, rfl, ⟨hRF2, (show (F2 27 2).toInt = (F 27 2).toInt ∧ (F2 27 3).toInt = (F 27 3).toInt ∧ (F2 27 4).toInt = (F 27 4).toInt ∧ 0 ≤ (F2 27 5).toInt ∧ (F2 27 5).toInt ≤ 300 by omega)⟩, ⟨by rw [ht]; exact hP, hD⟩⟩, hS.F ht⟩) hS.2.2 d_m_ask_317
set_option maxHeartbeats 4000000 in
set_option maxRecDepth 100000 in
theorem k_m_ask_275 (l : Launch) (D : va_G) (a : Nat → Nat) (kI kZ : ClassId) (F : Nat → Nat → Int32) (jn jt jk jg ju : Int32) (hI : rm_I F) {p : Program} {e : Env} {s : State} {m : MethodId} {below : List Frame} {meth : Method} {c : Code} {A : Nat → Prop} (hx : p.tables.exec = Jvm.exec) (hb : c.code = prog_7_method_15_code) (hr : meth.sig.returnType = (some .int)) (hml : c.maxLocals = 8) (hown : s.vm.findClass "RightsLimitModel" = some m.cls) (hG : ∀ x ∈ rl_G, x.before ([.ref (a 0), .int jn, .int jt, .int jk, .int jg, .int ju] : List Value).toArray s = true) (hlocks : meth.locks = false) (hK : va_K D rl_cl (rl_tys kI kZ) s) (hA : ∀ q : Nat, s.heap.size ≤ q → A q) (hN : ∀ x ∈ ([] : List Cond), va_Nw x s) (Fz : Nat → Nat → Int32) (tFz : (Fz 27 2).toInt = (F 27 2).toInt ∧ (Fz 27 3).toInt = (F 27 3).toInt ∧ (Fz 27 4).toInt = (F 27 4).toInt ∧ (Fz 27 5).toInt = (F 27 5).toInt) (hRFz : rm_R Fz) (i6 how : Int32) (h6 : i6.toInt = (F 27 5).toInt) (h6a : i6.toInt < 300) (hh0 : 0 ≤ how.toInt) (hh5 : how.toInt ≤ 5) (hjt0 : 0 ≤ jt.toInt) (hjt1 : jt.toInt < (F 27 2).toInt) {H : Heap} {locs : List Loc} {ls : Array Slot} (hP : va_P D rl_cl (rm_w a kI kZ Fz) H) (hD : va_D A (rm_w a kI kZ Fz)) (hS : va_S A s.heap H locs) (hl : lv_has ls 8 [(7, .int how), (6, .int i6), (0, .ref (a 0)), (1, .int jn), (2, .int jt), (3, .int jk), (4, .int jg), (5, .int ju)]) : W p l e ({ frames := 3, cells := 0, slots := 0, locals := 73 } : Room) s m ([.ref (a 0), .int jn, .int jt, .int jk, .int jg, .int ju] : List Value).toArray below meth c H locs 0 0 (MQ below (va_Qi (S := Nat → Nat → Int32) (fun (r : Int32) (F' : Nat → Nat → Int32) => rm_R F' ∧ ((F' 27 2).toInt = (F 27 2).toInt ∧ (F' 27 3).toInt = (F 27 3).toInt ∧ (F' 27 4).toInt = (F 27 4).toInt ∧ 0 ≤ (F' 27 5).toInt ∧ (F' 27 5).toInt ≤ 300)) (fun u t => va_P D rl_cl (rm_w a kI kZ u) t.heap ∧ va_D A (rm_w a kI kZ u)) A) ([.ref (a 0), .int jn, .int jt, .int jk, .int jg, .int ju] : List Value).toArray s 0 0 A) (F0 m 275 ls []) := by
  obtain ⟨hcnt, hR⟩ := id hI
  refine lv_iload hx hb d_m_ask_275 (lv_at hl 0 rfl) ?_
  refine lv_if_ne (tgt := 292) hx hb d_m_ask_277 (by decide) (fun c1 => ?_) (fun c1 => ?_)
  · have ic1 := rl_ine c1
    simp only [rl_n0] at ic1
    have nc1 : 0 < how.toInt := by omega
    clear ic1
    exact k_m_ask_292 l D a kI kZ F jn jt jk jg ju hI hx hb hr hml hown hG hlocks hK hA hN Fz ⟨by omega, by omega, by omega, by omega⟩ hRFz i6 how (by omega) (by omega) (by omega) (by omega) (by omega) (by omega) hP hD hS (lv_sub hl [0, 1, 2, 3, 4, 5, 6, 7] rfl)
  · have ic1 := rl_ieq c1
    simp only [rl_n0] at ic1
    refine lv_aload_n hx hb d_m_ask_280 rfl (lv_at hl 2 rfl) ?_
    refine lv_aload_n hx hb d_m_ask_281 rfl (lv_at hl 2 rfl) ?_
    refine lv_iload_n hx hb d_m_ask_282 rfl (lv_at hl 4 rfl) ?_
    refine lv_iload_n hx hb d_m_ask_283 rfl (lv_at hl 5 rfl) ?_
    refine lv_iload hx hb d_m_ask_284 (lv_at hl 7 rfl) ?_
    have hpre := rl_BR.pre (av := .ref (a 0) :: [.int jt, .int jk, .int ju]) rl_nw0 hP hK hN
    refine rl_callr hS (va_runV (As := [.int jt, .int jk, .int ju]) (rest := [.ref (a 0)]) ⟨hx, hb, hml, hown, hG⟩ (k_m_barrier l D a kI kZ Fz jt jk ju ⟨by omega, hRFz⟩ _) (cwV 3 hG (rl_gV wd_627 wd_629 wd_10 wd_19 wd_630) rfl rfl rfl (by decide +kernel) ⟨Nat.le_of_ble_eq_true rfl, Nat.le_of_ble_eq_true rfl⟩) ⟨hpre.1, (va_recv hK hP (ci := 5) (q0 := 0) rfl rfl), hpre.2⟩ rfl rfl hl.1 rfl (lv_room (Nat.le_of_ble_eq_true rfl)) d_m_ask_286 ⟨Nat.le_of_ble_eq_true rfl, Nat.le_of_ble_eq_true rfl⟩) (fun r2 locs hw hS => ?_)
    have hwr2 := hw
    refine va_put (D := D) (ci := 5) (v := .int r2) (ty := .int) (C := "RightsLimitModel") (T := fT_m) (N := 33) hx hb hG fi_m fy_m fo_m fn_m hown hK hP hD hS 0 rfl rfl 32 (by decide) (hG _ wd_515) (fun _ h9 => h9) rfl (by decide +kernel) rfl rfl (Nat.le_of_ble_eq_true rfl) d_m_ask_289 (fun H locs hP hD hS => ?_)
    obtain ⟨F3, eF3⟩ : ∃ G, G = rl_st Fz 27 6 r2 := ⟨_, rfl⟩
    have hP : va_P D rl_cl (rm_w a kI kZ F3) H := by rw [eF3]; exact hP
    have hD : va_D A (rm_w a kI kZ F3) := by rw [eF3]; exact hD
    obtain ⟨tF3, hRF3⟩ := rm_putS eF3 (by decide) (by decide) (by decide) (by decide) hRFz
    rw [tFz.1, tFz.2.1, tFz.2.2.1, tFz.2.2.2] at tF3
    exact k_m_ask_292 l D a kI kZ F jn jt jk jg ju hI hx hb hr hml hown hG hlocks hK hA hN F3 ⟨by omega, by omega, by omega, by omega⟩ hRF3 i6 how (by omega) (by omega) (by omega) (by omega) (by omega) (by omega) hP hD hS (lv_sub hl [0, 1, 2, 3, 4, 5, 6, 7] rfl)
set_option maxHeartbeats 4000000 in
set_option maxRecDepth 100000 in
theorem k_m_ask_259 (l : Launch) (D : va_G) (a : Nat → Nat) (kI kZ : ClassId) (F : Nat → Nat → Int32) (jn jt jk jg ju : Int32) (hI : rm_I F) {p : Program} {e : Env} {s : State} {m : MethodId} {below : List Frame} {meth : Method} {c : Code} {A : Nat → Prop} (hx : p.tables.exec = Jvm.exec) (hb : c.code = prog_7_method_15_code) (hr : meth.sig.returnType = (some .int)) (hml : c.maxLocals = 8) (hown : s.vm.findClass "RightsLimitModel" = some m.cls) (hG : ∀ x ∈ rl_G, x.before ([.ref (a 0), .int jn, .int jt, .int jk, .int jg, .int ju] : List Value).toArray s = true) (hlocks : meth.locks = false) (hK : va_K D rl_cl (rl_tys kI kZ) s) (hA : ∀ q : Nat, s.heap.size ≤ q → A q) (hN : ∀ x ∈ ([] : List Cond), va_Nw x s) (Fz : Nat → Nat → Int32) (tFz : (Fz 27 2).toInt = (F 27 2).toInt ∧ (Fz 27 3).toInt = (F 27 3).toInt ∧ (Fz 27 4).toInt = (F 27 4).toInt ∧ (Fz 27 5).toInt = (F 27 5).toInt) (hRFz : rm_R Fz) (i6 how : Int32) (h6 : i6.toInt = (F 27 5).toInt) (h6a : i6.toInt < 300) (hh0 : 0 ≤ how.toInt) (hh5 : how.toInt ≤ 5) (hjt0 : 0 ≤ jt.toInt) (hjt1 : jt.toInt < (F 27 2).toInt) {H : Heap} {locs : List Loc} {ls : Array Slot} (hP : va_P D rl_cl (rm_w a kI kZ Fz) H) (hD : va_D A (rm_w a kI kZ Fz)) (hS : va_S A s.heap H locs) (hl : lv_has ls 8 [(7, .int how), (6, .int i6), (0, .ref (a 0)), (1, .int jn), (2, .int jt), (3, .int jk), (4, .int jg), (5, .int ju)]) : W p l e ({ frames := 3, cells := 0, slots := 0, locals := 73 } : Room) s m ([.ref (a 0), .int jn, .int jt, .int jk, .int jg, .int ju] : List Value).toArray below meth c H locs 0 0 (MQ below (va_Qi (S := Nat → Nat → Int32) (fun (r : Int32) (F' : Nat → Nat → Int32) => rm_R F' ∧ ((F' 27 2).toInt = (F 27 2).toInt ∧ (F' 27 3).toInt = (F 27 3).toInt ∧ (F' 27 4).toInt = (F 27 4).toInt ∧ 0 ≤ (F' 27 5).toInt ∧ (F' 27 5).toInt ≤ 300)) (fun u t => va_P D rl_cl (rm_w a kI kZ u) t.heap ∧ va_D A (rm_w a kI kZ u)) A) ([.ref (a 0), .int jn, .int jt, .int jk, .int jg, .int ju] : List Value).toArray s 0 0 A) (F0 m 259 ls []) := by
  obtain ⟨hcnt, hR⟩ := id hI
  refine lv_iload hx hb d_m_ask_259 (lv_at hl 0 rfl) ?_
  refine lv_iconst (v := 4) hx hb d_m_ask_261 (by decide) ?_
  refine lv_icmp_ne (tgt := 275) hx hb d_m_ask_262 (by decide) (fun c1 => ?_) (fun c1 => ?_)
  · have ic1 := rl_ine c1
    simp only [rl_n4] at ic1
    exact k_m_ask_275 l D a kI kZ F jn jt jk jg ju hI hx hb hr hml hown hG hlocks hK hA hN Fz ⟨by omega, by omega, by omega, by omega⟩ hRFz i6 how (by omega) (by omega) (by omega) (by omega) (by omega) (by omega) hP hD hS (lv_sub hl [0, 1, 2, 3, 4, 5, 6, 7] rfl)
  · have ic1 := rl_ieq c1
    simp only [rl_n4] at ic1
    refine lv_aload_n hx hb d_m_ask_265 rfl (lv_at hl 2 rfl) ?_
    refine va_get (D := D) (ci := 5) (v := .ref (a 4)) (C := "RightsLimitModel") (T := fT_m) (N := 33) hx hb hG fi_m hown hK hP 0 rfl rfl 6 (by decide) (hG _ wd_489) (fun _ h9 => h9) rfl d_m_ask_266 ?_
    refine lv_iload_n hx hb d_m_ask_269 rfl (lv_at hl 4 rfl) ?_
    refine lv_dup2_11 hx hb d_m_ask_270 rfl rfl ?_
    refine va_iald hx hb hK hP 4 0 rfl rfl (rl_in (n := 50) (by omega) (by omega)) d_m_ask_271 ?_
    refine lv_topi (fun v2 ev2 => ?_)
    refine lv_iconst (v := 1) hx hb d_m_ask_272 (by decide) ?_
    refine lv_isub hx hb d_m_ask_273 ?_
    refine lv_topi (fun v3 ev3 => ?_)
    refine va_iast hx hb hK hP hD hS 4 0 rfl rfl (rl_in (n := 50) (by omega) (by omega)) d_m_ask_274 (fun H locs hP hD hS => ?_)
    obtain ⟨F4, eF4⟩ : ∃ G, G = rl_st Fz 3 jt.toNatClampNeg v3 := ⟨_, rfl⟩
    have hP : va_P D rl_cl (rm_w a kI kZ F4) H := by rw [eF4]; exact hP
    have hD : va_D A (rm_w a kI kZ F4) := by rw [eF4]; exact hD
    obtain ⟨tF4, hRF4⟩ := rm_keep eF4 (by decide) (by decide) (by decide) hRFz
    rw [tFz.1, tFz.2.1, tFz.2.2.1, tFz.2.2.2] at tF4
    exact k_m_ask_275 l D a kI kZ F jn jt jk jg ju hI hx hb hr hml hown hG hlocks hK hA hN F4 ⟨by omega, by omega, by omega, by omega⟩ hRF4 i6 how (by omega) (by omega) (by omega) (by omega) (by omega) (by omega) hP hD hS (lv_sub hl [0, 1, 2, 3, 4, 5, 6, 7] rfl)
set_option maxHeartbeats 4000000 in
set_option maxRecDepth 100000 in
theorem k_m_ask_237 (l : Launch) (D : va_G) (a : Nat → Nat) (kI kZ : ClassId) (F : Nat → Nat → Int32) (jn jt jk jg ju : Int32) (hI : rm_I F) {p : Program} {e : Env} {s : State} {m : MethodId} {below : List Frame} {meth : Method} {c : Code} {A : Nat → Prop} (hx : p.tables.exec = Jvm.exec) (hb : c.code = prog_7_method_15_code) (hr : meth.sig.returnType = (some .int)) (hml : c.maxLocals = 8) (hown : s.vm.findClass "RightsLimitModel" = some m.cls) (hG : ∀ x ∈ rl_G, x.before ([.ref (a 0), .int jn, .int jt, .int jk, .int jg, .int ju] : List Value).toArray s = true) (hlocks : meth.locks = false) (hK : va_K D rl_cl (rl_tys kI kZ) s) (hA : ∀ q : Nat, s.heap.size ≤ q → A q) (hN : ∀ x ∈ ([] : List Cond), va_Nw x s) (Fz : Nat → Nat → Int32) (tFz : (Fz 27 2).toInt = (F 27 2).toInt ∧ (Fz 27 3).toInt = (F 27 3).toInt ∧ (Fz 27 4).toInt = (F 27 4).toInt ∧ (Fz 27 5).toInt = (F 27 5).toInt) (hRFz : rm_R Fz) (i6 how w9 : Int32) (h6 : i6.toInt = (F 27 5).toInt) (h6a : i6.toInt < 300) (hh0 : 0 ≤ how.toInt) (hh5 : how.toInt ≤ 5) (hjt0 : 0 ≤ jt.toInt) (hjt1 : jt.toInt < (F 27 2).toInt) (hw9 : Fz 21 i6.toNatClampNeg = w9) (hw8 : how.toInt = 2 → 0 ≤ w9.toInt ∧ w9.toInt < 50) {H : Heap} {locs : List Loc} {ls : Array Slot} (hP : va_P D rl_cl (rm_w a kI kZ Fz) H) (hD : va_D A (rm_w a kI kZ Fz)) (hS : va_S A s.heap H locs) (hl : lv_has ls 8 [(7, .int how), (6, .int i6), (0, .ref (a 0)), (1, .int jn), (2, .int jt), (3, .int jk), (4, .int jg), (5, .int ju)]) : W p l e ({ frames := 3, cells := 0, slots := 0, locals := 73 } : Room) s m ([.ref (a 0), .int jn, .int jt, .int jk, .int jg, .int ju] : List Value).toArray below meth c H locs 0 0 (MQ below (va_Qi (S := Nat → Nat → Int32) (fun (r : Int32) (F' : Nat → Nat → Int32) => rm_R F' ∧ ((F' 27 2).toInt = (F 27 2).toInt ∧ (F' 27 3).toInt = (F 27 3).toInt ∧ (F' 27 4).toInt = (F 27 4).toInt ∧ 0 ≤ (F' 27 5).toInt ∧ (F' 27 5).toInt ≤ 300)) (fun u t => va_P D rl_cl (rm_w a kI kZ u) t.heap ∧ va_D A (rm_w a kI kZ u)) A) ([.ref (a 0), .int jn, .int jt, .int jk, .int jg, .int ju] : List Value).toArray s 0 0 A) (F0 m 237 ls []) := by
  obtain ⟨hcnt, hR⟩ := id hI
  refine lv_iload hx hb d_m_ask_237 (lv_at hl 0 rfl) ?_
  refine lv_iconst (v := 2) hx hb d_m_ask_239 (by decide) ?_
  refine lv_icmp_ne (tgt := 259) hx hb d_m_ask_240 (by decide) (fun c1 => ?_) (fun c1 => ?_)
  · have ic1 := rl_ine c1
    simp only [rl_n2] at ic1
    exact k_m_ask_259 l D a kI kZ F jn jt jk jg ju hI hx hb hr hml hown hG hlocks hK hA hN Fz ⟨by omega, by omega, by omega, by omega⟩ hRFz i6 how (by omega) (by omega) (by omega) (by omega) (by omega) (by omega) hP hD hS (lv_sub hl [0, 1, 2, 3, 4, 5, 6, 7] rfl)
  · have ic1 := rl_ieq c1
    simp only [rl_n2] at ic1
    refine lv_aload_n hx hb d_m_ask_243 rfl (lv_at hl 2 rfl) ?_
    refine va_get (D := D) (ci := 5) (v := .ref (a 13)) (C := "RightsLimitModel") (T := fT_m) (N := 33) hx hb hG fi_m hown hK hP 0 rfl rfl 17 (by decide) (hG _ wd_500) (fun _ h9 => h9) rfl d_m_ask_244 ?_
    refine lv_aload_n hx hb d_m_ask_247 rfl (lv_at hl 2 rfl) ?_
    refine va_get (D := D) (ci := 5) (v := .ref (a 22)) (C := "RightsLimitModel") (T := fT_m) (N := 33) hx hb hG fi_m hown hK hP 0 rfl rfl 27 (by decide) (hG _ wd_510) (fun _ h9 => h9) rfl d_m_ask_248 ?_
    refine lv_iload hx hb d_m_ask_251 (lv_at hl 1 rfl) ?_
    refine va_iald hx hb hK hP 22 0 rfl rfl (rl_in (n := 300) (by omega) (by omega)) d_m_ask_253 ?_
    refine lv_topi (fun v2 ev2 => ?_)
    have kv2 : v2.toInt = w9.toInt := by rw [ev2, hw9]
    refine lv_dup2_11 hx hb d_m_ask_254 rfl rfl ?_
    refine va_iald hx hb hK hP 13 0 rfl rfl (rl_in (n := 50) (by omega) (by omega)) d_m_ask_255 ?_
    refine lv_topi (fun v3 ev3 => ?_)
    refine lv_iconst (v := 1) hx hb d_m_ask_256 (by decide) ?_
    refine lv_isub hx hb d_m_ask_257 ?_
    refine lv_topi (fun v4 ev4 => ?_)
    refine va_iast hx hb hK hP hD hS 13 0 rfl rfl (rl_in (n := 50) (by omega) (by omega)) d_m_ask_258 (fun H locs hP hD hS => ?_)
    obtain ⟨F5, eF5⟩ : ∃ G, G = rl_st Fz 12 v2.toNatClampNeg v4 := ⟨_, rfl⟩
    have hP : va_P D rl_cl (rm_w a kI kZ F5) H := by rw [eF5]; exact hP
    have hD : va_D A (rm_w a kI kZ F5) := by rw [eF5]; exact hD
    obtain ⟨tF5, hRF5⟩ := rm_keep eF5 (by decide) (by decide) (by decide) hRFz
    rw [tFz.1, tFz.2.1, tFz.2.2.1, tFz.2.2.2] at tF5
    have w6 : F5 21 i6.toNatClampNeg = w9 := by rw [eF5, rl_stne (by decide)]; exact hw9
    exact k_m_ask_259 l D a kI kZ F jn jt jk jg ju hI hx hb hr hml hown hG hlocks hK hA hN F5 ⟨by omega, by omega, by omega, by omega⟩ hRF5 i6 how (by omega) (by omega) (by omega) (by omega) (by omega) (by omega) hP hD hS (lv_sub hl [0, 1, 2, 3, 4, 5, 6, 7] rfl)
set_option maxHeartbeats 4000000 in
set_option maxRecDepth 100000 in
theorem k_m_ask_200 (l : Launch) (D : va_G) (a : Nat → Nat) (kI kZ : ClassId) (F : Nat → Nat → Int32) (jn jt jk jg ju : Int32) (hI : rm_I F) {p : Program} {e : Env} {s : State} {m : MethodId} {below : List Frame} {meth : Method} {c : Code} {A : Nat → Prop} (hx : p.tables.exec = Jvm.exec) (hb : c.code = prog_7_method_15_code) (hr : meth.sig.returnType = (some .int)) (hml : c.maxLocals = 8) (hown : s.vm.findClass "RightsLimitModel" = some m.cls) (hG : ∀ x ∈ rl_G, x.before ([.ref (a 0), .int jn, .int jt, .int jk, .int jg, .int ju] : List Value).toArray s = true) (hlocks : meth.locks = false) (hK : va_K D rl_cl (rl_tys kI kZ) s) (hA : ∀ q : Nat, s.heap.size ≤ q → A q) (hN : ∀ x ∈ ([] : List Cond), va_Nw x s) (Fz : Nat → Nat → Int32) (tFz : (Fz 27 2).toInt = (F 27 2).toInt ∧ (Fz 27 3).toInt = (F 27 3).toInt ∧ (Fz 27 4).toInt = (F 27 4).toInt ∧ (Fz 27 5).toInt = (F 27 5).toInt) (hRFz : rm_R Fz) (i6 how w9 : Int32) (h6 : i6.toInt = (F 27 5).toInt) (h6a : i6.toInt < 300) (hh0 : 0 ≤ how.toInt) (hh5 : how.toInt ≤ 5) (hjt0 : 0 ≤ jt.toInt) (hjt1 : jt.toInt < (F 27 2).toInt) (hw9 : Fz 21 i6.toNatClampNeg = w9) (hw8 : how.toInt = 2 → 0 ≤ w9.toInt ∧ w9.toInt < 50) {H : Heap} {locs : List Loc} {ls : Array Slot} (hP : va_P D rl_cl (rm_w a kI kZ Fz) H) (hD : va_D A (rm_w a kI kZ Fz)) (hS : va_S A s.heap H locs) (hl : lv_has ls 8 [(7, .int how), (6, .int i6), (0, .ref (a 0)), (1, .int jn), (2, .int jt), (3, .int jk), (4, .int jg), (5, .int ju)]) : W p l e ({ frames := 3, cells := 0, slots := 0, locals := 73 } : Room) s m ([.ref (a 0), .int jn, .int jt, .int jk, .int jg, .int ju] : List Value).toArray below meth c H locs 0 0 (MQ below (va_Qi (S := Nat → Nat → Int32) (fun (r : Int32) (F' : Nat → Nat → Int32) => rm_R F' ∧ ((F' 27 2).toInt = (F 27 2).toInt ∧ (F' 27 3).toInt = (F 27 3).toInt ∧ (F' 27 4).toInt = (F 27 4).toInt ∧ 0 ≤ (F' 27 5).toInt ∧ (F' 27 5).toInt ≤ 300)) (fun u t => va_P D rl_cl (rm_w a kI kZ u) t.heap ∧ va_D A (rm_w a kI kZ u)) A) ([.ref (a 0), .int jn, .int jt, .int jk, .int jg, .int ju] : List Value).toArray s 0 0 A) (F0 m 200 ls []) := by
  obtain ⟨hcnt, hR⟩ := id hI
  refine lv_aload_n hx hb d_m_ask_200 rfl (lv_at hl 2 rfl) ?_
  refine va_get (D := D) (ci := 5) (v := .ref (a 24)) (C := "RightsLimitModel") (T := fT_m) (N := 33) hx hb hG fi_m hown hK hP 0 rfl rfl 29 (by decide) (hG _ wd_512) (fun _ h9 => h9) rfl d_m_ask_201 ?_
  refine lv_iload hx hb d_m_ask_204 (lv_at hl 1 rfl) ?_
  refine lv_iload hx hb d_m_ask_206 (lv_at hl 0 rfl) ?_
  refine lv_if_ne (tgt := 215) hx hb d_m_ask_208 (by decide) (fun c1 => ?_) (fun c1 => ?_)
  · have ic1 := rl_ine c1
    simp only [rl_n0] at ic1
    have nc1 : 0 < how.toInt := by omega
    clear ic1
    refine lv_iload hx hb d_m_ask_215 (lv_at hl 7 rfl) ?_
    refine lv_ldc (v := 2592000) hx hb hown (hG _ wd_636) d_m_ask_217 ?_
    refine lv_iadd hx hb d_m_ask_219 ?_
    refine lv_topi (fun v2 ev2 => ?_)
    refine va_iast hx hb hK hP hD hS 24 0 rfl rfl (rl_in (n := 300) (by omega) (by omega)) d_m_ask_220 (fun H locs hP hD hS => ?_)
    obtain ⟨F3, eF3⟩ : ∃ G, G = rl_st Fz 23 i6.toNatClampNeg v2 := ⟨_, rfl⟩
    have hP : va_P D rl_cl (rm_w a kI kZ F3) H := by rw [eF3]; exact hP
    have hD : va_D A (rm_w a kI kZ F3) := by rw [eF3]; exact hD
    obtain ⟨tF3, hRF3⟩ := rm_keep eF3 (by decide) (by decide) (by decide) hRFz
    rw [tFz.1, tFz.2.1, tFz.2.2.1, tFz.2.2.2] at tF3
    have w4 : F3 21 i6.toNatClampNeg = w9 := by rw [eF3, rl_stne (by decide)]; exact hw9
    refine lv_aload_n hx hb d_m_ask_221 rfl (lv_at hl 2 rfl) ?_
    refine va_get (D := D) (ci := 5) (v := .ref (a 25)) (C := "RightsLimitModel") (T := fT_m) (N := 33) hx hb hG fi_m hown hK hP 0 rfl rfl 30 (by decide) (hG _ wd_513) (fun _ h9 => h9) rfl d_m_ask_222 ?_
    refine lv_iload hx hb d_m_ask_225 (lv_at hl 1 rfl) ?_
    refine lv_iconst (v := 0) hx hb d_m_ask_227 (by decide) ?_
    refine va_iast hx hb hK hP hD hS 25 0 rfl rfl (rl_in (n := 300) (by omega) (by omega)) d_m_ask_228 (fun H locs hP hD hS => ?_)
    obtain ⟨F5, eF5⟩ : ∃ G, G = rl_st F3 24 i6.toNatClampNeg 0 := ⟨_, rfl⟩
    have hP : va_P D rl_cl (rm_w a kI kZ F5) H := by rw [eF5]; exact hP
    have hD : va_D A (rm_w a kI kZ F5) := by rw [eF5]; exact hD
    obtain ⟨tF5, hRF5⟩ := rm_keep eF5 (by decide) (by decide) (by decide) hRF3
    rw [tF3.1, tF3.2.1, tF3.2.2.1, tF3.2.2.2] at tF5
    clear tF3
    have w6 : F5 21 i6.toNatClampNeg = w9 := by rw [eF5, rl_stne (by decide)]; exact w4
    refine lv_aload_n hx hb d_m_ask_229 rfl (lv_at hl 2 rfl) ?_
    refine va_get (D := D) (ci := 5) (v := .ref (a 26)) (C := "RightsLimitModel") (T := fT_m) (N := 33) hx hb hG fi_m hown hK hP 0 rfl rfl 31 (by decide) (hG _ wd_514) (fun _ h9 => h9) rfl d_m_ask_230 ?_
    refine lv_iload hx hb d_m_ask_233 (lv_at hl 1 rfl) ?_
    refine lv_iconst (v := (-1)) hx hb d_m_ask_235 (by decide) ?_
    refine va_iast hx hb hK hP hD hS 26 0 rfl rfl (rl_in (n := 300) (by omega) (by omega)) d_m_ask_236 (fun H locs hP hD hS => ?_)
    obtain ⟨F7, eF7⟩ : ∃ G, G = rl_st F5 25 i6.toNatClampNeg (-1) := ⟨_, rfl⟩
    have hP : va_P D rl_cl (rm_w a kI kZ F7) H := by rw [eF7]; exact hP
    have hD : va_D A (rm_w a kI kZ F7) := by rw [eF7]; exact hD
    obtain ⟨tF7, hRF7⟩ := rm_keep eF7 (by decide) (by decide) (by decide) hRF5
    rw [tF5.1, tF5.2.1, tF5.2.2.1, tF5.2.2.2] at tF7
    clear tF5
    have w8 : F7 21 i6.toNatClampNeg = w9 := by rw [eF7, rl_stne (by decide)]; exact w6
    exact k_m_ask_237 l D a kI kZ F jn jt jk jg ju hI hx hb hr hml hown hG hlocks hK hA hN F7 ⟨by omega, by omega, by omega, by omega⟩ hRF7 i6 how w9 (by omega) (by omega) (by omega) (by omega) (by omega) (by omega) w8 (fun h9 => ⟨by omega, by omega⟩) hP hD hS (lv_sub hl [0, 1, 2, 3, 4, 5, 6, 7] rfl)
  · have ic1 := rl_ieq c1
    simp only [rl_n0] at ic1
    refine lv_iconst (v := (-1)) hx hb d_m_ask_211 (by decide) ?_
    refine lv_goto (tgt := 220) hx hb d_m_ask_212 (by decide) ?_
    refine va_iast hx hb hK hP hD hS 24 0 rfl rfl (rl_in (n := 300) (by omega) (by omega)) d_m_ask_220 (fun H locs hP hD hS => ?_)
    obtain ⟨F9, eF9⟩ : ∃ G, G = rl_st Fz 23 i6.toNatClampNeg (-1) := ⟨_, rfl⟩
    have hP : va_P D rl_cl (rm_w a kI kZ F9) H := by rw [eF9]; exact hP
    have hD : va_D A (rm_w a kI kZ F9) := by rw [eF9]; exact hD
    obtain ⟨tF9, hRF9⟩ := rm_keep eF9 (by decide) (by decide) (by decide) hRFz
    rw [tFz.1, tFz.2.1, tFz.2.2.1, tFz.2.2.2] at tF9
    have w10 : F9 21 i6.toNatClampNeg = w9 := by rw [eF9, rl_stne (by decide)]; exact hw9
    refine lv_aload_n hx hb d_m_ask_221 rfl (lv_at hl 2 rfl) ?_
    refine va_get (D := D) (ci := 5) (v := .ref (a 25)) (C := "RightsLimitModel") (T := fT_m) (N := 33) hx hb hG fi_m hown hK hP 0 rfl rfl 30 (by decide) (hG _ wd_513) (fun _ h9 => h9) rfl d_m_ask_222 ?_
    refine lv_iload hx hb d_m_ask_225 (lv_at hl 1 rfl) ?_
    refine lv_iconst (v := 0) hx hb d_m_ask_227 (by decide) ?_
    refine va_iast hx hb hK hP hD hS 25 0 rfl rfl (rl_in (n := 300) (by omega) (by omega)) d_m_ask_228 (fun H locs hP hD hS => ?_)
    obtain ⟨F11, eF11⟩ : ∃ G, G = rl_st F9 24 i6.toNatClampNeg 0 := ⟨_, rfl⟩
    have hP : va_P D rl_cl (rm_w a kI kZ F11) H := by rw [eF11]; exact hP
    have hD : va_D A (rm_w a kI kZ F11) := by rw [eF11]; exact hD
    obtain ⟨tF11, hRF11⟩ := rm_keep eF11 (by decide) (by decide) (by decide) hRF9
    rw [tF9.1, tF9.2.1, tF9.2.2.1, tF9.2.2.2] at tF11
    clear tF9
    have w12 : F11 21 i6.toNatClampNeg = w9 := by rw [eF11, rl_stne (by decide)]; exact w10
    refine lv_aload_n hx hb d_m_ask_229 rfl (lv_at hl 2 rfl) ?_
    refine va_get (D := D) (ci := 5) (v := .ref (a 26)) (C := "RightsLimitModel") (T := fT_m) (N := 33) hx hb hG fi_m hown hK hP 0 rfl rfl 31 (by decide) (hG _ wd_514) (fun _ h9 => h9) rfl d_m_ask_230 ?_
    refine lv_iload hx hb d_m_ask_233 (lv_at hl 1 rfl) ?_
    refine lv_iconst (v := (-1)) hx hb d_m_ask_235 (by decide) ?_
    refine va_iast hx hb hK hP hD hS 26 0 rfl rfl (rl_in (n := 300) (by omega) (by omega)) d_m_ask_236 (fun H locs hP hD hS => ?_)
    obtain ⟨F13, eF13⟩ : ∃ G, G = rl_st F11 25 i6.toNatClampNeg (-1) := ⟨_, rfl⟩
    have hP : va_P D rl_cl (rm_w a kI kZ F13) H := by rw [eF13]; exact hP
    have hD : va_D A (rm_w a kI kZ F13) := by rw [eF13]; exact hD
    obtain ⟨tF13, hRF13⟩ := rm_keep eF13 (by decide) (by decide) (by decide) hRF11
    rw [tF11.1, tF11.2.1, tF11.2.2.1, tF11.2.2.2] at tF13
    clear tF11
    have w14 : F13 21 i6.toNatClampNeg = w9 := by rw [eF13, rl_stne (by decide)]; exact w12
    exact k_m_ask_237 l D a kI kZ F jn jt jk jg ju hI hx hb hr hml hown hG hlocks hK hA hN F13 ⟨by omega, by omega, by omega, by omega⟩ hRF13 i6 how w9 (by omega) (by omega) (by omega) (by omega) (by omega) (by omega) w14 (fun h9 => ⟨by omega, by omega⟩) hP hD hS (lv_sub hl [0, 1, 2, 3, 4, 5, 6, 7] rfl)
set_option maxHeartbeats 4000000 in
set_option maxRecDepth 100000 in
theorem k_m_ask_169 (l : Launch) (D : va_G) (a : Nat → Nat) (kI kZ : ClassId) (F : Nat → Nat → Int32) (jn jt jk jg ju : Int32) (hI : rm_I F) {p : Program} {e : Env} {s : State} {m : MethodId} {below : List Frame} {meth : Method} {c : Code} {A : Nat → Prop} (hx : p.tables.exec = Jvm.exec) (hb : c.code = prog_7_method_15_code) (hr : meth.sig.returnType = (some .int)) (hml : c.maxLocals = 8) (hown : s.vm.findClass "RightsLimitModel" = some m.cls) (hG : ∀ x ∈ rl_G, x.before ([.ref (a 0), .int jn, .int jt, .int jk, .int jg, .int ju] : List Value).toArray s = true) (hlocks : meth.locks = false) (hK : va_K D rl_cl (rl_tys kI kZ) s) (hA : ∀ q : Nat, s.heap.size ≤ q → A q) (hN : ∀ x ∈ ([] : List Cond), va_Nw x s) (Fz : Nat → Nat → Int32) (tFz : (Fz 27 2).toInt = (F 27 2).toInt ∧ (Fz 27 3).toInt = (F 27 3).toInt ∧ (Fz 27 4).toInt = (F 27 4).toInt ∧ (Fz 27 5).toInt = (F 27 5).toInt) (hRFz : rm_R Fz) (i6 how w9 : Int32) (h6 : i6.toInt = (F 27 5).toInt) (h6a : i6.toInt < 300) (hh0 : 0 ≤ how.toInt) (hh5 : how.toInt ≤ 5) (hjt0 : 0 ≤ jt.toInt) (hjt1 : jt.toInt < (F 27 2).toInt) (hw9 : Fz 21 i6.toNatClampNeg = w9) (hw8 : how.toInt = 2 → 0 ≤ w9.toInt ∧ w9.toInt < 50) {H : Heap} {locs : List Loc} {ls : Array Slot} (hP : va_P D rl_cl (rm_w a kI kZ Fz) H) (hD : va_D A (rm_w a kI kZ Fz)) (hS : va_S A s.heap H locs) (hl : lv_has ls 8 [(7, .int how), (6, .int i6), (0, .ref (a 0)), (1, .int jn), (2, .int jt), (3, .int jk), (4, .int jg), (5, .int ju)]) : W p l e ({ frames := 3, cells := 0, slots := 0, locals := 73 } : Room) s m ([.ref (a 0), .int jn, .int jt, .int jk, .int jg, .int ju] : List Value).toArray below meth c H locs 0 0 (MQ below (va_Qi (S := Nat → Nat → Int32) (fun (r : Int32) (F' : Nat → Nat → Int32) => rm_R F' ∧ ((F' 27 2).toInt = (F 27 2).toInt ∧ (F' 27 3).toInt = (F 27 3).toInt ∧ (F' 27 4).toInt = (F 27 4).toInt ∧ 0 ≤ (F' 27 5).toInt ∧ (F' 27 5).toInt ≤ 300)) (fun u t => va_P D rl_cl (rm_w a kI kZ u) t.heap ∧ va_D A (rm_w a kI kZ u)) A) ([.ref (a 0), .int jn, .int jt, .int jk, .int jg, .int ju] : List Value).toArray s 0 0 A) (F0 m 169 ls []) := by
  obtain ⟨hcnt, hR⟩ := id hI
  refine lv_aload_n hx hb d_m_ask_169 rfl (lv_at hl 2 rfl) ?_
  refine va_get (D := D) (ci := 5) (v := .ref (a 23)) (C := "RightsLimitModel") (T := fT_m) (N := 33) hx hb hG fi_m hown hK hP 0 rfl rfl 28 (by decide) (hG _ wd_511) (fun _ h9 => h9) rfl d_m_ask_170 ?_
  refine lv_iload hx hb d_m_ask_173 (lv_at hl 1 rfl) ?_
  refine lv_iload hx hb d_m_ask_175 (lv_at hl 0 rfl) ?_
  refine lv_iconst (v := 5) hx hb d_m_ask_177 (by decide) ?_
  refine lv_icmp_ne (tgt := 198) hx hb d_m_ask_178 (by decide) (fun c1 => ?_) (fun c1 => ?_)
  · have ic1 := rl_ine c1
    simp only [rl_n5] at ic1
    have nc1 : how.toInt < 5 := by omega
    clear ic1
    refine lv_iconst (v := 0) hx hb d_m_ask_198 (by decide) ?_
    refine va_iast hx hb hK hP hD hS 23 0 rfl rfl (rl_in (n := 300) (by omega) (by omega)) d_m_ask_199 (fun H locs hP hD hS => ?_)
    obtain ⟨F2, eF2⟩ : ∃ G, G = rl_st Fz 22 i6.toNatClampNeg 0 := ⟨_, rfl⟩
    have hP : va_P D rl_cl (rm_w a kI kZ F2) H := by rw [eF2]; exact hP
    have hD : va_D A (rm_w a kI kZ F2) := by rw [eF2]; exact hD
    obtain ⟨tF2, hRF2⟩ := rm_keep eF2 (by decide) (by decide) (by decide) hRFz
    rw [tFz.1, tFz.2.1, tFz.2.2.1, tFz.2.2.2] at tF2
    have w3 : F2 21 i6.toNatClampNeg = w9 := by rw [eF2, rl_stne (by decide)]; exact hw9
    exact k_m_ask_200 l D a kI kZ F jn jt jk jg ju hI hx hb hr hml hown hG hlocks hK hA hN F2 ⟨by omega, by omega, by omega, by omega⟩ hRF2 i6 how w9 (by omega) (by omega) (by omega) (by omega) (by omega) (by omega) w3 (fun h9 => ⟨by omega, by omega⟩) hP hD hS (lv_sub hl [0, 1, 2, 3, 4, 5, 6, 7] rfl)
  · have ic1 := rl_ieq c1
    simp only [rl_n5] at ic1
    refine lv_iload hx hb d_m_ask_181 (lv_at hl 6 rfl) ?_
    refine lv_aload_n hx hb d_m_ask_183 rfl (lv_at hl 2 rfl) ?_
    refine va_get (D := D) (ci := 5) (v := .ref (a 5)) (C := "RightsLimitModel") (T := fT_m) (N := 33) hx hb hG fi_m hown hK hP 0 rfl rfl 7 (by decide) (hG _ wd_490) (fun _ h9 => h9) rfl d_m_ask_184 ?_
    refine lv_aload_n hx hb d_m_ask_187 rfl (lv_at hl 2 rfl) ?_
    refine va_get (D := D) (ci := 5) (v := .ref (a 1)) (C := "RightsLimitModel") (T := fT_m) (N := 33) hx hb hG fi_m hown hK hP 0 rfl rfl 3 (by decide) (hG _ wd_486) (fun _ h9 => h9) rfl d_m_ask_188 ?_
    refine lv_iload_n hx hb d_m_ask_191 rfl (lv_at hl 4 rfl) ?_
    refine va_iald hx hb hK hP 1 0 rfl rfl (rl_in (n := 50) (by omega) (by omega)) d_m_ask_192 ?_
    refine lv_topi (fun v4 ev4 => ?_)
    have iv4 : 0 ≤ v4.toInt ∧ v4.toInt < 100 := by rw [ev4]; exact hRFz.1 _
    refine va_iald hx hb hK hP 5 0 rfl rfl (rl_in (n := 100) (by omega) (by omega)) d_m_ask_193 ?_
    refine lv_topi (fun v5 ev5 => ?_)
    refine lv_imul hx hb d_m_ask_194 ?_
    refine lv_topi (fun v6 ev6 => ?_)
    refine lv_goto (tgt := 199) hx hb d_m_ask_195 (by decide) ?_
    refine va_iast hx hb hK hP hD hS 23 0 rfl rfl (rl_in (n := 300) (by omega) (by omega)) d_m_ask_199 (fun H locs hP hD hS => ?_)
    obtain ⟨F7, eF7⟩ : ∃ G, G = rl_st Fz 22 i6.toNatClampNeg v6 := ⟨_, rfl⟩
    have hP : va_P D rl_cl (rm_w a kI kZ F7) H := by rw [eF7]; exact hP
    have hD : va_D A (rm_w a kI kZ F7) := by rw [eF7]; exact hD
    obtain ⟨tF7, hRF7⟩ := rm_keep eF7 (by decide) (by decide) (by decide) hRFz
    rw [tFz.1, tFz.2.1, tFz.2.2.1, tFz.2.2.2] at tF7
    have w8 : F7 21 i6.toNatClampNeg = w9 := by rw [eF7, rl_stne (by decide)]; exact hw9
    exact k_m_ask_200 l D a kI kZ F jn jt jk jg ju hI hx hb hr hml hown hG hlocks hK hA hN F7 ⟨by omega, by omega, by omega, by omega⟩ hRF7 i6 how w9 (by omega) (by omega) (by omega) (by omega) (by omega) (by omega) w8 (fun h9 => ⟨by omega, by omega⟩) hP hD hS (lv_sub hl [0, 1, 2, 3, 4, 5, 6, 7] rfl)
set_option maxHeartbeats 4000000 in
set_option maxRecDepth 100000 in
theorem k_m_ask_144 (l : Launch) (D : va_G) (a : Nat → Nat) (kI kZ : ClassId) (F : Nat → Nat → Int32) (jn jt jk jg ju : Int32) (hI : rm_I F) {p : Program} {e : Env} {s : State} {m : MethodId} {below : List Frame} {meth : Method} {c : Code} {A : Nat → Prop} (hx : p.tables.exec = Jvm.exec) (hb : c.code = prog_7_method_15_code) (hr : meth.sig.returnType = (some .int)) (hml : c.maxLocals = 8) (hown : s.vm.findClass "RightsLimitModel" = some m.cls) (hG : ∀ x ∈ rl_G, x.before ([.ref (a 0), .int jn, .int jt, .int jk, .int jg, .int ju] : List Value).toArray s = true) (hlocks : meth.locks = false) (hK : va_K D rl_cl (rl_tys kI kZ) s) (hA : ∀ q : Nat, s.heap.size ≤ q → A q) (hN : ∀ x ∈ ([] : List Cond), va_Nw x s) (Fz : Nat → Nat → Int32) (tFz : (Fz 27 2).toInt = (F 27 2).toInt ∧ (Fz 27 3).toInt = (F 27 3).toInt ∧ (Fz 27 4).toInt = (F 27 4).toInt ∧ (Fz 27 5).toInt = (F 27 5).toInt) (hRFz : rm_R Fz) (i6 how : Int32) (h6 : i6.toInt = (F 27 5).toInt) (h6a : i6.toInt < 300) (hh0 : 0 ≤ how.toInt) (hh5 : how.toInt ≤ 5) (hjt0 : 0 ≤ jt.toInt) (hjt1 : jt.toInt < (F 27 2).toInt) (hEx : rm_Ix how Fz jt jk ju) {H : Heap} {locs : List Loc} {ls : Array Slot} (hP : va_P D rl_cl (rm_w a kI kZ Fz) H) (hD : va_D A (rm_w a kI kZ Fz)) (hS : va_S A s.heap H locs) (hl : lv_has ls 8 [(7, .int how), (6, .int i6), (0, .ref (a 0)), (1, .int jn), (2, .int jt), (3, .int jk), (4, .int jg), (5, .int ju)]) : W p l e ({ frames := 3, cells := 0, slots := 0, locals := 73 } : Room) s m ([.ref (a 0), .int jn, .int jt, .int jk, .int jg, .int ju] : List Value).toArray below meth c H locs 0 0 (MQ below (va_Qi (S := Nat → Nat → Int32) (fun (r : Int32) (F' : Nat → Nat → Int32) => rm_R F' ∧ ((F' 27 2).toInt = (F 27 2).toInt ∧ (F' 27 3).toInt = (F 27 3).toInt ∧ (F' 27 4).toInt = (F 27 4).toInt ∧ 0 ≤ (F' 27 5).toInt ∧ (F' 27 5).toInt ≤ 300)) (fun u t => va_P D rl_cl (rm_w a kI kZ u) t.heap ∧ va_D A (rm_w a kI kZ u)) A) ([.ref (a 0), .int jn, .int jt, .int jk, .int jg, .int ju] : List Value).toArray s 0 0 A) (F0 m 144 ls []) := by
  obtain ⟨hcnt, hR⟩ := id hI
  refine lv_aload_n hx hb d_m_ask_144 rfl (lv_at hl 2 rfl) ?_
  refine va_get (D := D) (ci := 5) (v := .ref (a 22)) (C := "RightsLimitModel") (T := fT_m) (N := 33) hx hb hG fi_m hown hK hP 0 rfl rfl 27 (by decide) (hG _ wd_510) (fun _ h9 => h9) rfl d_m_ask_145 ?_
  refine lv_iload hx hb d_m_ask_148 (lv_at hl 1 rfl) ?_
  refine lv_iload hx hb d_m_ask_150 (lv_at hl 0 rfl) ?_
  refine lv_iconst (v := 2) hx hb d_m_ask_152 (by decide) ?_
  refine lv_icmp_ne (tgt := 167) hx hb d_m_ask_153 (by decide) (fun c1 => ?_) (fun c1 => ?_)
  · have ic1 := rl_ine c1
    simp only [rl_n2] at ic1
    refine lv_iconst (v := (-1)) hx hb d_m_ask_167 (by decide) ?_
    refine va_iast hx hb hK hP hD hS 22 0 rfl rfl (rl_in (n := 300) (by omega) (by omega)) d_m_ask_168 (fun H locs hP hD hS => ?_)
    obtain ⟨F2, eF2⟩ : ∃ G, G = rl_st Fz 21 i6.toNatClampNeg (-1) := ⟨_, rfl⟩
    have hP : va_P D rl_cl (rm_w a kI kZ F2) H := by rw [eF2]; exact hP
    have hD : va_D A (rm_w a kI kZ F2) := by rw [eF2]; exact hD
    obtain ⟨tF2, hRF2⟩ := rm_keep eF2 (by decide) (by decide) (by decide) hRFz
    rw [tFz.1, tFz.2.1, tFz.2.2.1, tFz.2.2.2] at tF2
    have w3 : F2 21 i6.toNatClampNeg = (-1) := by rw [eF2]; exact rl_steq
    have x4 : rm_Ix how F2 jt jk ju := fun h => rm_Ex.st eF2 (by decide) (hEx h)
    exact k_m_ask_169 l D a kI kZ F jn jt jk jg ju hI hx hb hr hml hown hG hlocks hK hA hN F2 ⟨by omega, by omega, by omega, by omega⟩ hRF2 i6 how (-1) (by omega) (by omega) (by omega) (by omega) (by omega) (by omega) w3 (fun h9 => ⟨by omega, by omega⟩) hP hD hS (lv_sub hl [0, 1, 2, 3, 4, 5, 6, 7] rfl)
  · have ic1 := rl_ieq c1
    simp only [rl_n2] at ic1
    refine lv_aload_n hx hb d_m_ask_156 rfl (lv_at hl 2 rfl) ?_
    refine lv_iload_n hx hb d_m_ask_157 rfl (lv_at hl 4 rfl) ?_
    refine lv_iload_n hx hb d_m_ask_158 rfl (lv_at hl 5 rfl) ?_
    refine lv_iload hx hb d_m_ask_159 (lv_at hl 7 rfl) ?_
    have hpre := rl_BR.pre (av := .ref (a 0) :: [.int jt, .int jk, .int ju]) rl_nw0 hP hK hN
    refine rl_callr hS (va_runV (As := [.int jt, .int jk, .int ju]) (rest := [.int i6, .ref (a 22)]) ⟨hx, hb, hml, hown, hG⟩ (k_m_licenceFor l D a kI kZ Fz jt jk ju ⟨by omega, hRFz⟩ _) (cwV 3 hG (rl_gV wd_623 wd_625 wd_9 wd_19 wd_626) rfl rfl rfl (by decide +kernel) ⟨Nat.le_of_ble_eq_true rfl, Nat.le_of_ble_eq_true rfl⟩) ⟨hpre.1, (va_recv hK hP (ci := 5) (q0 := 0) rfl rfl), hpre.2⟩ rfl rfl hl.1 rfl (lv_room (Nat.le_of_ble_eq_true rfl)) d_m_ask_161 ⟨Nat.le_of_ble_eq_true rfl, Nat.le_of_ble_eq_true rfl⟩) (fun r5 locs hw hS => ?_)
    have hwr5 := hw
    have yr5 : 0 ≤ r5.toInt ∧ r5.toInt < (Fz 27 4).toInt := by
      rcases hw with ⟨_, h⟩ | h
      · exact absurd (hEx (by omega)) h
      · exact h.1
    have zr5 : r5.toInt < 50 := by omega
    refine lv_goto (tgt := 168) hx hb d_m_ask_164 (by decide) ?_
    refine va_iast hx hb hK hP hD hS 22 0 rfl rfl (rl_in (n := 300) (by omega) (by omega)) d_m_ask_168 (fun H locs hP hD hS => ?_)
    obtain ⟨F6, eF6⟩ : ∃ G, G = rl_st Fz 21 i6.toNatClampNeg r5 := ⟨_, rfl⟩
    have hP : va_P D rl_cl (rm_w a kI kZ F6) H := by rw [eF6]; exact hP
    have hD : va_D A (rm_w a kI kZ F6) := by rw [eF6]; exact hD
    obtain ⟨tF6, hRF6⟩ := rm_keep eF6 (by decide) (by decide) (by decide) hRFz
    rw [tFz.1, tFz.2.1, tFz.2.2.1, tFz.2.2.2] at tF6
    have w7 : F6 21 i6.toNatClampNeg = r5 := by rw [eF6]; exact rl_steq
    have x8 : rm_Ix how F6 jt jk ju := fun h => rm_Ex.st eF6 (by decide) (hEx h)
    exact k_m_ask_169 l D a kI kZ F jn jt jk jg ju hI hx hb hr hml hown hG hlocks hK hA hN F6 ⟨by omega, by omega, by omega, by omega⟩ hRF6 i6 how r5 (by omega) (by omega) (by omega) (by omega) (by omega) (by omega) w7 (fun h9 => ⟨by omega, by omega⟩) hP hD hS (lv_sub hl [0, 1, 2, 3, 4, 5, 6, 7] rfl)
set_option maxHeartbeats 4000000 in
set_option maxRecDepth 100000 in
theorem k_m_ask_93 (l : Launch) (D : va_G) (a : Nat → Nat) (kI kZ : ClassId) (F : Nat → Nat → Int32) (jn jt jk jg ju : Int32) (hI : rm_I F) {p : Program} {e : Env} {s : State} {m : MethodId} {below : List Frame} {meth : Method} {c : Code} {A : Nat → Prop} (hx : p.tables.exec = Jvm.exec) (hb : c.code = prog_7_method_15_code) (hr : meth.sig.returnType = (some .int)) (hml : c.maxLocals = 8) (hown : s.vm.findClass "RightsLimitModel" = some m.cls) (hG : ∀ x ∈ rl_G, x.before ([.ref (a 0), .int jn, .int jt, .int jk, .int jg, .int ju] : List Value).toArray s = true) (hlocks : meth.locks = false) (hK : va_K D rl_cl (rl_tys kI kZ) s) (hA : ∀ q : Nat, s.heap.size ≤ q → A q) (hN : ∀ x ∈ ([] : List Cond), va_Nw x s) (Fz : Nat → Nat → Int32) (tFz : (Fz 27 2).toInt = (F 27 2).toInt ∧ (Fz 27 3).toInt = (F 27 3).toInt ∧ (Fz 27 4).toInt = (F 27 4).toInt ∧ (Fz 27 5).toInt = (F 27 5).toInt) (hRFz : rm_R Fz) (i6 how : Int32) (h6 : i6.toInt = (F 27 5).toInt) (h6a : i6.toInt < 300) (hh0 : 0 ≤ how.toInt) (hh5 : how.toInt ≤ 5) (hjt0 : 0 ≤ jt.toInt) (hjt1 : jt.toInt < (F 27 2).toInt) (hEx : rm_Ix how Fz jt jk ju) {H : Heap} {locs : List Loc} {ls : Array Slot} (hP : va_P D rl_cl (rm_w a kI kZ Fz) H) (hD : va_D A (rm_w a kI kZ Fz)) (hS : va_S A s.heap H locs) (hl : lv_has ls 8 [(7, .int how), (6, .int i6), (0, .ref (a 0)), (1, .int jn), (2, .int jt), (3, .int jk), (4, .int jg), (5, .int ju)]) : W p l e ({ frames := 3, cells := 0, slots := 0, locals := 73 } : Room) s m ([.ref (a 0), .int jn, .int jt, .int jk, .int jg, .int ju] : List Value).toArray below meth c H locs 0 0 (MQ below (va_Qi (S := Nat → Nat → Int32) (fun (r : Int32) (F' : Nat → Nat → Int32) => rm_R F' ∧ ((F' 27 2).toInt = (F 27 2).toInt ∧ (F' 27 3).toInt = (F 27 3).toInt ∧ (F' 27 4).toInt = (F 27 4).toInt ∧ 0 ≤ (F' 27 5).toInt ∧ (F' 27 5).toInt ≤ 300)) (fun u t => va_P D rl_cl (rm_w a kI kZ u) t.heap ∧ va_D A (rm_w a kI kZ u)) A) ([.ref (a 0), .int jn, .int jt, .int jk, .int jg, .int ju] : List Value).toArray s 0 0 A) (F0 m 93 ls []) := by
  obtain ⟨hcnt, hR⟩ := id hI
  refine lv_aload_n hx hb d_m_ask_93 rfl (lv_at hl 2 rfl) ?_
  refine va_get (D := D) (ci := 5) (v := .ref (a 16)) (C := "RightsLimitModel") (T := fT_m) (N := 33) hx hb hG fi_m hown hK hP 0 rfl rfl 21 (by decide) (hG _ wd_504) (fun _ h9 => h9) rfl d_m_ask_94 ?_
  refine lv_iload hx hb d_m_ask_97 (lv_at hl 1 rfl) ?_
  refine lv_iload_n hx hb d_m_ask_99 rfl (lv_at hl 3 rfl) ?_
  refine va_iast hx hb hK hP hD hS 16 0 rfl rfl (rl_in (n := 300) (by omega) (by omega)) d_m_ask_100 (fun H locs hP hD hS => ?_)
  obtain ⟨F1, eF1⟩ : ∃ G, G = rl_st Fz 15 i6.toNatClampNeg jn := ⟨_, rfl⟩
  have hP : va_P D rl_cl (rm_w a kI kZ F1) H := by rw [eF1]; exact hP
  have hD : va_D A (rm_w a kI kZ F1) := by rw [eF1]; exact hD
  obtain ⟨tF1, hRF1⟩ := rm_keep eF1 (by decide) (by decide) (by decide) hRFz
  rw [tFz.1, tFz.2.1, tFz.2.2.1, tFz.2.2.2] at tF1
  have x2 : rm_Ix how F1 jt jk ju := fun h => rm_Ex.st eF1 (by decide) (hEx h)
  refine lv_aload_n hx hb d_m_ask_101 rfl (lv_at hl 2 rfl) ?_
  refine va_get (D := D) (ci := 5) (v := .ref (a 17)) (C := "RightsLimitModel") (T := fT_m) (N := 33) hx hb hG fi_m hown hK hP 0 rfl rfl 22 (by decide) (hG _ wd_505) (fun _ h9 => h9) rfl d_m_ask_102 ?_
  refine lv_iload hx hb d_m_ask_105 (lv_at hl 1 rfl) ?_
  refine lv_iload_n hx hb d_m_ask_107 rfl (lv_at hl 4 rfl) ?_
  refine va_iast hx hb hK hP hD hS 17 0 rfl rfl (rl_in (n := 300) (by omega) (by omega)) d_m_ask_108 (fun H locs hP hD hS => ?_)
  obtain ⟨F3, eF3⟩ : ∃ G, G = rl_st F1 16 i6.toNatClampNeg jt := ⟨_, rfl⟩
  have hP : va_P D rl_cl (rm_w a kI kZ F3) H := by rw [eF3]; exact hP
  have hD : va_D A (rm_w a kI kZ F3) := by rw [eF3]; exact hD
  obtain ⟨tF3, hRF3⟩ := rm_keep eF3 (by decide) (by decide) (by decide) hRF1
  rw [tF1.1, tF1.2.1, tF1.2.2.1, tF1.2.2.2] at tF3
  clear tF1
  have x4 : rm_Ix how F3 jt jk ju := fun h => rm_Ex.st eF3 (by decide) (x2 h)
  refine lv_aload_n hx hb d_m_ask_109 rfl (lv_at hl 2 rfl) ?_
  refine va_get (D := D) (ci := 5) (v := .ref (a 18)) (C := "RightsLimitModel") (T := fT_m) (N := 33) hx hb hG fi_m hown hK hP 0 rfl rfl 23 (by decide) (hG _ wd_506) (fun _ h9 => h9) rfl d_m_ask_110 ?_
  refine lv_iload hx hb d_m_ask_113 (lv_at hl 1 rfl) ?_
  refine lv_iload_n hx hb d_m_ask_115 rfl (lv_at hl 5 rfl) ?_
  refine va_iast hx hb hK hP hD hS 18 0 rfl rfl (rl_in (n := 300) (by omega) (by omega)) d_m_ask_116 (fun H locs hP hD hS => ?_)
  obtain ⟨F5, eF5⟩ : ∃ G, G = rl_st F3 17 i6.toNatClampNeg jk := ⟨_, rfl⟩
  have hP : va_P D rl_cl (rm_w a kI kZ F5) H := by rw [eF5]; exact hP
  have hD : va_D A (rm_w a kI kZ F5) := by rw [eF5]; exact hD
  obtain ⟨tF5, hRF5⟩ := rm_keep eF5 (by decide) (by decide) (by decide) hRF3
  rw [tF3.1, tF3.2.1, tF3.2.2.1, tF3.2.2.2] at tF5
  clear tF3
  have x6 : rm_Ix how F5 jt jk ju := fun h => rm_Ex.st eF5 (by decide) (x4 h)
  refine lv_aload_n hx hb d_m_ask_117 rfl (lv_at hl 2 rfl) ?_
  refine va_get (D := D) (ci := 5) (v := .ref (a 19)) (C := "RightsLimitModel") (T := fT_m) (N := 33) hx hb hG fi_m hown hK hP 0 rfl rfl 24 (by decide) (hG _ wd_507) (fun _ h9 => h9) rfl d_m_ask_118 ?_
  refine lv_iload hx hb d_m_ask_121 (lv_at hl 1 rfl) ?_
  refine lv_iload hx hb d_m_ask_123 (lv_at hl 6 rfl) ?_
  refine va_iast hx hb hK hP hD hS 19 0 rfl rfl (rl_in (n := 300) (by omega) (by omega)) d_m_ask_125 (fun H locs hP hD hS => ?_)
  obtain ⟨F7, eF7⟩ : ∃ G, G = rl_st F5 18 i6.toNatClampNeg jg := ⟨_, rfl⟩
  have hP : va_P D rl_cl (rm_w a kI kZ F7) H := by rw [eF7]; exact hP
  have hD : va_D A (rm_w a kI kZ F7) := by rw [eF7]; exact hD
  obtain ⟨tF7, hRF7⟩ := rm_keep eF7 (by decide) (by decide) (by decide) hRF5
  rw [tF5.1, tF5.2.1, tF5.2.2.1, tF5.2.2.2] at tF7
  clear tF5
  have x8 : rm_Ix how F7 jt jk ju := fun h => rm_Ex.st eF7 (by decide) (x6 h)
  refine lv_aload_n hx hb d_m_ask_126 rfl (lv_at hl 2 rfl) ?_
  refine va_get (D := D) (ci := 5) (v := .ref (a 20)) (C := "RightsLimitModel") (T := fT_m) (N := 33) hx hb hG fi_m hown hK hP 0 rfl rfl 25 (by decide) (hG _ wd_508) (fun _ h9 => h9) rfl d_m_ask_127 ?_
  refine lv_iload hx hb d_m_ask_130 (lv_at hl 1 rfl) ?_
  refine lv_iload hx hb d_m_ask_132 (lv_at hl 7 rfl) ?_
  refine va_iast hx hb hK hP hD hS 20 0 rfl rfl (rl_in (n := 300) (by omega) (by omega)) d_m_ask_134 (fun H locs hP hD hS => ?_)
  obtain ⟨F9, eF9⟩ : ∃ G, G = rl_st F7 19 i6.toNatClampNeg ju := ⟨_, rfl⟩
  have hP : va_P D rl_cl (rm_w a kI kZ F9) H := by rw [eF9]; exact hP
  have hD : va_D A (rm_w a kI kZ F9) := by rw [eF9]; exact hD
  obtain ⟨tF9, hRF9⟩ := rm_keep eF9 (by decide) (by decide) (by decide) hRF7
  rw [tF7.1, tF7.2.1, tF7.2.2.1, tF7.2.2.2] at tF9
  clear tF7
  have x10 : rm_Ix how F9 jt jk ju := fun h => rm_Ex.st eF9 (by decide) (x8 h)
  refine lv_aload_n hx hb d_m_ask_135 rfl (lv_at hl 2 rfl) ?_
  refine va_get (D := D) (ci := 5) (v := .ref (a 21)) (C := "RightsLimitModel") (T := fT_m) (N := 33) hx hb hG fi_m hown hK hP 0 rfl rfl 26 (by decide) (hG _ wd_509) (fun _ h9 => h9) rfl d_m_ask_136 ?_
  refine lv_iload hx hb d_m_ask_139 (lv_at hl 1 rfl) ?_
  refine lv_iload hx hb d_m_ask_141 (lv_at hl 0 rfl) ?_
  refine va_iast hx hb hK hP hD hS 21 0 rfl rfl (rl_in (n := 300) (by omega) (by omega)) d_m_ask_143 (fun H locs hP hD hS => ?_)
  obtain ⟨F11, eF11⟩ : ∃ G, G = rl_st F9 20 i6.toNatClampNeg how := ⟨_, rfl⟩
  have hP : va_P D rl_cl (rm_w a kI kZ F11) H := by rw [eF11]; exact hP
  have hD : va_D A (rm_w a kI kZ F11) := by rw [eF11]; exact hD
  obtain ⟨tF11, hRF11⟩ := rm_keep eF11 (by decide) (by decide) (by decide) hRF9
  rw [tF9.1, tF9.2.1, tF9.2.2.1, tF9.2.2.2] at tF11
  clear tF9
  have x12 : rm_Ix how F11 jt jk ju := fun h => rm_Ex.st eF11 (by decide) (x10 h)
  exact k_m_ask_144 l D a kI kZ F jn jt jk jg ju hI hx hb hr hml hown hG hlocks hK hA hN F11 ⟨by omega, by omega, by omega, by omega⟩ hRF11 i6 how (by omega) (by omega) (by omega) (by omega) (by omega) (by omega) x12 hP hD hS (lv_sub hl [0, 1, 2, 3, 4, 5, 6, 7] rfl)
set_option maxHeartbeats 4000000 in
set_option maxRecDepth 100000 in
theorem k_m_ask (l : Launch) (D : va_G) (a : Nat → Nat) (kI kZ : ClassId) (F : Nat → Nat → Int32) (jn jt jk jg ju : Int32) (hI : rm_I F) (sz : Nat) : rl_Ci (S := Nat → Nat → Int32) l ⟨"RightsLimitModel", "ask", "(IIIII)I"⟩ (Cond.code ⟨"RightsLimitModel", "ask", "(IIIII)I"⟩ prog_7_method_15_code 8 (some .int) :: rl_G) { frames := 3, cells := 0, slots := 0, locals := 73 } D rl_cl (rl_tys kI kZ) [] [.ref (a 0), .int jn, .int jt, .int jk, .int jg, .int ju] (rm_w a kI kZ F) sz (fun (r : Int32) (F' : Nat → Nat → Int32) => rm_R F' ∧ ((F' 27 2).toInt = (F 27 2).toInt ∧ (F' 27 3).toInt = (F 27 3).toInt ∧ (F' 27 4).toInt = (F 27 4).toInt ∧ 0 ≤ (F' 27 5).toInt ∧ (F' 27 5).toInt ≤ 300)) (fun F' => rm_w a kI kZ F') 0 0 := by
  refine rl_meti (cc := prog_7_method_15_code) (maxL := 8) (ret := (some .int)) (by decide) rfl (Nat.le_of_ble_eq_true rfl) ?_
  intro p e s m below meth c A ls hx hb hr hml hown hts hlocks hnm hP hK hD hS hA hN hl
  have hown : s.vm.findClass "RightsLimitModel" = some m.cls := hown
  have hG : ∀ x ∈ rl_G, x.before _ s = true := fun x h => hts x (List.mem_cons_of_mem _ h)
  have hl : lv_has ls 8 [(0, .ref (a 0)), (1, .int jn), (2, .int jt), (3, .int jk), (4, .int jg), (5, .int ju)] := hl
  obtain ⟨hcnt, hR⟩ := id hI
  refine lv_aload_n hx hb d_m_ask_0 rfl (lv_at hl 0 rfl) ?_
  refine lv_iconst (v := 0) hx hb d_m_ask_1 (by decide) ?_
  refine va_put (D := D) (ci := 5) (v := .int 0) (ty := .int) (C := "RightsLimitModel") (T := fT_m) (N := 33) hx hb hG fi_m fy_m fo_m fn_m hown hK hP hD hS 0 rfl rfl 0 (by decide) (hG _ wd_483) (fun _ h9 => h9) rfl (by decide +kernel) rfl rfl (Nat.le_of_ble_eq_true rfl) d_m_ask_2 (fun H locs hP hD hS => ?_)
  obtain ⟨F1, eF1⟩ : ∃ G, G = rl_st F 27 0 0 := ⟨_, rfl⟩
  have hP : va_P D rl_cl (rm_w a kI kZ F1) H := by rw [eF1]; exact hP
  have hD : va_D A (rm_w a kI kZ F1) := by rw [eF1]; exact hD
  obtain ⟨tF1, hRF1⟩ := rm_putS eF1 (by decide) (by decide) (by decide) (by decide) hR
  refine lv_aload_n hx hb d_m_ask_5 rfl (lv_at hl 0 rfl) ?_
  refine lv_iload_n hx hb d_m_ask_6 rfl (lv_at hl 2 rfl) ?_
  have hpre := rl_BR.pre (av := .ref (a 0) :: [.int jt]) rl_nw0 hP hK hN
  refine rl_callr hS (va_runV (As := [.int jt]) (rest := []) ⟨hx, hb, hml, hown, hG⟩ (k_m_isTitle l D a kI kZ F1 jt ⟨by omega, hRF1⟩ _) (cwV 1 hG (rl_gV wd_594 wd_596 wd_6 wd_19 wd_597) rfl rfl rfl (by decide +kernel) ⟨Nat.le_of_ble_eq_true rfl, Nat.le_of_ble_eq_true rfl⟩) ⟨hpre.1, (va_recv hK hP (ci := 5) (q0 := 0) rfl rfl), hpre.2⟩ rfl rfl hl.1 rfl (lv_room (Nat.le_of_ble_eq_true rfl)) d_m_ask_7 ⟨Nat.le_of_ble_eq_true rfl, Nat.le_of_ble_eq_true rfl⟩) (fun r2 locs hw hS => ?_)
  rcases hw with ⟨rfl, h3⟩ | ⟨rfl, h3⟩
  · refine lv_if_ne (tgt := 15) hx hb d_m_ask_10 (by decide) (fun _ => ?_) (fun c9 => absurd c9 (by decide))
    refine lv_iload_n hx hb d_m_ask_15 rfl (lv_at hl 1 rfl) ?_
    refine lv_iconst (v := 0) hx hb d_m_ask_16 (by decide) ?_
    refine lv_bipush (v := 99) hx hb d_m_ask_17 (by decide) ?_
    refine rl_callr hS (va_runS (As := [.int jn, .int 0, .int 99]) (rest := []) ⟨hx, hb, hml, hown, hG⟩ (k_m_in l D a kI kZ jn 0 99 _) (cwS 3 hG (rl_gS wd_587 wd_588 wd_19 wd_589) rfl rfl rfl (by decide +kernel) ⟨Nat.le_of_ble_eq_true rfl, Nat.le_of_ble_eq_true rfl⟩) (rl_BR.pre rl_nw0 rl_P0 hK hN) rfl rfl hl.1 rfl (lv_room (Nat.le_of_ble_eq_true rfl)) d_m_ask_19 ⟨Nat.le_of_ble_eq_true rfl, Nat.le_of_ble_eq_true rfl⟩) (fun r4 locs hw hS => ?_)
    try simp only [rl_n0, rl_n99] at hw
    rcases hw with ⟨rfl, h5⟩ | ⟨rfl, h5⟩
    · refine lv_if_eq (tgt := 55) hx hb d_m_ask_22 (by decide) (fun c9 => absurd c9 (by decide)) (fun _ => ?_)
      refine lv_iload_n hx hb d_m_ask_25 rfl (lv_at hl 3 rfl) ?_
      refine lv_iconst (v := 0) hx hb d_m_ask_26 (by decide) ?_
      refine lv_iconst (v := 1) hx hb d_m_ask_27 (by decide) ?_
      refine rl_callr hS (va_runS (As := [.int jk, .int 0, .int 1]) (rest := []) ⟨hx, hb, hml, hown, hG⟩ (k_m_in l D a kI kZ jk 0 1 _) (cwS 3 hG (rl_gS wd_587 wd_588 wd_19 wd_589) rfl rfl rfl (by decide +kernel) ⟨Nat.le_of_ble_eq_true rfl, Nat.le_of_ble_eq_true rfl⟩) (rl_BR.pre rl_nw0 rl_P0 hK hN) rfl rfl hl.1 rfl (lv_room (Nat.le_of_ble_eq_true rfl)) d_m_ask_28 ⟨Nat.le_of_ble_eq_true rfl, Nat.le_of_ble_eq_true rfl⟩) (fun r6 locs hw hS => ?_)
      try simp only [rl_n0, rl_n1] at hw
      rcases hw with ⟨rfl, h7⟩ | ⟨rfl, h7⟩
      · refine lv_if_eq (tgt := 55) hx hb d_m_ask_31 (by decide) (fun c9 => absurd c9 (by decide)) (fun _ => ?_)
        refine lv_iload hx hb d_m_ask_34 (lv_at hl 4 rfl) ?_
        refine lv_iconst (v := 1) hx hb d_m_ask_36 (by decide) ?_
        refine lv_sipush (v := 1000) hx hb d_m_ask_37 (by decide) ?_
        refine rl_callr hS (va_runS (As := [.int jg, .int 1, .int 1000]) (rest := []) ⟨hx, hb, hml, hown, hG⟩ (k_m_in l D a kI kZ jg 1 1000 _) (cwS 3 hG (rl_gS wd_587 wd_588 wd_19 wd_589) rfl rfl rfl (by decide +kernel) ⟨Nat.le_of_ble_eq_true rfl, Nat.le_of_ble_eq_true rfl⟩) (rl_BR.pre rl_nw0 rl_P0 hK hN) rfl rfl hl.1 rfl (lv_room (Nat.le_of_ble_eq_true rfl)) d_m_ask_40 ⟨Nat.le_of_ble_eq_true rfl, Nat.le_of_ble_eq_true rfl⟩) (fun r8 locs hw hS => ?_)
        try simp only [rl_n1, rl_n1000] at hw
        rcases hw with ⟨rfl, h9⟩ | ⟨rfl, h9⟩
        · refine lv_if_eq (tgt := 55) hx hb d_m_ask_43 (by decide) (fun c9 => absurd c9 (by decide)) (fun _ => ?_)
          refine lv_aload_n hx hb d_m_ask_46 rfl (lv_at hl 0 rfl) ?_
          refine lv_iload hx hb d_m_ask_47 (lv_at hl 5 rfl) ?_
          have hpre := rl_BR.pre (av := .ref (a 0) :: [.int ju]) rl_nw0 hP hK hN
          refine rl_callr hS (va_runV (As := [.int ju]) (rest := []) ⟨hx, hb, hml, hown, hG⟩ (k_m_isNow l D a kI kZ F1 ju ⟨by omega, hRF1⟩ _) (cwV 1 hG (rl_gV wd_615 wd_617 wd_7 wd_19 wd_618) rfl rfl rfl (by decide +kernel) ⟨Nat.le_of_ble_eq_true rfl, Nat.le_of_ble_eq_true rfl⟩) ⟨hpre.1, (va_recv hK hP (ci := 5) (q0 := 0) rfl rfl), hpre.2⟩ rfl rfl hl.1 rfl (lv_room (Nat.le_of_ble_eq_true rfl)) d_m_ask_49 ⟨Nat.le_of_ble_eq_true rfl, Nat.le_of_ble_eq_true rfl⟩) (fun r10 locs hw hS => ?_)
          rcases hw with ⟨rfl, h11⟩ | ⟨rfl, h11⟩
          · refine lv_if_ne (tgt := 58) hx hb d_m_ask_52 (by decide) (fun _ => ?_) (fun c9 => absurd c9 (by decide))
            refine lv_aload_n hx hb d_m_ask_58 rfl (lv_at hl 0 rfl) ?_
            refine va_get (D := D) (ci := 5) (v := .int (F1 27 5)) (C := "RightsLimitModel") (T := fT_m) (N := 33) hx hb hG fi_m hown hK hP 0 rfl rfl 20 (by decide) (hG _ wd_503) (fun _ h9 => h9) rfl d_m_ask_59 ?_
            refine lv_sipush (v := 300) hx hb d_m_ask_62 (by decide) ?_
            refine lv_icmp_ne (tgt := 71) hx hb d_m_ask_65 (by decide) (fun c12 => ?_) (fun c12 => ?_)
            · have ic12 := rl_ine c12
              simp only [rl_n300] at ic12
              have nc12 : (F1 27 5).toInt < 300 := by omega
              clear ic12
              refine lv_aload_n hx hb d_m_ask_71 rfl (lv_at hl 0 rfl) ?_
              refine lv_iload hx hb d_m_ask_72 (lv_at hl 5 rfl) ?_
              refine va_put (D := D) (ci := 5) (v := .int ju) (ty := .int) (C := "RightsLimitModel") (T := fT_m) (N := 33) hx hb hG fi_m fy_m fo_m fn_m hown hK hP hD hS 0 rfl rfl 1 (by decide) (hG _ wd_484) (fun _ h9 => h9) rfl (by decide +kernel) rfl rfl (Nat.le_of_ble_eq_true rfl) d_m_ask_74 (fun H locs hP hD hS => ?_)
              obtain ⟨F13, eF13⟩ : ∃ G, G = rl_st F1 27 1 ju := ⟨_, rfl⟩
              have hP : va_P D rl_cl (rm_w a kI kZ F13) H := by rw [eF13]; exact hP
              have hD : va_D A (rm_w a kI kZ F13) := by rw [eF13]; exact hD
              obtain ⟨tF13, hRF13⟩ := rm_putS eF13 (by decide) (by decide) (by decide) (by decide) hRF1
              rw [tF1.1, tF1.2.1, tF1.2.2.1, tF1.2.2.2] at tF13
              refine lv_aload_n hx hb d_m_ask_77 rfl (lv_at hl 0 rfl) ?_
              refine va_get (D := D) (ci := 5) (v := .int (F13 27 5)) (C := "RightsLimitModel") (T := fT_m) (N := 33) hx hb hG fi_m hown hK hP 0 rfl rfl 20 (by decide) (hG _ wd_503) (fun _ h9 => h9) rfl d_m_ask_78 ?_
              refine lv_istore (lv' := [(6, .int (F13 27 5)), (0, .ref (a 0)), (1, .int jn), (2, .int jt), (3, .int jk), (4, .int jg), (5, .int ju)]) hx hb d_m_ask_81 hl (by decide) rfl (fun ls hl => ?_)
              refine lv_aload_n hx hb d_m_ask_83 rfl (lv_at hl 1 rfl) ?_
              refine lv_iload_n hx hb d_m_ask_84 rfl (lv_at hl 3 rfl) ?_
              refine lv_iload_n hx hb d_m_ask_85 rfl (lv_at hl 4 rfl) ?_
              refine lv_iload hx hb d_m_ask_86 (lv_at hl 6 rfl) ?_
              have hpre := rl_BR.pre (av := .ref (a 0) :: [.int jt, .int jk, .int ju]) rl_nw0 hP hK hN
              refine rl_callr hS (va_runV (As := [.int jt, .int jk, .int ju]) (rest := []) ⟨hx, hb, hml, hown, hG⟩ (k_m_decide l D a kI kZ F13 jt jk ju ⟨by omega, hRF13⟩ (by omega) (by omega) _) (cwV 3 hG (rl_gV wd_619 wd_621 wd_8 wd_19 wd_622) rfl rfl rfl (by decide +kernel) ⟨Nat.le_of_ble_eq_true rfl, Nat.le_of_ble_eq_true rfl⟩) ⟨hpre.1, (va_recv hK hP (ci := 5) (q0 := 0) rfl rfl), hpre.2⟩ rfl rfl hl.1 rfl (lv_room (Nat.le_of_ble_eq_true rfl)) d_m_ask_88 ⟨Nat.le_of_ble_eq_true rfl, Nat.le_of_ble_eq_true rfl⟩) (fun r14 locs hw hS => ?_)
              have hwr14 := hw
              have xr14 := hw.2
              refine lv_istore (lv' := [(7, .int r14), (6, .int (F13 27 5)), (0, .ref (a 0)), (1, .int jn), (2, .int jt), (3, .int jk), (4, .int jg), (5, .int ju)]) hx hb d_m_ask_91 hl (by decide) rfl (fun ls hl => ?_)
              exact k_m_ask_93 l D a kI kZ F jn jt jk jg ju hI hx hb hr hml hown hG hlocks hK hA hN F13 ⟨by omega, by omega, by omega, by omega⟩ hRF13 (F13 27 5) r14 (by omega) (by omega) (by omega) (by omega) (by omega) (by omega) xr14 hP hD hS (lv_sub hl [0, 1, 2, 3, 4, 5, 6, 7] rfl)
            · have ic12 := rl_ieq c12
              simp only [rl_n300] at ic12
              refine lv_bipush (v := (-4)) hx hb d_m_ask_68 (by decide) ?_
              exact W.iret (v := (-4)) hx hb hr (fun t ht hW => ⟨⟨(-4), F1, rfl, ⟨hRF1, (show (F1 27 2).toInt = (F 27 2).toInt ∧ (F1 27 3).toInt = (F 27 3).toInt ∧ (F1 27 4).toInt = (F 27 4).toInt ∧ 0 ≤ (F1 27 5).toInt ∧ (F1 27 5).toInt ≤ 300 by have q9 := rl_nm4; omega)⟩, ⟨by rw [ht]; exact hP, hD⟩⟩, hS.F ht⟩) hS.2.2 d_m_ask_70
          · refine lv_if_ne (tgt := 58) hx hb d_m_ask_52 (by decide) (fun c9 => absurd c9 (by decide)) (fun _ => ?_)
            refine lv_bipush (v := (-2)) hx hb d_m_ask_55 (by decide) ?_
            exact W.iret (v := (-2)) hx hb hr (fun t ht hW => ⟨⟨(-2), F1, rfl, ⟨hRF1, (show (F1 27 2).toInt = (F 27 2).toInt ∧ (F1 27 3).toInt = (F 27 3).toInt ∧ (F1 27 4).toInt = (F 27 4).toInt ∧ 0 ≤ (F1 27 5).toInt ∧ (F1 27 5).toInt ≤ 300 by have q9 := rl_nm2; omega)⟩, ⟨by rw [ht]; exact hP, hD⟩⟩, hS.F ht⟩) hS.2.2 d_m_ask_57
        · refine lv_if_eq (tgt := 55) hx hb d_m_ask_43 (by decide) (fun _ => ?_) (fun c9 => absurd c9 (by decide))
          refine lv_bipush (v := (-2)) hx hb d_m_ask_55 (by decide) ?_
          exact W.iret (v := (-2)) hx hb hr (fun t ht hW => ⟨⟨(-2), F1, rfl, ⟨hRF1, (show (F1 27 2).toInt = (F 27 2).toInt ∧ (F1 27 3).toInt = (F 27 3).toInt ∧ (F1 27 4).toInt = (F 27 4).toInt ∧ 0 ≤ (F1 27 5).toInt ∧ (F1 27 5).toInt ≤ 300 by have q9 := rl_nm2; omega)⟩, ⟨by rw [ht]; exact hP, hD⟩⟩, hS.F ht⟩) hS.2.2 d_m_ask_57
      · refine lv_if_eq (tgt := 55) hx hb d_m_ask_31 (by decide) (fun _ => ?_) (fun c9 => absurd c9 (by decide))
        refine lv_bipush (v := (-2)) hx hb d_m_ask_55 (by decide) ?_
        exact W.iret (v := (-2)) hx hb hr (fun t ht hW => ⟨⟨(-2), F1, rfl, ⟨hRF1, (show (F1 27 2).toInt = (F 27 2).toInt ∧ (F1 27 3).toInt = (F 27 3).toInt ∧ (F1 27 4).toInt = (F 27 4).toInt ∧ 0 ≤ (F1 27 5).toInt ∧ (F1 27 5).toInt ≤ 300 by have q9 := rl_nm2; omega)⟩, ⟨by rw [ht]; exact hP, hD⟩⟩, hS.F ht⟩) hS.2.2 d_m_ask_57
    · refine lv_if_eq (tgt := 55) hx hb d_m_ask_22 (by decide) (fun _ => ?_) (fun c9 => absurd c9 (by decide))
      refine lv_bipush (v := (-2)) hx hb d_m_ask_55 (by decide) ?_
      exact W.iret (v := (-2)) hx hb hr (fun t ht hW => ⟨⟨(-2), F1, rfl, ⟨hRF1, (show (F1 27 2).toInt = (F 27 2).toInt ∧ (F1 27 3).toInt = (F 27 3).toInt ∧ (F1 27 4).toInt = (F 27 4).toInt ∧ 0 ≤ (F1 27 5).toInt ∧ (F1 27 5).toInt ≤ 300 by have q9 := rl_nm2; omega)⟩, ⟨by rw [ht]; exact hP, hD⟩⟩, hS.F ht⟩) hS.2.2 d_m_ask_57
  · refine lv_if_ne (tgt := 15) hx hb d_m_ask_10 (by decide) (fun c9 => absurd c9 (by decide)) (fun _ => ?_)
    refine lv_iconst (v := (-1)) hx hb d_m_ask_13 (by decide) ?_
    exact W.iret (v := (-1)) hx hb hr (fun t ht hW => ⟨⟨(-1), F1, rfl, ⟨hRF1, (show (F1 27 2).toInt = (F 27 2).toInt ∧ (F1 27 3).toInt = (F 27 3).toInt ∧ (F1 27 4).toInt = (F 27 4).toInt ∧ 0 ≤ (F1 27 5).toInt ∧ (F1 27 5).toInt ≤ 300 by have q9 := rl_nm1; omega)⟩, ⟨by rw [ht]; exact hP, hD⟩⟩, hS.F ht⟩) hS.2.2 d_m_ask_14
end
